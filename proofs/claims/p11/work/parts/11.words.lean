set_option maxRecDepth 16384 in
theorem bad_o_tables_1_1_0 : ((tables_1_1).take 20).all (fun c => su_isCode c || c.before start1.args0 bad) = true := by decide +kernel
set_option maxRecDepth 16384 in
theorem bad_o_tables_1_1_1 : (((tables_1_1).drop 20).take 20).all (fun c => su_isCode c || c.before start1.args0 bad) = true := by decide +kernel
set_option maxRecDepth 16384 in
theorem bad_o_tables_1_1_2 : ((((tables_1_1).drop 20).drop 20).take 20).all (fun c => su_isCode c || c.before start1.args0 bad) = true := by decide +kernel
set_option maxRecDepth 16384 in
theorem bad_o_tables_1_1_3 : (((((tables_1_1).drop 20).drop 20).drop 20).take 20).all (fun c => su_isCode c || c.before start1.args0 bad) = true := by decide +kernel
set_option maxRecDepth 16384 in
theorem bad_o_tables_1_1_4 : ((((((tables_1_1).drop 20).drop 20).drop 20).drop 20).take 20).all (fun c => su_isCode c || c.before start1.args0 bad) = true := by decide +kernel
set_option maxRecDepth 16384 in
theorem bad_o_tables_1_1_5 : (((((((tables_1_1).drop 20).drop 20).drop 20).drop 20).drop 20).take 20).all (fun c => su_isCode c || c.before start1.args0 bad) = true := by decide +kernel
set_option maxRecDepth 16384 in
theorem bad_o_tables_1_1_6 : ((((((((tables_1_1).drop 20).drop 20).drop 20).drop 20).drop 20).drop 20).take 20).all (fun c => su_isCode c || c.before start1.args0 bad) = true := by decide +kernel
set_option maxRecDepth 16384 in
theorem bad_o_tables_1_1_7 : (((((((((tables_1_1).drop 20).drop 20).drop 20).drop 20).drop 20).drop 20).drop 20).take 20).all (fun c => su_isCode c || c.before start1.args0 bad) = true := by decide +kernel
set_option maxRecDepth 16384 in
theorem bad_o_tables_1_1_8 : ((((((((((tables_1_1).drop 20).drop 20).drop 20).drop 20).drop 20).drop 20).drop 20).drop 20).take 20).all (fun c => su_isCode c || c.before start1.args0 bad) = true := by decide +kernel
set_option maxRecDepth 16384 in
theorem bad_o_tables_1_1_9 : (((((((((((tables_1_1).drop 20).drop 20).drop 20).drop 20).drop 20).drop 20).drop 20).drop 20).drop 20).take 20).all (fun c => su_isCode c || c.before start1.args0 bad) = true := by decide +kernel
set_option maxRecDepth 16384 in
theorem bad_o_tables_1_1_10 : ((((((((((((tables_1_1).drop 20).drop 20).drop 20).drop 20).drop 20).drop 20).drop 20).drop 20).drop 20).drop 20).take 20).all (fun c => su_isCode c || c.before start1.args0 bad) = true := by decide +kernel
set_option maxRecDepth 16384 in
theorem bad_o_tables_1_1_11 : (((((((((((((tables_1_1).drop 20).drop 20).drop 20).drop 20).drop 20).drop 20).drop 20).drop 20).drop 20).drop 20).drop 20).take 20).all (fun c => su_isCode c || c.before start1.args0 bad) = true := by decide +kernel
set_option maxRecDepth 16384 in
theorem bad_o_tables_1_1_12 : (((((((((((((tables_1_1).drop 20).drop 20).drop 20).drop 20).drop 20).drop 20).drop 20).drop 20).drop 20).drop 20).drop 20).drop 20).all (fun c => su_isCode c || c.before start1.args0 bad) = true := by decide +kernel
theorem bad_o_tables_1_1 : tables_1_1.all (fun c => su_isCode c || c.before start1.args0 bad) = true := start1.su_all_split _ 20 _ bad_o_tables_1_1_0 (start1.su_all_split _ 20 _ bad_o_tables_1_1_1 (start1.su_all_split _ 20 _ bad_o_tables_1_1_2 (start1.su_all_split _ 20 _ bad_o_tables_1_1_3 (start1.su_all_split _ 20 _ bad_o_tables_1_1_4 (start1.su_all_split _ 20 _ bad_o_tables_1_1_5 (start1.su_all_split _ 20 _ bad_o_tables_1_1_6 (start1.su_all_split _ 20 _ bad_o_tables_1_1_7 (start1.su_all_split _ 20 _ bad_o_tables_1_1_8 (start1.su_all_split _ 20 _ bad_o_tables_1_1_9 (start1.su_all_split _ 20 _ bad_o_tables_1_1_10 (start1.su_all_split _ 20 _ bad_o_tables_1_1_11 (bad_o_tables_1_1_12))))))))))))
set_option maxRecDepth 16384 in
theorem bad_o_tables_1_2_0 : ((tables_1_2).take 20).all (fun c => su_isCode c || c.before start1.args0 bad) = true := by decide +kernel
set_option maxRecDepth 16384 in
theorem bad_o_tables_1_2_1 : (((tables_1_2).drop 20).take 20).all (fun c => su_isCode c || c.before start1.args0 bad) = true := by decide +kernel
set_option maxRecDepth 16384 in
theorem bad_o_tables_1_2_2 : ((((tables_1_2).drop 20).drop 20).take 20).all (fun c => su_isCode c || c.before start1.args0 bad) = true := by decide +kernel
set_option maxRecDepth 16384 in
theorem bad_o_tables_1_2_3 : (((((tables_1_2).drop 20).drop 20).drop 20).take 20).all (fun c => su_isCode c || c.before start1.args0 bad) = true := by decide +kernel
set_option maxRecDepth 16384 in
theorem bad_o_tables_1_2_4 : ((((((tables_1_2).drop 20).drop 20).drop 20).drop 20).take 20).all (fun c => su_isCode c || c.before start1.args0 bad) = true := by decide +kernel
set_option maxRecDepth 16384 in
theorem bad_o_tables_1_2_5 : (((((((tables_1_2).drop 20).drop 20).drop 20).drop 20).drop 20).take 20).all (fun c => su_isCode c || c.before start1.args0 bad) = true := by decide +kernel
set_option maxRecDepth 16384 in
theorem bad_o_tables_1_2_6 : ((((((((tables_1_2).drop 20).drop 20).drop 20).drop 20).drop 20).drop 20).take 20).all (fun c => su_isCode c || c.before start1.args0 bad) = true := by decide +kernel
set_option maxRecDepth 16384 in
theorem bad_o_tables_1_2_7 : (((((((((tables_1_2).drop 20).drop 20).drop 20).drop 20).drop 20).drop 20).drop 20).take 20).all (fun c => su_isCode c || c.before start1.args0 bad) = true := by decide +kernel
set_option maxRecDepth 16384 in
theorem bad_o_tables_1_2_8 : ((((((((((tables_1_2).drop 20).drop 20).drop 20).drop 20).drop 20).drop 20).drop 20).drop 20).take 20).all (fun c => su_isCode c || c.before start1.args0 bad) = true := by decide +kernel
set_option maxRecDepth 16384 in
theorem bad_o_tables_1_2_9 : (((((((((((tables_1_2).drop 20).drop 20).drop 20).drop 20).drop 20).drop 20).drop 20).drop 20).drop 20).take 20).all (fun c => su_isCode c || c.before start1.args0 bad) = true := by decide +kernel
set_option maxRecDepth 16384 in
theorem bad_o_tables_1_2_10 : ((((((((((((tables_1_2).drop 20).drop 20).drop 20).drop 20).drop 20).drop 20).drop 20).drop 20).drop 20).drop 20).take 20).all (fun c => su_isCode c || c.before start1.args0 bad) = true := by decide +kernel
set_option maxRecDepth 16384 in
theorem bad_o_tables_1_2_11 : (((((((((((((tables_1_2).drop 20).drop 20).drop 20).drop 20).drop 20).drop 20).drop 20).drop 20).drop 20).drop 20).drop 20).take 20).all (fun c => su_isCode c || c.before start1.args0 bad) = true := by decide +kernel
set_option maxRecDepth 16384 in
theorem bad_o_tables_1_2_12 : (((((((((((((tables_1_2).drop 20).drop 20).drop 20).drop 20).drop 20).drop 20).drop 20).drop 20).drop 20).drop 20).drop 20).drop 20).all (fun c => su_isCode c || c.before start1.args0 bad) = true := by decide +kernel
theorem bad_o_tables_1_2 : tables_1_2.all (fun c => su_isCode c || c.before start1.args0 bad) = true := start1.su_all_split _ 20 _ bad_o_tables_1_2_0 (start1.su_all_split _ 20 _ bad_o_tables_1_2_1 (start1.su_all_split _ 20 _ bad_o_tables_1_2_2 (start1.su_all_split _ 20 _ bad_o_tables_1_2_3 (start1.su_all_split _ 20 _ bad_o_tables_1_2_4 (start1.su_all_split _ 20 _ bad_o_tables_1_2_5 (start1.su_all_split _ 20 _ bad_o_tables_1_2_6 (start1.su_all_split _ 20 _ bad_o_tables_1_2_7 (start1.su_all_split _ 20 _ bad_o_tables_1_2_8 (start1.su_all_split _ 20 _ bad_o_tables_1_2_9 (start1.su_all_split _ 20 _ bad_o_tables_1_2_10 (start1.su_all_split _ 20 _ bad_o_tables_1_2_11 (bad_o_tables_1_2_12))))))))))))
set_option maxRecDepth 16384 in
theorem bad_o_tables_1_3_0 : ((tables_1_3).take 20).all (fun c => su_isCode c || c.before start1.args0 bad) = true := by decide +kernel
set_option maxRecDepth 16384 in
theorem bad_o_tables_1_3_1 : (((tables_1_3).drop 20).take 20).all (fun c => su_isCode c || c.before start1.args0 bad) = true := by decide +kernel
set_option maxRecDepth 16384 in
theorem bad_o_tables_1_3_2 : ((((tables_1_3).drop 20).drop 20).take 20).all (fun c => su_isCode c || c.before start1.args0 bad) = true := by decide +kernel
set_option maxRecDepth 16384 in
theorem bad_o_tables_1_3_3 : (((((tables_1_3).drop 20).drop 20).drop 20).take 20).all (fun c => su_isCode c || c.before start1.args0 bad) = true := by decide +kernel
set_option maxRecDepth 16384 in
theorem bad_o_tables_1_3_4 : ((((((tables_1_3).drop 20).drop 20).drop 20).drop 20).take 20).all (fun c => su_isCode c || c.before start1.args0 bad) = true := by decide +kernel
set_option maxRecDepth 16384 in
theorem bad_o_tables_1_3_5 : (((((((tables_1_3).drop 20).drop 20).drop 20).drop 20).drop 20).take 20).all (fun c => su_isCode c || c.before start1.args0 bad) = true := by decide +kernel
set_option maxRecDepth 16384 in
theorem bad_o_tables_1_3_6 : ((((((((tables_1_3).drop 20).drop 20).drop 20).drop 20).drop 20).drop 20).take 20).all (fun c => su_isCode c || c.before start1.args0 bad) = true := by decide +kernel
set_option maxRecDepth 16384 in
theorem bad_o_tables_1_3_7 : (((((((((tables_1_3).drop 20).drop 20).drop 20).drop 20).drop 20).drop 20).drop 20).take 20).all (fun c => su_isCode c || c.before start1.args0 bad) = true := by decide +kernel
set_option maxRecDepth 16384 in
theorem bad_o_tables_1_3_8 : ((((((((((tables_1_3).drop 20).drop 20).drop 20).drop 20).drop 20).drop 20).drop 20).drop 20).take 20).all (fun c => su_isCode c || c.before start1.args0 bad) = true := by decide +kernel
set_option maxRecDepth 16384 in
theorem bad_o_tables_1_3_9 : (((((((((((tables_1_3).drop 20).drop 20).drop 20).drop 20).drop 20).drop 20).drop 20).drop 20).drop 20).take 20).all (fun c => su_isCode c || c.before start1.args0 bad) = true := by decide +kernel
set_option maxRecDepth 16384 in
theorem bad_o_tables_1_3_10 : ((((((((((((tables_1_3).drop 20).drop 20).drop 20).drop 20).drop 20).drop 20).drop 20).drop 20).drop 20).drop 20).take 20).all (fun c => su_isCode c || c.before start1.args0 bad) = true := by decide +kernel
set_option maxRecDepth 16384 in
theorem bad_o_tables_1_3_11 : (((((((((((((tables_1_3).drop 20).drop 20).drop 20).drop 20).drop 20).drop 20).drop 20).drop 20).drop 20).drop 20).drop 20).take 20).all (fun c => su_isCode c || c.before start1.args0 bad) = true := by decide +kernel
set_option maxRecDepth 16384 in
theorem bad_o_tables_1_3_12 : (((((((((((((tables_1_3).drop 20).drop 20).drop 20).drop 20).drop 20).drop 20).drop 20).drop 20).drop 20).drop 20).drop 20).drop 20).all (fun c => su_isCode c || c.before start1.args0 bad) = true := by decide +kernel
theorem bad_o_tables_1_3 : tables_1_3.all (fun c => su_isCode c || c.before start1.args0 bad) = true := start1.su_all_split _ 20 _ bad_o_tables_1_3_0 (start1.su_all_split _ 20 _ bad_o_tables_1_3_1 (start1.su_all_split _ 20 _ bad_o_tables_1_3_2 (start1.su_all_split _ 20 _ bad_o_tables_1_3_3 (start1.su_all_split _ 20 _ bad_o_tables_1_3_4 (start1.su_all_split _ 20 _ bad_o_tables_1_3_5 (start1.su_all_split _ 20 _ bad_o_tables_1_3_6 (start1.su_all_split _ 20 _ bad_o_tables_1_3_7 (start1.su_all_split _ 20 _ bad_o_tables_1_3_8 (start1.su_all_split _ 20 _ bad_o_tables_1_3_9 (start1.su_all_split _ 20 _ bad_o_tables_1_3_10 (start1.su_all_split _ 20 _ bad_o_tables_1_3_11 (bad_o_tables_1_3_12))))))))))))
set_option maxRecDepth 16384 in
theorem bad_o_tables_1_4_0 : ((tables_1_4).take 20).all (fun c => su_isCode c || c.before start1.args0 bad) = true := by decide +kernel
set_option maxRecDepth 16384 in
theorem bad_o_tables_1_4_1 : (((tables_1_4).drop 20).take 20).all (fun c => su_isCode c || c.before start1.args0 bad) = true := by decide +kernel
set_option maxRecDepth 16384 in
theorem bad_o_tables_1_4_2 : ((((tables_1_4).drop 20).drop 20).take 20).all (fun c => su_isCode c || c.before start1.args0 bad) = true := by decide +kernel
set_option maxRecDepth 16384 in
theorem bad_o_tables_1_4_3 : (((((tables_1_4).drop 20).drop 20).drop 20).take 20).all (fun c => su_isCode c || c.before start1.args0 bad) = true := by decide +kernel
set_option maxRecDepth 16384 in
theorem bad_o_tables_1_4_4 : ((((((tables_1_4).drop 20).drop 20).drop 20).drop 20).take 20).all (fun c => su_isCode c || c.before start1.args0 bad) = true := by decide +kernel
set_option maxRecDepth 16384 in
theorem bad_o_tables_1_4_5 : (((((((tables_1_4).drop 20).drop 20).drop 20).drop 20).drop 20).take 20).all (fun c => su_isCode c || c.before start1.args0 bad) = true := by decide +kernel
set_option maxRecDepth 16384 in
theorem bad_o_tables_1_4_6 : ((((((((tables_1_4).drop 20).drop 20).drop 20).drop 20).drop 20).drop 20).take 20).all (fun c => su_isCode c || c.before start1.args0 bad) = true := by decide +kernel
set_option maxRecDepth 16384 in
theorem bad_o_tables_1_4_7 : (((((((((tables_1_4).drop 20).drop 20).drop 20).drop 20).drop 20).drop 20).drop 20).take 20).all (fun c => su_isCode c || c.before start1.args0 bad) = true := by decide +kernel
set_option maxRecDepth 16384 in
theorem bad_o_tables_1_4_8 : ((((((((((tables_1_4).drop 20).drop 20).drop 20).drop 20).drop 20).drop 20).drop 20).drop 20).take 20).all (fun c => su_isCode c || c.before start1.args0 bad) = true := by decide +kernel
set_option maxRecDepth 16384 in
theorem bad_o_tables_1_4_9 : (((((((((((tables_1_4).drop 20).drop 20).drop 20).drop 20).drop 20).drop 20).drop 20).drop 20).drop 20).take 20).all (fun c => su_isCode c || c.before start1.args0 bad) = true := by decide +kernel
set_option maxRecDepth 16384 in
theorem bad_o_tables_1_4_10 : ((((((((((((tables_1_4).drop 20).drop 20).drop 20).drop 20).drop 20).drop 20).drop 20).drop 20).drop 20).drop 20).take 20).all (fun c => su_isCode c || c.before start1.args0 bad) = true := by decide +kernel
set_option maxRecDepth 16384 in
theorem bad_o_tables_1_4_11 : (((((((((((((tables_1_4).drop 20).drop 20).drop 20).drop 20).drop 20).drop 20).drop 20).drop 20).drop 20).drop 20).drop 20).take 20).all (fun c => su_isCode c || c.before start1.args0 bad) = true := by decide +kernel
set_option maxRecDepth 16384 in
theorem bad_o_tables_1_4_12 : (((((((((((((tables_1_4).drop 20).drop 20).drop 20).drop 20).drop 20).drop 20).drop 20).drop 20).drop 20).drop 20).drop 20).drop 20).all (fun c => su_isCode c || c.before start1.args0 bad) = true := by decide +kernel
theorem bad_o_tables_1_4 : tables_1_4.all (fun c => su_isCode c || c.before start1.args0 bad) = true := start1.su_all_split _ 20 _ bad_o_tables_1_4_0 (start1.su_all_split _ 20 _ bad_o_tables_1_4_1 (start1.su_all_split _ 20 _ bad_o_tables_1_4_2 (start1.su_all_split _ 20 _ bad_o_tables_1_4_3 (start1.su_all_split _ 20 _ bad_o_tables_1_4_4 (start1.su_all_split _ 20 _ bad_o_tables_1_4_5 (start1.su_all_split _ 20 _ bad_o_tables_1_4_6 (start1.su_all_split _ 20 _ bad_o_tables_1_4_7 (start1.su_all_split _ 20 _ bad_o_tables_1_4_8 (start1.su_all_split _ 20 _ bad_o_tables_1_4_9 (start1.su_all_split _ 20 _ bad_o_tables_1_4_10 (start1.su_all_split _ 20 _ bad_o_tables_1_4_11 (bad_o_tables_1_4_12))))))))))))
set_option maxRecDepth 16384 in
theorem bad_o_tables_1_5_0 : ((tables_1_5).take 20).all (fun c => su_isCode c || c.before start1.args0 bad) = true := by decide +kernel
set_option maxRecDepth 16384 in
theorem bad_o_tables_1_5_1 : (((tables_1_5).drop 20).take 20).all (fun c => su_isCode c || c.before start1.args0 bad) = true := by decide +kernel
set_option maxRecDepth 16384 in
theorem bad_o_tables_1_5_2 : ((((tables_1_5).drop 20).drop 20).take 20).all (fun c => su_isCode c || c.before start1.args0 bad) = true := by decide +kernel
set_option maxRecDepth 16384 in
theorem bad_o_tables_1_5_3 : (((((tables_1_5).drop 20).drop 20).drop 20).take 20).all (fun c => su_isCode c || c.before start1.args0 bad) = true := by decide +kernel
set_option maxRecDepth 16384 in
theorem bad_o_tables_1_5_4 : ((((((tables_1_5).drop 20).drop 20).drop 20).drop 20).take 20).all (fun c => su_isCode c || c.before start1.args0 bad) = true := by decide +kernel
set_option maxRecDepth 16384 in
theorem bad_o_tables_1_5_5 : (((((((tables_1_5).drop 20).drop 20).drop 20).drop 20).drop 20).take 20).all (fun c => su_isCode c || c.before start1.args0 bad) = true := by decide +kernel
set_option maxRecDepth 16384 in
theorem bad_o_tables_1_5_6 : ((((((((tables_1_5).drop 20).drop 20).drop 20).drop 20).drop 20).drop 20).take 20).all (fun c => su_isCode c || c.before start1.args0 bad) = true := by decide +kernel
set_option maxRecDepth 16384 in
theorem bad_o_tables_1_5_7 : (((((((((tables_1_5).drop 20).drop 20).drop 20).drop 20).drop 20).drop 20).drop 20).take 20).all (fun c => su_isCode c || c.before start1.args0 bad) = true := by decide +kernel
set_option maxRecDepth 16384 in
theorem bad_o_tables_1_5_8 : ((((((((((tables_1_5).drop 20).drop 20).drop 20).drop 20).drop 20).drop 20).drop 20).drop 20).take 20).all (fun c => su_isCode c || c.before start1.args0 bad) = true := by decide +kernel
set_option maxRecDepth 16384 in
theorem bad_o_tables_1_5_9 : (((((((((((tables_1_5).drop 20).drop 20).drop 20).drop 20).drop 20).drop 20).drop 20).drop 20).drop 20).take 20).all (fun c => su_isCode c || c.before start1.args0 bad) = true := by decide +kernel
set_option maxRecDepth 16384 in
theorem bad_o_tables_1_5_10 : ((((((((((((tables_1_5).drop 20).drop 20).drop 20).drop 20).drop 20).drop 20).drop 20).drop 20).drop 20).drop 20).take 20).all (fun c => su_isCode c || c.before start1.args0 bad) = true := by decide +kernel
set_option maxRecDepth 16384 in
theorem bad_o_tables_1_5_11 : (((((((((((((tables_1_5).drop 20).drop 20).drop 20).drop 20).drop 20).drop 20).drop 20).drop 20).drop 20).drop 20).drop 20).take 20).all (fun c => su_isCode c || c.before start1.args0 bad) = true := by decide +kernel
set_option maxRecDepth 16384 in
theorem bad_o_tables_1_5_12 : (((((((((((((tables_1_5).drop 20).drop 20).drop 20).drop 20).drop 20).drop 20).drop 20).drop 20).drop 20).drop 20).drop 20).drop 20).all (fun c => su_isCode c || c.before start1.args0 bad) = true := by decide +kernel
theorem bad_o_tables_1_5 : tables_1_5.all (fun c => su_isCode c || c.before start1.args0 bad) = true := start1.su_all_split _ 20 _ bad_o_tables_1_5_0 (start1.su_all_split _ 20 _ bad_o_tables_1_5_1 (start1.su_all_split _ 20 _ bad_o_tables_1_5_2 (start1.su_all_split _ 20 _ bad_o_tables_1_5_3 (start1.su_all_split _ 20 _ bad_o_tables_1_5_4 (start1.su_all_split _ 20 _ bad_o_tables_1_5_5 (start1.su_all_split _ 20 _ bad_o_tables_1_5_6 (start1.su_all_split _ 20 _ bad_o_tables_1_5_7 (start1.su_all_split _ 20 _ bad_o_tables_1_5_8 (start1.su_all_split _ 20 _ bad_o_tables_1_5_9 (start1.su_all_split _ 20 _ bad_o_tables_1_5_10 (start1.su_all_split _ 20 _ bad_o_tables_1_5_11 (bad_o_tables_1_5_12))))))))))))
