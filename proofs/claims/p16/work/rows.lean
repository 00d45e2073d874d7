section
/-! A start at which every premise of the statement holds (as at the witness's own), and at which UNTOLD's array is of a second class of int arrays: one that has a clone() of its own, native and without a row. No premise says of which class the array in UNTOLD is: 'arrayOf' speaks of the kind of its components alone. -/
def bad_clone : Method := { name := "clone", desc := "()Ljava/lang/Object;", sig := { parameters := [], returnType := some (.object "java/lang/Object") }, accessFlags := 0x101, code := none }
def bad_K : Class := { start1.cArr "jt/Q" 17 .int with methods := #[bad_clone] }
def bad_cell : Cell := { cls := 25, slots := #[.int (10), .int (5), .int (300), .int (10), .int (-1), .int (12), .int (0), .int (0), .int (1), .int (100), .int (4), .int (0)], vm := .none }
def bad : State := { start1.about with vm := { start1.about.vm with classes := start1.about.vm.classes.push bad_K }, heap := start1.about.heap.setIfInBounds 6 bad_cell }
theorem bad_untold : (Cond.arrayOf (.static "KeyBox$RuleSet" "UNTOLD" "[I") .int).before start1.args0 bad = true := by decide +kernel
theorem bad_name : bad.vm.findClass "[I" = some 18 := by decide +kernel
theorem bad_at : (Term.static "KeyBox$RuleSet" "UNTOLD" "[I").eval start1.args0 bad none [] bad = some (.ref 6) ∧ (bad.heap[(6 : Nat)]?).map (·.cls) = some 25 := by decide +kernel
set_option maxRecDepth 16384 in
theorem bad_rest : rest_1_c.before start1.args0 bad = true := by decide +kernel
set_option maxRecDepth 16384 in
theorem bad_narrow : (Cond.and given_1 narrow_1).before start1.args0 bad = true := by decide +kernel
theorem bad_heapFits : heapFits bad = true := by decide +kernel
theorem bad_argsFit : argsFit bad.vm ⟨0, 0⟩ start1.args0 = true := by decide +kernel
theorem bad_frames : bad.frames = Frame.invoking ⟨0, 0⟩ start1.args0 :: Lib.HandBits.below0 := rfl
/-- the words on code: the methods stand where they stood -/
theorem bad_class {c : Nat} {k : Class} (h : start1.about.vm.classes[c]? = some k) : bad.vm.classes[c]? = some k := by
  show (start1.about.vm.classes.push bad_K)[c]? = some k
  have hc := (Array.getElem?_eq_some_iff.mp h).1
  rw [Array.getElem?_push, if_neg (Nat.ne_of_lt hc)]
  exact h
theorem bad_find {n : String} {c : ClassId} (h : start1.about.vm.findClass n = some c) : bad.vm.findClass n = some c := by
  unfold Vm.findClass at h ⊢
  show (start1.about.vm.classes.push bad_K).findIdx? _ = some c
  rw [Array.findIdx?_push, h]
  rfl
theorem bad_named {x : MethodName} {m : MethodId} (h : start1.about.methodNamed? x = some m) : bad.methodNamed? x = some m := by
  unfold State.methodNamed? at h ⊢
  simp only [Option.bind_eq_bind, Option.bind_eq_some_iff] at h ⊢
  obtain ⟨c, h1, k, h2, h3⟩ := h
  exact ⟨c, bad_find h1, k, bad_class h2, h3⟩
theorem bad_method {m : MethodId} {t : Method} (h : start1.about.vm.method? m = some t) : bad.vm.method? m = some t := by
  unfold Vm.method? at h ⊢
  simp only [Option.bind_eq_bind, Option.bind_eq_some_iff] at h ⊢
  obtain ⟨k, h1, h2⟩ := h
  exact ⟨k, bad_class h1, h2⟩
theorem bad_code {x : MethodName} {b : ByteArray} {n : Nat} {r : Option FieldType} (h : (Cond.code x b n r).before start1.args0 start1.about = true) : (Cond.code x b n r).before start1.args0 bad = true := by
  simp only [Cond.before, Cond.holds, Cond.value] at h ⊢
  cases hm : start1.about.methodNamed? x with
  | none => rw [hm] at h; cases h
  | some m =>
    rw [hm, Option.bind_some] at h
    rw [bad_named hm, Option.bind_some]
    cases ht : start1.about.vm.method? m with
    | none => rw [ht] at h; cases h
    | some t =>
      rw [ht] at h
      rw [bad_method ht]
      exact h
theorem bad_codes {l : List Cond} (hl : ∀ c ∈ l, c ∈ (Cond.code x code maxLocals ret :: tables_1)) : ∀ c ∈ l.filter su_isCode, c.before start1.args0 bad = true := by
  intro c hc
  obtain ⟨h1, h2⟩ := List.mem_filter.mp hc
  have h3 := start1.words c (hl c h1)
  cases c <;> first | exact bad_code h3 | (simp [su_isCode] at h2)
end
section
set_option maxRecDepth 16384 in
theorem bad_o_tables_1_1_0 : ((tables_1_1).take 20).all (fun c => su_isCode c || c.before start1.args0 bad) = true := by decide +kernel
set_option maxRecDepth 16384 in
theorem bad_o_tables_1_1_1 : (((tables_1_1).drop 20).take 20).all (fun c => su_isCode c || c.before start1.args0 bad) = true := by decide +kernel
set_option maxRecDepth 16384 in
theorem bad_o_tables_1_1_2 : ((((tables_1_1).drop 20).drop 20).take 20).all (fun c => su_isCode c || c.before start1.args0 bad) = true := by decide +kernel
set_option maxRecDepth 16384 in
theorem bad_o_tables_1_1_3 : (((((tables_1_1).drop 20).drop 20).drop 20).take 20).all (fun c => su_isCode c || c.before start1.args0 bad) = true := by decide +kernel
set_option maxRecDepth 16384 in
theorem bad_o_tables_1_1_4 : ((((((tables_1_1).drop 20).drop 20).drop 20).drop 20).take 20).all (fun c => su_isCode c || c.before start1.args0 bad) = true := by decide +kernel
set_option maxRecDepth 16384 in
theorem bad_o_tables_1_1_5 : (((((((tables_1_1).drop 20).drop 20).drop 20).drop 20).drop 20).take 20).all (fun c => su_isCode c || c.before start1.args0 bad) = true := by decide +kernel
set_option maxRecDepth 16384 in
theorem bad_o_tables_1_1_6 : ((((((((tables_1_1).drop 20).drop 20).drop 20).drop 20).drop 20).drop 20).take 20).all (fun c => su_isCode c || c.before start1.args0 bad) = true := by decide +kernel
set_option maxRecDepth 16384 in
theorem bad_o_tables_1_1_7 : (((((((((tables_1_1).drop 20).drop 20).drop 20).drop 20).drop 20).drop 20).drop 20).take 20).all (fun c => su_isCode c || c.before start1.args0 bad) = true := by decide +kernel
set_option maxRecDepth 16384 in
theorem bad_o_tables_1_1_8 : ((((((((((tables_1_1).drop 20).drop 20).drop 20).drop 20).drop 20).drop 20).drop 20).drop 20).take 20).all (fun c => su_isCode c || c.before start1.args0 bad) = true := by decide +kernel
set_option maxRecDepth 16384 in
theorem bad_o_tables_1_1_9 : (((((((((((tables_1_1).drop 20).drop 20).drop 20).drop 20).drop 20).drop 20).drop 20).drop 20).drop 20).take 20).all (fun c => su_isCode c || c.before start1.args0 bad) = true := by decide +kernel
set_option maxRecDepth 16384 in
theorem bad_o_tables_1_1_10 : ((((((((((((tables_1_1).drop 20).drop 20).drop 20).drop 20).drop 20).drop 20).drop 20).drop 20).drop 20).drop 20).take 20).all (fun c => su_isCode c || c.before start1.args0 bad) = true := by decide +kernel
set_option maxRecDepth 16384 in
theorem bad_o_tables_1_1_11 : (((((((((((((tables_1_1).drop 20).drop 20).drop 20).drop 20).drop 20).drop 20).drop 20).drop 20).drop 20).drop 20).drop 20).take 20).all (fun c => su_isCode c || c.before start1.args0 bad) = true := by decide +kernel
set_option maxRecDepth 16384 in
theorem bad_o_tables_1_1_12 : (((((((((((((tables_1_1).drop 20).drop 20).drop 20).drop 20).drop 20).drop 20).drop 20).drop 20).drop 20).drop 20).drop 20).drop 20).all (fun c => su_isCode c || c.before start1.args0 bad) = true := by decide +kernel
theorem bad_o_tables_1_1 : tables_1_1.all (fun c => su_isCode c || c.before start1.args0 bad) = true := start1.su_all_split _ 20 _ bad_o_tables_1_1_0 (start1.su_all_split _ 20 _ bad_o_tables_1_1_1 (start1.su_all_split _ 20 _ bad_o_tables_1_1_2 (start1.su_all_split _ 20 _ bad_o_tables_1_1_3 (start1.su_all_split _ 20 _ bad_o_tables_1_1_4 (start1.su_all_split _ 20 _ bad_o_tables_1_1_5 (start1.su_all_split _ 20 _ bad_o_tables_1_1_6 (start1.su_all_split _ 20 _ bad_o_tables_1_1_7 (start1.su_all_split _ 20 _ bad_o_tables_1_1_8 (start1.su_all_split _ 20 _ bad_o_tables_1_1_9 (start1.su_all_split _ 20 _ bad_o_tables_1_1_10 (start1.su_all_split _ 20 _ bad_o_tables_1_1_11 (bad_o_tables_1_1_12))))))))))))
set_option maxRecDepth 16384 in
theorem bad_o_tables_1_2_0 : ((tables_1_2).take 20).all (fun c => su_isCode c || c.before start1.args0 bad) = true := by decide +kernel
set_option maxRecDepth 16384 in
theorem bad_o_tables_1_2_1 : (((tables_1_2).drop 20).take 20).all (fun c => su_isCode c || c.before start1.args0 bad) = true := by decide +kernel
set_option maxRecDepth 16384 in
theorem bad_o_tables_1_2_2 : ((((tables_1_2).drop 20).drop 20).take 20).all (fun c => su_isCode c || c.before start1.args0 bad) = true := by decide +kernel
set_option maxRecDepth 16384 in
theorem bad_o_tables_1_2_3 : (((((tables_1_2).drop 20).drop 20).drop 20).take 20).all (fun c => su_isCode c || c.before start1.args0 bad) = true := by decide +kernel
set_option maxRecDepth 16384 in
theorem bad_o_tables_1_2_4 : ((((((tables_1_2).drop 20).drop 20).drop 20).drop 20).take 20).all (fun c => su_isCode c || c.before start1.args0 bad) = true := by decide +kernel
set_option maxRecDepth 16384 in
theorem bad_o_tables_1_2_5 : (((((((tables_1_2).drop 20).drop 20).drop 20).drop 20).drop 20).take 20).all (fun c => su_isCode c || c.before start1.args0 bad) = true := by decide +kernel
set_option maxRecDepth 16384 in
theorem bad_o_tables_1_2_6 : ((((((((tables_1_2).drop 20).drop 20).drop 20).drop 20).drop 20).drop 20).take 20).all (fun c => su_isCode c || c.before start1.args0 bad) = true := by decide +kernel
set_option maxRecDepth 16384 in
theorem bad_o_tables_1_2_7 : (((((((((tables_1_2).drop 20).drop 20).drop 20).drop 20).drop 20).drop 20).drop 20).take 20).all (fun c => su_isCode c || c.before start1.args0 bad) = true := by decide +kernel
set_option maxRecDepth 16384 in
theorem bad_o_tables_1_2_8 : ((((((((((tables_1_2).drop 20).drop 20).drop 20).drop 20).drop 20).drop 20).drop 20).drop 20).take 20).all (fun c => su_isCode c || c.before start1.args0 bad) = true := by decide +kernel
set_option maxRecDepth 16384 in
theorem bad_o_tables_1_2_9 : (((((((((((tables_1_2).drop 20).drop 20).drop 20).drop 20).drop 20).drop 20).drop 20).drop 20).drop 20).take 20).all (fun c => su_isCode c || c.before start1.args0 bad) = true := by decide +kernel
set_option maxRecDepth 16384 in
theorem bad_o_tables_1_2_10 : ((((((((((((tables_1_2).drop 20).drop 20).drop 20).drop 20).drop 20).drop 20).drop 20).drop 20).drop 20).drop 20).take 20).all (fun c => su_isCode c || c.before start1.args0 bad) = true := by decide +kernel
set_option maxRecDepth 16384 in
theorem bad_o_tables_1_2_11 : (((((((((((((tables_1_2).drop 20).drop 20).drop 20).drop 20).drop 20).drop 20).drop 20).drop 20).drop 20).drop 20).drop 20).take 20).all (fun c => su_isCode c || c.before start1.args0 bad) = true := by decide +kernel
set_option maxRecDepth 16384 in
theorem bad_o_tables_1_2_12 : (((((((((((((tables_1_2).drop 20).drop 20).drop 20).drop 20).drop 20).drop 20).drop 20).drop 20).drop 20).drop 20).drop 20).drop 20).all (fun c => su_isCode c || c.before start1.args0 bad) = true := by decide +kernel
theorem bad_o_tables_1_2 : tables_1_2.all (fun c => su_isCode c || c.before start1.args0 bad) = true := start1.su_all_split _ 20 _ bad_o_tables_1_2_0 (start1.su_all_split _ 20 _ bad_o_tables_1_2_1 (start1.su_all_split _ 20 _ bad_o_tables_1_2_2 (start1.su_all_split _ 20 _ bad_o_tables_1_2_3 (start1.su_all_split _ 20 _ bad_o_tables_1_2_4 (start1.su_all_split _ 20 _ bad_o_tables_1_2_5 (start1.su_all_split _ 20 _ bad_o_tables_1_2_6 (start1.su_all_split _ 20 _ bad_o_tables_1_2_7 (start1.su_all_split _ 20 _ bad_o_tables_1_2_8 (start1.su_all_split _ 20 _ bad_o_tables_1_2_9 (start1.su_all_split _ 20 _ bad_o_tables_1_2_10 (start1.su_all_split _ 20 _ bad_o_tables_1_2_11 (bad_o_tables_1_2_12))))))))))))
set_option maxRecDepth 16384 in
theorem bad_o_tables_1_3_0 : ((tables_1_3).take 20).all (fun c => su_isCode c || c.before start1.args0 bad) = true := by decide +kernel
set_option maxRecDepth 16384 in
theorem bad_o_tables_1_3_1 : (((tables_1_3).drop 20).take 20).all (fun c => su_isCode c || c.before start1.args0 bad) = true := by decide +kernel
set_option maxRecDepth 16384 in
theorem bad_o_tables_1_3_2 : ((((tables_1_3).drop 20).drop 20).take 20).all (fun c => su_isCode c || c.before start1.args0 bad) = true := by decide +kernel
set_option maxRecDepth 16384 in
theorem bad_o_tables_1_3_3 : (((((tables_1_3).drop 20).drop 20).drop 20).take 20).all (fun c => su_isCode c || c.before start1.args0 bad) = true := by decide +kernel
set_option maxRecDepth 16384 in
theorem bad_o_tables_1_3_4 : ((((((tables_1_3).drop 20).drop 20).drop 20).drop 20).take 20).all (fun c => su_isCode c || c.before start1.args0 bad) = true := by decide +kernel
set_option maxRecDepth 16384 in
theorem bad_o_tables_1_3_5 : (((((((tables_1_3).drop 20).drop 20).drop 20).drop 20).drop 20).take 20).all (fun c => su_isCode c || c.before start1.args0 bad) = true := by decide +kernel
set_option maxRecDepth 16384 in
theorem bad_o_tables_1_3_6 : ((((((((tables_1_3).drop 20).drop 20).drop 20).drop 20).drop 20).drop 20).take 20).all (fun c => su_isCode c || c.before start1.args0 bad) = true := by decide +kernel
set_option maxRecDepth 16384 in
theorem bad_o_tables_1_3_7 : (((((((((tables_1_3).drop 20).drop 20).drop 20).drop 20).drop 20).drop 20).drop 20).take 20).all (fun c => su_isCode c || c.before start1.args0 bad) = true := by decide +kernel
set_option maxRecDepth 16384 in
theorem bad_o_tables_1_3_8 : ((((((((((tables_1_3).drop 20).drop 20).drop 20).drop 20).drop 20).drop 20).drop 20).drop 20).take 20).all (fun c => su_isCode c || c.before start1.args0 bad) = true := by decide +kernel
set_option maxRecDepth 16384 in
theorem bad_o_tables_1_3_9 : (((((((((((tables_1_3).drop 20).drop 20).drop 20).drop 20).drop 20).drop 20).drop 20).drop 20).drop 20).take 20).all (fun c => su_isCode c || c.before start1.args0 bad) = true := by decide +kernel
set_option maxRecDepth 16384 in
theorem bad_o_tables_1_3_10 : ((((((((((((tables_1_3).drop 20).drop 20).drop 20).drop 20).drop 20).drop 20).drop 20).drop 20).drop 20).drop 20).take 20).all (fun c => su_isCode c || c.before start1.args0 bad) = true := by decide +kernel
set_option maxRecDepth 16384 in
theorem bad_o_tables_1_3_11 : (((((((((((((tables_1_3).drop 20).drop 20).drop 20).drop 20).drop 20).drop 20).drop 20).drop 20).drop 20).drop 20).drop 20).take 20).all (fun c => su_isCode c || c.before start1.args0 bad) = true := by decide +kernel
set_option maxRecDepth 16384 in
theorem bad_o_tables_1_3_12 : (((((((((((((tables_1_3).drop 20).drop 20).drop 20).drop 20).drop 20).drop 20).drop 20).drop 20).drop 20).drop 20).drop 20).drop 20).all (fun c => su_isCode c || c.before start1.args0 bad) = true := by decide +kernel
theorem bad_o_tables_1_3 : tables_1_3.all (fun c => su_isCode c || c.before start1.args0 bad) = true := start1.su_all_split _ 20 _ bad_o_tables_1_3_0 (start1.su_all_split _ 20 _ bad_o_tables_1_3_1 (start1.su_all_split _ 20 _ bad_o_tables_1_3_2 (start1.su_all_split _ 20 _ bad_o_tables_1_3_3 (start1.su_all_split _ 20 _ bad_o_tables_1_3_4 (start1.su_all_split _ 20 _ bad_o_tables_1_3_5 (start1.su_all_split _ 20 _ bad_o_tables_1_3_6 (start1.su_all_split _ 20 _ bad_o_tables_1_3_7 (start1.su_all_split _ 20 _ bad_o_tables_1_3_8 (start1.su_all_split _ 20 _ bad_o_tables_1_3_9 (start1.su_all_split _ 20 _ bad_o_tables_1_3_10 (start1.su_all_split _ 20 _ bad_o_tables_1_3_11 (bad_o_tables_1_3_12))))))))))))
set_option maxRecDepth 16384 in
theorem bad_o_tables_1_4_0 : ((tables_1_4).take 20).all (fun c => su_isCode c || c.before start1.args0 bad) = true := by decide +kernel
set_option maxRecDepth 16384 in
theorem bad_o_tables_1_4_1 : (((tables_1_4).drop 20).take 20).all (fun c => su_isCode c || c.before start1.args0 bad) = true := by decide +kernel
set_option maxRecDepth 16384 in
theorem bad_o_tables_1_4_2 : ((((tables_1_4).drop 20).drop 20).take 20).all (fun c => su_isCode c || c.before start1.args0 bad) = true := by decide +kernel
set_option maxRecDepth 16384 in
theorem bad_o_tables_1_4_3 : (((((tables_1_4).drop 20).drop 20).drop 20).take 20).all (fun c => su_isCode c || c.before start1.args0 bad) = true := by decide +kernel
set_option maxRecDepth 16384 in
theorem bad_o_tables_1_4_4 : ((((((tables_1_4).drop 20).drop 20).drop 20).drop 20).take 20).all (fun c => su_isCode c || c.before start1.args0 bad) = true := by decide +kernel
set_option maxRecDepth 16384 in
theorem bad_o_tables_1_4_5 : (((((((tables_1_4).drop 20).drop 20).drop 20).drop 20).drop 20).take 20).all (fun c => su_isCode c || c.before start1.args0 bad) = true := by decide +kernel
set_option maxRecDepth 16384 in
theorem bad_o_tables_1_4_6 : ((((((((tables_1_4).drop 20).drop 20).drop 20).drop 20).drop 20).drop 20).take 20).all (fun c => su_isCode c || c.before start1.args0 bad) = true := by decide +kernel
set_option maxRecDepth 16384 in
theorem bad_o_tables_1_4_7 : (((((((((tables_1_4).drop 20).drop 20).drop 20).drop 20).drop 20).drop 20).drop 20).take 20).all (fun c => su_isCode c || c.before start1.args0 bad) = true := by decide +kernel
set_option maxRecDepth 16384 in
theorem bad_o_tables_1_4_8 : ((((((((((tables_1_4).drop 20).drop 20).drop 20).drop 20).drop 20).drop 20).drop 20).drop 20).take 20).all (fun c => su_isCode c || c.before start1.args0 bad) = true := by decide +kernel
set_option maxRecDepth 16384 in
theorem bad_o_tables_1_4_9 : (((((((((((tables_1_4).drop 20).drop 20).drop 20).drop 20).drop 20).drop 20).drop 20).drop 20).drop 20).take 20).all (fun c => su_isCode c || c.before start1.args0 bad) = true := by decide +kernel
set_option maxRecDepth 16384 in
theorem bad_o_tables_1_4_10 : ((((((((((((tables_1_4).drop 20).drop 20).drop 20).drop 20).drop 20).drop 20).drop 20).drop 20).drop 20).drop 20).take 20).all (fun c => su_isCode c || c.before start1.args0 bad) = true := by decide +kernel
set_option maxRecDepth 16384 in
theorem bad_o_tables_1_4_11 : (((((((((((((tables_1_4).drop 20).drop 20).drop 20).drop 20).drop 20).drop 20).drop 20).drop 20).drop 20).drop 20).drop 20).take 20).all (fun c => su_isCode c || c.before start1.args0 bad) = true := by decide +kernel
set_option maxRecDepth 16384 in
theorem bad_o_tables_1_4_12 : (((((((((((((tables_1_4).drop 20).drop 20).drop 20).drop 20).drop 20).drop 20).drop 20).drop 20).drop 20).drop 20).drop 20).drop 20).all (fun c => su_isCode c || c.before start1.args0 bad) = true := by decide +kernel
theorem bad_o_tables_1_4 : tables_1_4.all (fun c => su_isCode c || c.before start1.args0 bad) = true := start1.su_all_split _ 20 _ bad_o_tables_1_4_0 (start1.su_all_split _ 20 _ bad_o_tables_1_4_1 (start1.su_all_split _ 20 _ bad_o_tables_1_4_2 (start1.su_all_split _ 20 _ bad_o_tables_1_4_3 (start1.su_all_split _ 20 _ bad_o_tables_1_4_4 (start1.su_all_split _ 20 _ bad_o_tables_1_4_5 (start1.su_all_split _ 20 _ bad_o_tables_1_4_6 (start1.su_all_split _ 20 _ bad_o_tables_1_4_7 (start1.su_all_split _ 20 _ bad_o_tables_1_4_8 (start1.su_all_split _ 20 _ bad_o_tables_1_4_9 (start1.su_all_split _ 20 _ bad_o_tables_1_4_10 (start1.su_all_split _ 20 _ bad_o_tables_1_4_11 (bad_o_tables_1_4_12))))))))))))
set_option maxRecDepth 16384 in
theorem bad_o_tables_1_5_0 : ((tables_1_5).take 20).all (fun c => su_isCode c || c.before start1.args0 bad) = true := by decide +kernel
set_option maxRecDepth 16384 in
theorem bad_o_tables_1_5_1 : (((tables_1_5).drop 20).take 20).all (fun c => su_isCode c || c.before start1.args0 bad) = true := by decide +kernel
set_option maxRecDepth 16384 in
theorem bad_o_tables_1_5_2 : ((((tables_1_5).drop 20).drop 20).take 20).all (fun c => su_isCode c || c.before start1.args0 bad) = true := by decide +kernel
set_option maxRecDepth 16384 in
theorem bad_o_tables_1_5_3 : (((((tables_1_5).drop 20).drop 20).drop 20).take 20).all (fun c => su_isCode c || c.before start1.args0 bad) = true := by decide +kernel
set_option maxRecDepth 16384 in
theorem bad_o_tables_1_5_4 : ((((((tables_1_5).drop 20).drop 20).drop 20).drop 20).take 20).all (fun c => su_isCode c || c.before start1.args0 bad) = true := by decide +kernel
set_option maxRecDepth 16384 in
theorem bad_o_tables_1_5_5 : (((((((tables_1_5).drop 20).drop 20).drop 20).drop 20).drop 20).take 20).all (fun c => su_isCode c || c.before start1.args0 bad) = true := by decide +kernel
set_option maxRecDepth 16384 in
theorem bad_o_tables_1_5_6 : ((((((((tables_1_5).drop 20).drop 20).drop 20).drop 20).drop 20).drop 20).take 20).all (fun c => su_isCode c || c.before start1.args0 bad) = true := by decide +kernel
set_option maxRecDepth 16384 in
theorem bad_o_tables_1_5_7 : (((((((((tables_1_5).drop 20).drop 20).drop 20).drop 20).drop 20).drop 20).drop 20).take 20).all (fun c => su_isCode c || c.before start1.args0 bad) = true := by decide +kernel
set_option maxRecDepth 16384 in
theorem bad_o_tables_1_5_8 : ((((((((((tables_1_5).drop 20).drop 20).drop 20).drop 20).drop 20).drop 20).drop 20).drop 20).take 20).all (fun c => su_isCode c || c.before start1.args0 bad) = true := by decide +kernel
set_option maxRecDepth 16384 in
theorem bad_o_tables_1_5_9 : (((((((((((tables_1_5).drop 20).drop 20).drop 20).drop 20).drop 20).drop 20).drop 20).drop 20).drop 20).take 20).all (fun c => su_isCode c || c.before start1.args0 bad) = true := by decide +kernel
set_option maxRecDepth 16384 in
theorem bad_o_tables_1_5_10 : ((((((((((((tables_1_5).drop 20).drop 20).drop 20).drop 20).drop 20).drop 20).drop 20).drop 20).drop 20).drop 20).take 20).all (fun c => su_isCode c || c.before start1.args0 bad) = true := by decide +kernel
set_option maxRecDepth 16384 in
theorem bad_o_tables_1_5_11 : (((((((((((((tables_1_5).drop 20).drop 20).drop 20).drop 20).drop 20).drop 20).drop 20).drop 20).drop 20).drop 20).drop 20).take 20).all (fun c => su_isCode c || c.before start1.args0 bad) = true := by decide +kernel
set_option maxRecDepth 16384 in
theorem bad_o_tables_1_5_12 : (((((((((((((tables_1_5).drop 20).drop 20).drop 20).drop 20).drop 20).drop 20).drop 20).drop 20).drop 20).drop 20).drop 20).drop 20).all (fun c => su_isCode c || c.before start1.args0 bad) = true := by decide +kernel
theorem bad_o_tables_1_5 : tables_1_5.all (fun c => su_isCode c || c.before start1.args0 bad) = true := start1.su_all_split _ 20 _ bad_o_tables_1_5_0 (start1.su_all_split _ 20 _ bad_o_tables_1_5_1 (start1.su_all_split _ 20 _ bad_o_tables_1_5_2 (start1.su_all_split _ 20 _ bad_o_tables_1_5_3 (start1.su_all_split _ 20 _ bad_o_tables_1_5_4 (start1.su_all_split _ 20 _ bad_o_tables_1_5_5 (start1.su_all_split _ 20 _ bad_o_tables_1_5_6 (start1.su_all_split _ 20 _ bad_o_tables_1_5_7 (start1.su_all_split _ 20 _ bad_o_tables_1_5_8 (start1.su_all_split _ 20 _ bad_o_tables_1_5_9 (start1.su_all_split _ 20 _ bad_o_tables_1_5_10 (start1.su_all_split _ 20 _ bad_o_tables_1_5_11 (bad_o_tables_1_5_12))))))))))))
end
section
theorem bad_words : ∀ c ∈ (Cond.code x code maxLocals ret :: tables_1), c.before start1.args0 bad = true := by
  intro c hc
  rcases List.mem_cons.mp hc with h | h
  · rw [h]; exact bad_code start1.word_code
  · have h1 : c ∈ tables_1_1 ++ (tables_1_2 ++ (tables_1_3 ++ (tables_1_4 ++ (tables_1_5)))) := h
    rcases List.mem_append.mp h1 with h2 | h1
    · exact su_words bad_o_tables_1_1 (bad_codes (fun c h9 => List.mem_cons_of_mem _ (show c ∈ tables_1_1 ++ (tables_1_2 ++ (tables_1_3 ++ (tables_1_4 ++ (tables_1_5)))) from List.mem_append_left _ h9))) c h2
    rcases List.mem_append.mp h1 with h2 | h1
    · exact su_words bad_o_tables_1_2 (bad_codes (fun c h9 => List.mem_cons_of_mem _ (show c ∈ tables_1_1 ++ (tables_1_2 ++ (tables_1_3 ++ (tables_1_4 ++ (tables_1_5)))) from List.mem_append_right _ (List.mem_append_left _ h9)))) c h2
    rcases List.mem_append.mp h1 with h2 | h1
    · exact su_words bad_o_tables_1_3 (bad_codes (fun c h9 => List.mem_cons_of_mem _ (show c ∈ tables_1_1 ++ (tables_1_2 ++ (tables_1_3 ++ (tables_1_4 ++ (tables_1_5)))) from List.mem_append_right _ (List.mem_append_right _ (List.mem_append_left _ h9))))) c h2
    rcases List.mem_append.mp h1 with h2 | h1
    · exact su_words bad_o_tables_1_4 (bad_codes (fun c h9 => List.mem_cons_of_mem _ (show c ∈ tables_1_1 ++ (tables_1_2 ++ (tables_1_3 ++ (tables_1_4 ++ (tables_1_5)))) from List.mem_append_right _ (List.mem_append_right _ (List.mem_append_right _ (List.mem_append_left _ h9)))))) c h2
    exact su_words bad_o_tables_1_5 (bad_codes (fun c h9 => List.mem_cons_of_mem _ (show c ∈ tables_1_1 ++ (tables_1_2 ++ (tables_1_3 ++ (tables_1_4 ++ (tables_1_5)))) from List.mem_append_right _ (List.mem_append_right _ (List.mem_append_right _ (List.mem_append_right _ (h9))))))) c h1
set_option maxRecDepth 16384 in
theorem bad_applies : (headSpec (Cond.code x code maxLocals ret :: tables_1) room_1).applies x start1.e0.platform bad = true :=
  (Spec.applies_iff rfl).mpr ⟨rfl, rfl, rfl, by decide +kernel, by decide +kernel, by decide +kernel, launch0.hasRoom_least _ room_1 (by decide +kernel) (by decide +kernel) (by decide +kernel) (by decide +kernel) (by decide +kernel) (by decide +kernel), atoms_intro bad_words⟩
/-- the machine from there: at every step more frames stand than below the law, and at the last it has stopped -/
def bad_run : Nat → State → Bool
  | 0, s => decide (1 < s.frames.length) && !decide (s.status = .running)
  | n + 1, s => decide (1 < s.frames.length) && bad_run n (stepsAlone start1.p0.tables start1.e0 1 s)
theorem bad_ran : bad_run 71 bad = true := by decide +kernel
theorem bad_step (n : Nat) (s : State) : stepsAlone start1.p0.tables start1.e0 (n + 1) s = stepsAlone start1.p0.tables start1.e0 n (stepsAlone start1.p0.tables start1.e0 1 s) := by
  have rest : ∀ (k : Nat) (u : State), (∀ j : Nat, stepsAlone start1.p0.tables start1.e0 (j + 1) u = u) → stepsAlone start1.p0.tables start1.e0 k u = u := fun k u h => by
    cases k with
    | zero => rfl
    | succ j => exact h j
  by_cases h : s.status = .running ∧ s.curStatus? = some .runnable ∧ s.alone = true
  · obtain ⟨h1, h2, h3⟩ := h
    simp only [stepsAlone, h1, h2, h3]
  · have hs : ∀ j : Nat, stepsAlone start1.p0.tables start1.e0 (j + 1) s = s := fun j => by
      unfold stepsAlone
      split
      · rename_i a b c
        exact absurd ⟨a, b, c⟩ h
      · rfl
    rw [hs n, hs 0, rest n s hs]
theorem bad_stop {s : State} (h : s.status ≠ .running) (n : Nat) : stepsAlone start1.p0.tables start1.e0 n s = s := by
  cases n with
  | zero => rfl
  | succ j =>
    unfold stepsAlone
    split
    · rename_i a b c
      exact absurd a h
    · rfl
theorem bad_deep : ∀ (n : Nat) (s : State), bad_run n s = true → ∀ k : Nat, 1 < (stepsAlone start1.p0.tables start1.e0 k s).frames.length := by
  intro n
  induction n with
  | zero =>
    intro s h k
    simp only [bad_run, Bool.and_eq_true, decide_eq_true_eq, Bool.not_eq_true', decide_eq_false_iff_not] at h
    rw [bad_stop h.2]
    exact h.1
  | succ n ih =>
    intro s h k
    simp only [bad_run, Bool.and_eq_true, decide_eq_true_eq] at h
    cases k with
    | zero => exact h.1
    | succ j =>
      rw [bad_step]
      exact ih _ h.2 j
/-- THE STATEMENT'S FIRST HALF IS FALSE: at this start the law doesn't return -/
theorem refuted : ¬ Claimed_1_1 := by
  intro hC
  obtain ⟨hL, hW, had, -, hcas, hclk, -⟩ := start1.atStart
  obtain ⟨n, o, -, -, hend, hpost⟩ := hC launch0 rfl hL hW start1.p0 start1.e0 had hcas hclk bad ⟨0, 0⟩ start1.args0 Lib.HandBits.below0 bad_frames bad_argsFit bad_heapFits bad_applies ⟨trivial, bad_rest, bad_narrow⟩
  have hdeep := bad_deep 71 bad bad_ran n
  cases o with
  | threw a =>
    have h := hpost.1
    simp [postC, limb_1_1, Cond.after, Cond.holds, Cond.value] at h
  | returned v =>
    have h : (stepsAlone start1.p0.tables start1.e0 n bad).frames = _ := hend
    rw [h] at hdeep
    simp at hdeep
theorem refuted_both : ¬ (Claimed_1_1 ∧ Claimed_1_2) := fun h => refuted h.1
end
