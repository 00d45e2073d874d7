section
-- ===== PART A: goes FIRST, ahead of the names: the tables' words, and 'selects' of the private methods out of them =====
/-- a private method of a class that the tables say can be made, by its rows of tables_1 -/
def lw_okq (q : MethodName × Nat) : Prop := (q.1.cls ≠ "java/lang/invoke/MethodHandle" ∧ q.1.cls ≠ "java/lang/invoke/VarHandle") ∧ Cond.instantiable q.1.cls q.2 ∈ tables_1 ∧ Cond.privateMethod q.1 ∈ tables_1 ∧ Cond.instanceMethod q.1 ∈ tables_1
theorem lw_p0 : lw_okq (⟨"KeyBox$Log", "latestWeek", "()I"⟩, 7) := ⟨⟨by decide +kernel, by decide +kernel⟩, List.mem_of_getElem? (i := 40) (by decide +kernel), List.mem_of_getElem? (i := 248) (by decide +kernel), List.mem_of_getElem? (i := 249) (by decide +kernel)⟩
theorem lw_p1 : lw_okq (⟨"KeyBox$Log", "add", "(III)I"⟩, 7) := ⟨⟨by decide +kernel, by decide +kernel⟩, List.mem_of_getElem? (i := 40) (by decide +kernel), List.mem_of_getElem? (i := 252) (by decide +kernel), List.mem_of_getElem? (i := 253) (by decide +kernel)⟩
theorem lw_p2 : lw_okq (⟨"KeyBox", "logChanged", "(I)I"⟩, 8) := ⟨⟨by decide +kernel, by decide +kernel⟩, List.mem_of_getElem? (i := 16) (by decide +kernel), List.mem_of_getElem? (i := 256) (by decide +kernel), List.mem_of_getElem? (i := 257) (by decide +kernel)⟩
theorem lw_p3 : lw_okq (⟨"KeyBox$Log", "canBe", "(III)Z"⟩, 7) := ⟨⟨by decide +kernel, by decide +kernel⟩, List.mem_of_getElem? (i := 40) (by decide +kernel), List.mem_of_getElem? (i := 268) (by decide +kernel), List.mem_of_getElem? (i := 269) (by decide +kernel)⟩
theorem lw_p4 : lw_okq (⟨"KeyBox$RuleReader", "startAnew", "()V"⟩, 8) := ⟨⟨by decide +kernel, by decide +kernel⟩, List.mem_of_getElem? (i := 97) (by decide +kernel), List.mem_of_getElem? (i := 307) (by decide +kernel), List.mem_of_getElem? (i := 308) (by decide +kernel)⟩
theorem lw_p5 : lw_okq (⟨"KeyBox$RuleReader", "nextToken", "()V"⟩, 8) := ⟨⟨by decide +kernel, by decide +kernel⟩, List.mem_of_getElem? (i := 97) (by decide +kernel), List.mem_of_getElem? (i := 318) (by decide +kernel), List.mem_of_getElem? (i := 319) (by decide +kernel)⟩
theorem lw_p6 : lw_okq (⟨"KeyBox$RuleReader", "behindRun", "(II)I"⟩, 8) := ⟨⟨by decide +kernel, by decide +kernel⟩, List.mem_of_getElem? (i := 97) (by decide +kernel), List.mem_of_getElem? (i := 322) (by decide +kernel), List.mem_of_getElem? (i := 323) (by decide +kernel)⟩
theorem lw_p7 : lw_okq (⟨"KeyBox$RuleReader", "kindAt", "(I)I"⟩, 8) := ⟨⟨by decide +kernel, by decide +kernel⟩, List.mem_of_getElem? (i := 97) (by decide +kernel), List.mem_of_getElem? (i := 326) (by decide +kernel), List.mem_of_getElem? (i := 327) (by decide +kernel)⟩
theorem lw_p8 : lw_okq (⟨"KeyBox$RuleReader", "readLine", "()Z"⟩, 8) := ⟨⟨by decide +kernel, by decide +kernel⟩, List.mem_of_getElem? (i := 97) (by decide +kernel), List.mem_of_getElem? (i := 338) (by decide +kernel), List.mem_of_getElem? (i := 339) (by decide +kernel)⟩
theorem lw_p9 : lw_okq (⟨"KeyBox$RuleReader", "tokenAsTopic", "()I"⟩, 8) := ⟨⟨by decide +kernel, by decide +kernel⟩, List.mem_of_getElem? (i := 97) (by decide +kernel), List.mem_of_getElem? (i := 342) (by decide +kernel), List.mem_of_getElem? (i := 343) (by decide +kernel)⟩
theorem lw_p10 : lw_okq (⟨"KeyBox$RuleReader", "tokenIs", "(Ljava/lang/String;)Z"⟩, 8) := ⟨⟨by decide +kernel, by decide +kernel⟩, List.mem_of_getElem? (i := 97) (by decide +kernel), List.mem_of_getElem? (i := 361) (by decide +kernel), List.mem_of_getElem? (i := 362) (by decide +kernel)⟩
theorem lw_p11 : lw_okq (⟨"KeyBox$RuleReader", "failed", "(I)Z"⟩, 8) := ⟨⟨by decide +kernel, by decide +kernel⟩, List.mem_of_getElem? (i := 97) (by decide +kernel), List.mem_of_getElem? (i := 413) (by decide +kernel), List.mem_of_getElem? (i := 414) (by decide +kernel)⟩
theorem lw_p12 : lw_okq (⟨"KeyBox$RuleReader", "isToldAlready", "(I)Z"⟩, 8) := ⟨⟨by decide +kernel, by decide +kernel⟩, List.mem_of_getElem? (i := 97) (by decide +kernel), List.mem_of_getElem? (i := 417) (by decide +kernel), List.mem_of_getElem? (i := 418) (by decide +kernel)⟩
theorem lw_p13 : lw_okq (⟨"KeyBox$RuleReader", "tokenAsOrder", "()I"⟩, 8) := ⟨⟨by decide +kernel, by decide +kernel⟩, List.mem_of_getElem? (i := 97) (by decide +kernel), List.mem_of_getElem? (i := 421) (by decide +kernel), List.mem_of_getElem? (i := 422) (by decide +kernel)⟩
theorem lw_p14 : lw_okq (⟨"KeyBox$RuleReader", "tokenAsNumber", "()I"⟩, 8) := ⟨⟨by decide +kernel, by decide +kernel⟩, List.mem_of_getElem? (i := 97) (by decide +kernel), List.mem_of_getElem? (i := 431) (by decide +kernel), List.mem_of_getElem? (i := 432) (by decide +kernel)⟩
theorem lw_p15 : lw_okq (⟨"KeyBox$Year", "handOutKeys", "()V"⟩, 15) := ⟨⟨by decide +kernel, by decide +kernel⟩, List.mem_of_getElem? (i := 133) (by decide +kernel), List.mem_of_getElem? (i := 486) (by decide +kernel), List.mem_of_getElem? (i := 487) (by decide +kernel)⟩
def lw_privs_1 : List (MethodName × Nat) := [(⟨"KeyBox$Log", "latestWeek", "()I"⟩, 7), (⟨"KeyBox$Log", "add", "(III)I"⟩, 7), (⟨"KeyBox", "logChanged", "(I)I"⟩, 8), (⟨"KeyBox$Log", "canBe", "(III)Z"⟩, 7), (⟨"KeyBox$RuleReader", "startAnew", "()V"⟩, 8), (⟨"KeyBox$RuleReader", "nextToken", "()V"⟩, 8), (⟨"KeyBox$RuleReader", "behindRun", "(II)I"⟩, 8), (⟨"KeyBox$RuleReader", "kindAt", "(I)I"⟩, 8), (⟨"KeyBox$RuleReader", "readLine", "()Z"⟩, 8), (⟨"KeyBox$RuleReader", "tokenAsTopic", "()I"⟩, 8), (⟨"KeyBox$RuleReader", "tokenIs", "(Ljava/lang/String;)Z"⟩, 8), (⟨"KeyBox$RuleReader", "failed", "(I)Z"⟩, 8), (⟨"KeyBox$RuleReader", "isToldAlready", "(I)Z"⟩, 8), (⟨"KeyBox$RuleReader", "tokenAsOrder", "()I"⟩, 8), (⟨"KeyBox$RuleReader", "tokenAsNumber", "()I"⟩, 8), (⟨"KeyBox$Year", "handOutKeys", "()V"⟩, 15)]
theorem lw_r1 : ∀ q ∈ lw_privs_1, lw_okq q := List.forall_mem_cons.mpr ⟨lw_p0, List.forall_mem_cons.mpr ⟨lw_p1, List.forall_mem_cons.mpr ⟨lw_p2, List.forall_mem_cons.mpr ⟨lw_p3, List.forall_mem_cons.mpr ⟨lw_p4, List.forall_mem_cons.mpr ⟨lw_p5, List.forall_mem_cons.mpr ⟨lw_p6, List.forall_mem_cons.mpr ⟨lw_p7, List.forall_mem_cons.mpr ⟨lw_p8, List.forall_mem_cons.mpr ⟨lw_p9, List.forall_mem_cons.mpr ⟨lw_p10, List.forall_mem_cons.mpr ⟨lw_p11, List.forall_mem_cons.mpr ⟨lw_p12, List.forall_mem_cons.mpr ⟨lw_p13, List.forall_mem_cons.mpr ⟨lw_p14, List.forall_mem_cons.mpr ⟨lw_p15, fun _ h => absurd h List.not_mem_nil⟩⟩⟩⟩⟩⟩⟩⟩⟩⟩⟩⟩⟩⟩⟩⟩
theorem lw_p16 : lw_okq (⟨"KeyBox$Year", "isGone", "(I)Z"⟩, 15) := ⟨⟨by decide +kernel, by decide +kernel⟩, List.mem_of_getElem? (i := 133) (by decide +kernel), List.mem_of_getElem? (i := 494) (by decide +kernel), List.mem_of_getElem? (i := 495) (by decide +kernel)⟩
theorem lw_p17 : lw_okq (⟨"KeyBox$Year", "nextWithoutKey", "(I)I"⟩, 15) := ⟨⟨by decide +kernel, by decide +kernel⟩, List.mem_of_getElem? (i := 133) (by decide +kernel), List.mem_of_getElem? (i := 498) (by decide +kernel), List.mem_of_getElem? (i := 499) (by decide +kernel)⟩
theorem lw_p18 : lw_okq (⟨"KeyBox$Year", "hasKey", "(I)Z"⟩, 15) := ⟨⟨by decide +kernel, by decide +kernel⟩, List.mem_of_getElem? (i := 133) (by decide +kernel), List.mem_of_getElem? (i := 502) (by decide +kernel), List.mem_of_getElem? (i := 503) (by decide +kernel)⟩
theorem lw_p19 : lw_okq (⟨"KeyBox$Year", "isOpen", "()Z"⟩, 15) := ⟨⟨by decide +kernel, by decide +kernel⟩, List.mem_of_getElem? (i := 133) (by decide +kernel), List.mem_of_getElem? (i := 506) (by decide +kernel), List.mem_of_getElem? (i := 507) (by decide +kernel)⟩
theorem lw_p20 : lw_okq (⟨"KeyBox$Year", "isThere", "(I)Z"⟩, 15) := ⟨⟨by decide +kernel, by decide +kernel⟩, List.mem_of_getElem? (i := 133) (by decide +kernel), List.mem_of_getElem? (i := 510) (by decide +kernel), List.mem_of_getElem? (i := 511) (by decide +kernel)⟩
theorem lw_p21 : lw_okq (⟨"KeyBox$Year", "collectDues", "()V"⟩, 15) := ⟨⟨by decide +kernel, by decide +kernel⟩, List.mem_of_getElem? (i := 133) (by decide +kernel), List.mem_of_getElem? (i := 514) (by decide +kernel), List.mem_of_getElem? (i := 515) (by decide +kernel)⟩
theorem lw_p22 : lw_okq (⟨"KeyBox$Year", "payDue", "(III)V"⟩, 15) := ⟨⟨by decide +kernel, by decide +kernel⟩, List.mem_of_getElem? (i := 133) (by decide +kernel), List.mem_of_getElem? (i := 518) (by decide +kernel), List.mem_of_getElem? (i := 519) (by decide +kernel)⟩
theorem lw_p23 : lw_okq (⟨"KeyBox$Year", "growFallingLoans", "()V"⟩, 15) := ⟨⟨by decide +kernel, by decide +kernel⟩, List.mem_of_getElem? (i := 133) (by decide +kernel), List.mem_of_getElem? (i := 522) (by decide +kernel), List.mem_of_getElem? (i := 523) (by decide +kernel)⟩
theorem lw_p24 : lw_okq (⟨"KeyBox$Year", "growFallingLoan", "(II)V"⟩, 15) := ⟨⟨by decide +kernel, by decide +kernel⟩, List.mem_of_getElem? (i := 133) (by decide +kernel), List.mem_of_getElem? (i := 526) (by decide +kernel), List.mem_of_getElem? (i := 527) (by decide +kernel)⟩
theorem lw_p25 : lw_okq (⟨"KeyBox$Year", "putInterest", "(II)V"⟩, 15) := ⟨⟨by decide +kernel, by decide +kernel⟩, List.mem_of_getElem? (i := 133) (by decide +kernel), List.mem_of_getElem? (i := 534) (by decide +kernel), List.mem_of_getElem? (i := 535) (by decide +kernel)⟩
theorem lw_p26 : lw_okq (⟨"KeyBox$Year", "collectLateDues", "()V"⟩, 15) := ⟨⟨by decide +kernel, by decide +kernel⟩, List.mem_of_getElem? (i := 133) (by decide +kernel), List.mem_of_getElem? (i := 538) (by decide +kernel), List.mem_of_getElem? (i := 539) (by decide +kernel)⟩
theorem lw_p27 : lw_okq (⟨"KeyBox$Year", "doEntry", "(IIIZ)V"⟩, 15) := ⟨⟨by decide +kernel, by decide +kernel⟩, List.mem_of_getElem? (i := 133) (by decide +kernel), List.mem_of_getElem? (i := 546) (by decide +kernel), List.mem_of_getElem? (i := 547) (by decide +kernel)⟩
theorem lw_p28 : lw_okq (⟨"KeyBox$Year", "takeFrom", "(II)I"⟩, 15) := ⟨⟨by decide +kernel, by decide +kernel⟩, List.mem_of_getElem? (i := 133) (by decide +kernel), List.mem_of_getElem? (i := 550) (by decide +kernel), List.mem_of_getElem? (i := 551) (by decide +kernel)⟩
theorem lw_p29 : lw_okq (⟨"KeyBox$Year", "leave", "(I)V"⟩, 15) := ⟨⟨by decide +kernel, by decide +kernel⟩, List.mem_of_getElem? (i := 133) (by decide +kernel), List.mem_of_getElem? (i := 557) (by decide +kernel), List.mem_of_getElem? (i := 558) (by decide +kernel)⟩
theorem lw_p30 : lw_okq (⟨"KeyBox$Year", "total", "(I)I"⟩, 15) := ⟨⟨by decide +kernel, by decide +kernel⟩, List.mem_of_getElem? (i := 133) (by decide +kernel), List.mem_of_getElem? (i := 561) (by decide +kernel), List.mem_of_getElem? (i := 562) (by decide +kernel)⟩
theorem lw_p31 : lw_okq (⟨"KeyBox$Year", "closeQueue", "()V"⟩, 15) := ⟨⟨by decide +kernel, by decide +kernel⟩, List.mem_of_getElem? (i := 133) (by decide +kernel), List.mem_of_getElem? (i := 568) (by decide +kernel), List.mem_of_getElem? (i := 569) (by decide +kernel)⟩
def lw_privs_2 : List (MethodName × Nat) := [(⟨"KeyBox$Year", "isGone", "(I)Z"⟩, 15), (⟨"KeyBox$Year", "nextWithoutKey", "(I)I"⟩, 15), (⟨"KeyBox$Year", "hasKey", "(I)Z"⟩, 15), (⟨"KeyBox$Year", "isOpen", "()Z"⟩, 15), (⟨"KeyBox$Year", "isThere", "(I)Z"⟩, 15), (⟨"KeyBox$Year", "collectDues", "()V"⟩, 15), (⟨"KeyBox$Year", "payDue", "(III)V"⟩, 15), (⟨"KeyBox$Year", "growFallingLoans", "()V"⟩, 15), (⟨"KeyBox$Year", "growFallingLoan", "(II)V"⟩, 15), (⟨"KeyBox$Year", "putInterest", "(II)V"⟩, 15), (⟨"KeyBox$Year", "collectLateDues", "()V"⟩, 15), (⟨"KeyBox$Year", "doEntry", "(IIIZ)V"⟩, 15), (⟨"KeyBox$Year", "takeFrom", "(II)I"⟩, 15), (⟨"KeyBox$Year", "leave", "(I)V"⟩, 15), (⟨"KeyBox$Year", "total", "(I)I"⟩, 15), (⟨"KeyBox$Year", "closeQueue", "()V"⟩, 15)]
theorem lw_r2 : ∀ q ∈ lw_privs_2, lw_okq q := List.forall_mem_cons.mpr ⟨lw_p16, List.forall_mem_cons.mpr ⟨lw_p17, List.forall_mem_cons.mpr ⟨lw_p18, List.forall_mem_cons.mpr ⟨lw_p19, List.forall_mem_cons.mpr ⟨lw_p20, List.forall_mem_cons.mpr ⟨lw_p21, List.forall_mem_cons.mpr ⟨lw_p22, List.forall_mem_cons.mpr ⟨lw_p23, List.forall_mem_cons.mpr ⟨lw_p24, List.forall_mem_cons.mpr ⟨lw_p25, List.forall_mem_cons.mpr ⟨lw_p26, List.forall_mem_cons.mpr ⟨lw_p27, List.forall_mem_cons.mpr ⟨lw_p28, List.forall_mem_cons.mpr ⟨lw_p29, List.forall_mem_cons.mpr ⟨lw_p30, List.forall_mem_cons.mpr ⟨lw_p31, fun _ h => absurd h List.not_mem_nil⟩⟩⟩⟩⟩⟩⟩⟩⟩⟩⟩⟩⟩⟩⟩⟩
theorem lw_p32 : lw_okq (⟨"KeyBox$Year", "doEntryOfOneThere", "(III)V"⟩, 15) := ⟨⟨by decide +kernel, by decide +kernel⟩, List.mem_of_getElem? (i := 133) (by decide +kernel), List.mem_of_getElem? (i := 572) (by decide +kernel), List.mem_of_getElem? (i := 573) (by decide +kernel)⟩
theorem lw_p33 : lw_okq (⟨"KeyBox$Year", "buy", "(II)V"⟩, 15) := ⟨⟨by decide +kernel, by decide +kernel⟩, List.mem_of_getElem? (i := 133) (by decide +kernel), List.mem_of_getElem? (i := 576) (by decide +kernel), List.mem_of_getElem? (i := 577) (by decide +kernel)⟩
theorem lw_p34 : lw_okq (⟨"KeyBox$Year", "ask", "(II)V"⟩, 15) := ⟨⟨by decide +kernel, by decide +kernel⟩, List.mem_of_getElem? (i := 133) (by decide +kernel), List.mem_of_getElem? (i := 580) (by decide +kernel), List.mem_of_getElem? (i := 581) (by decide +kernel)⟩
theorem lw_p35 : lw_okq (⟨"KeyBox$Year", "payBack", "(II)V"⟩, 15) := ⟨⟨by decide +kernel, by decide +kernel⟩, List.mem_of_getElem? (i := 133) (by decide +kernel), List.mem_of_getElem? (i := 584) (by decide +kernel), List.mem_of_getElem? (i := 585) (by decide +kernel)⟩
theorem lw_p36 : lw_okq (⟨"KeyBox$Year", "serveQueue", "()V"⟩, 15) := ⟨⟨by decide +kernel, by decide +kernel⟩, List.mem_of_getElem? (i := 133) (by decide +kernel), List.mem_of_getElem? (i := 588) (by decide +kernel), List.mem_of_getElem? (i := 589) (by decide +kernel)⟩
theorem lw_p37 : lw_okq (⟨"KeyBox$Year", "lineUp", "()V"⟩, 15) := ⟨⟨by decide +kernel, by decide +kernel⟩, List.mem_of_getElem? (i := 133) (by decide +kernel), List.mem_of_getElem? (i := 592) (by decide +kernel), List.mem_of_getElem? (i := 593) (by decide +kernel)⟩
theorem lw_p38 : lw_okq (⟨"KeyBox$Year", "goesAhead", "(II)Z"⟩, 15) := ⟨⟨by decide +kernel, by decide +kernel⟩, List.mem_of_getElem? (i := 133) (by decide +kernel), List.mem_of_getElem? (i := 596) (by decide +kernel), List.mem_of_getElem? (i := 597) (by decide +kernel)⟩
theorem lw_p39 : lw_okq (⟨"KeyBox$Year", "lend", "(I)V"⟩, 15) := ⟨⟨by decide +kernel, by decide +kernel⟩, List.mem_of_getElem? (i := 133) (by decide +kernel), List.mem_of_getElem? (i := 600) (by decide +kernel), List.mem_of_getElem? (i := 601) (by decide +kernel)⟩
theorem lw_p40 : lw_okq (⟨"KeyBox$Year", "writeDown", "(IZ)V"⟩, 15) := ⟨⟨by decide +kernel, by decide +kernel⟩, List.mem_of_getElem? (i := 133) (by decide +kernel), List.mem_of_getElem? (i := 604) (by decide +kernel), List.mem_of_getElem? (i := 605) (by decide +kernel)⟩
theorem lw_p41 : lw_okq (⟨"KeyBox$Year", "part", "()V"⟩, 15) := ⟨⟨by decide +kernel, by decide +kernel⟩, List.mem_of_getElem? (i := 133) (by decide +kernel), List.mem_of_getElem? (i := 608) (by decide +kernel), List.mem_of_getElem? (i := 609) (by decide +kernel)⟩
theorem lw_p42 : lw_okq (⟨"KeyBox$Year", "reckonShares", "(I)V"⟩, 15) := ⟨⟨by decide +kernel, by decide +kernel⟩, List.mem_of_getElem? (i := 133) (by decide +kernel), List.mem_of_getElem? (i := 612) (by decide +kernel), List.mem_of_getElem? (i := 613) (by decide +kernel)⟩
theorem lw_p43 : lw_okq (⟨"KeyBox$Year", "lowestOverShare", "()I"⟩, 15) := ⟨⟨by decide +kernel, by decide +kernel⟩, List.mem_of_getElem? (i := 133) (by decide +kernel), List.mem_of_getElem? (i := 616) (by decide +kernel), List.mem_of_getElem? (i := 617) (by decide +kernel)⟩
theorem lw_p44 : lw_okq (⟨"KeyBox$Year", "payOut", "()V"⟩, 15) := ⟨⟨by decide +kernel, by decide +kernel⟩, List.mem_of_getElem? (i := 133) (by decide +kernel), List.mem_of_getElem? (i := 620) (by decide +kernel), List.mem_of_getElem? (i := 621) (by decide +kernel)⟩
theorem lw_p45 : lw_okq (⟨"KeyBoxModel", "scan", "()V"⟩, 50) := ⟨⟨by decide +kernel, by decide +kernel⟩, List.mem_of_getElem? (i := 662) (by decide +kernel), List.mem_of_getElem? (i := 837) (by decide +kernel), List.mem_of_getElem? (i := 838) (by decide +kernel)⟩
theorem lw_p46 : lw_okq (⟨"KeyBoxModel", "see", "(I)I"⟩, 50) := ⟨⟨by decide +kernel, by decide +kernel⟩, List.mem_of_getElem? (i := 662) (by decide +kernel), List.mem_of_getElem? (i := 841) (by decide +kernel), List.mem_of_getElem? (i := 842) (by decide +kernel)⟩
theorem lw_p47 : lw_okq (⟨"KeyBoxModel", "keyAt", "(II)I"⟩, 50) := ⟨⟨by decide +kernel, by decide +kernel⟩, List.mem_of_getElem? (i := 662) (by decide +kernel), List.mem_of_getElem? (i := 848) (by decide +kernel), List.mem_of_getElem? (i := 849) (by decide +kernel)⟩
def lw_privs_3 : List (MethodName × Nat) := [(⟨"KeyBox$Year", "doEntryOfOneThere", "(III)V"⟩, 15), (⟨"KeyBox$Year", "buy", "(II)V"⟩, 15), (⟨"KeyBox$Year", "ask", "(II)V"⟩, 15), (⟨"KeyBox$Year", "payBack", "(II)V"⟩, 15), (⟨"KeyBox$Year", "serveQueue", "()V"⟩, 15), (⟨"KeyBox$Year", "lineUp", "()V"⟩, 15), (⟨"KeyBox$Year", "goesAhead", "(II)Z"⟩, 15), (⟨"KeyBox$Year", "lend", "(I)V"⟩, 15), (⟨"KeyBox$Year", "writeDown", "(IZ)V"⟩, 15), (⟨"KeyBox$Year", "part", "()V"⟩, 15), (⟨"KeyBox$Year", "reckonShares", "(I)V"⟩, 15), (⟨"KeyBox$Year", "lowestOverShare", "()I"⟩, 15), (⟨"KeyBox$Year", "payOut", "()V"⟩, 15), (⟨"KeyBoxModel", "scan", "()V"⟩, 50), (⟨"KeyBoxModel", "see", "(I)I"⟩, 50), (⟨"KeyBoxModel", "keyAt", "(II)I"⟩, 50)]
theorem lw_r3 : ∀ q ∈ lw_privs_3, lw_okq q := List.forall_mem_cons.mpr ⟨lw_p32, List.forall_mem_cons.mpr ⟨lw_p33, List.forall_mem_cons.mpr ⟨lw_p34, List.forall_mem_cons.mpr ⟨lw_p35, List.forall_mem_cons.mpr ⟨lw_p36, List.forall_mem_cons.mpr ⟨lw_p37, List.forall_mem_cons.mpr ⟨lw_p38, List.forall_mem_cons.mpr ⟨lw_p39, List.forall_mem_cons.mpr ⟨lw_p40, List.forall_mem_cons.mpr ⟨lw_p41, List.forall_mem_cons.mpr ⟨lw_p42, List.forall_mem_cons.mpr ⟨lw_p43, List.forall_mem_cons.mpr ⟨lw_p44, List.forall_mem_cons.mpr ⟨lw_p45, List.forall_mem_cons.mpr ⟨lw_p46, List.forall_mem_cons.mpr ⟨lw_p47, fun _ h => absurd h List.not_mem_nil⟩⟩⟩⟩⟩⟩⟩⟩⟩⟩⟩⟩⟩⟩⟩⟩
theorem lw_p48 : lw_okq (⟨"KeyBoxModel", "readLine", "(I)Z"⟩, 50) := ⟨⟨by decide +kernel, by decide +kernel⟩, List.mem_of_getElem? (i := 662) (by decide +kernel), List.mem_of_getElem? (i := 858) (by decide +kernel), List.mem_of_getElem? (i := 859) (by decide +kernel)⟩
theorem lw_p49 : lw_okq (⟨"KeyBoxModel", "wrong", "(I)Z"⟩, 50) := ⟨⟨by decide +kernel, by decide +kernel⟩, List.mem_of_getElem? (i := 662) (by decide +kernel), List.mem_of_getElem? (i := 862) (by decide +kernel), List.mem_of_getElem? (i := 863) (by decide +kernel)⟩
theorem lw_p50 : lw_okq (⟨"KeyBoxModel", "lastWeek", "()I"⟩, 50) := ⟨⟨by decide +kernel, by decide +kernel⟩, List.mem_of_getElem? (i := 662) (by decide +kernel), List.mem_of_getElem? (i := 889) (by decide +kernel), List.mem_of_getElem? (i := 890) (by decide +kernel)⟩
theorem lw_p51 : lw_okq (⟨"KeyBoxModel", "add", "(III)I"⟩, 50) := ⟨⟨by decide +kernel, by decide +kernel⟩, List.mem_of_getElem? (i := 662) (by decide +kernel), List.mem_of_getElem? (i := 893) (by decide +kernel), List.mem_of_getElem? (i := 894) (by decide +kernel)⟩
theorem lw_p52 : lw_okq (⟨"KeyBoxModel", "run", "(II)V"⟩, 50) := ⟨⟨by decide +kernel, by decide +kernel⟩, List.mem_of_getElem? (i := 662) (by decide +kernel), List.mem_of_getElem? (i := 915) (by decide +kernel), List.mem_of_getElem? (i := 916) (by decide +kernel)⟩
theorem lw_p53 : lw_okq (⟨"KeyBoxModel", "begin", "(II)V"⟩, 50) := ⟨⟨by decide +kernel, by decide +kernel⟩, List.mem_of_getElem? (i := 662) (by decide +kernel), List.mem_of_getElem? (i := 919) (by decide +kernel), List.mem_of_getElem? (i := 920) (by decide +kernel)⟩
theorem lw_p54 : lw_okq (⟨"KeyBoxModel", "meets", "(II)I"⟩, 50) := ⟨⟨by decide +kernel, by decide +kernel⟩, List.mem_of_getElem? (i := 662) (by decide +kernel), List.mem_of_getElem? (i := 923) (by decide +kernel), List.mem_of_getElem? (i := 924) (by decide +kernel)⟩
theorem lw_p55 : lw_okq (⟨"KeyBoxModel", "giveKeys", "(II)V"⟩, 50) := ⟨⟨by decide +kernel, by decide +kernel⟩, List.mem_of_getElem? (i := 662) (by decide +kernel), List.mem_of_getElem? (i := 927) (by decide +kernel), List.mem_of_getElem? (i := 928) (by decide +kernel)⟩
theorem lw_p56 : lw_okq (⟨"KeyBoxModel", "ruleOf", "(II)I"⟩, 50) := ⟨⟨by decide +kernel, by decide +kernel⟩, List.mem_of_getElem? (i := 662) (by decide +kernel), List.mem_of_getElem? (i := 931) (by decide +kernel), List.mem_of_getElem? (i := 932) (by decide +kernel)⟩
theorem lw_p57 : lw_okq (⟨"KeyBoxModel", "hasKey", "(II)Z"⟩, 50) := ⟨⟨by decide +kernel, by decide +kernel⟩, List.mem_of_getElem? (i := 662) (by decide +kernel), List.mem_of_getElem? (i := 935) (by decide +kernel), List.mem_of_getElem? (i := 936) (by decide +kernel)⟩
theorem lw_p58 : lw_okq (⟨"KeyBoxModel", "isOpen", "(II)Z"⟩, 50) := ⟨⟨by decide +kernel, by decide +kernel⟩, List.mem_of_getElem? (i := 662) (by decide +kernel), List.mem_of_getElem? (i := 939) (by decide +kernel), List.mem_of_getElem? (i := 940) (by decide +kernel)⟩
theorem lw_p59 : lw_okq (⟨"KeyBoxModel", "opens", "(III)V"⟩, 50) := ⟨⟨by decide +kernel, by decide +kernel⟩, List.mem_of_getElem? (i := 662) (by decide +kernel), List.mem_of_getElem? (i := 943) (by decide +kernel), List.mem_of_getElem? (i := 944) (by decide +kernel)⟩
theorem lw_p60 : lw_okq (⟨"KeyBoxModel", "does", "(III)V"⟩, 50) := ⟨⟨by decide +kernel, by decide +kernel⟩, List.mem_of_getElem? (i := 662) (by decide +kernel), List.mem_of_getElem? (i := 950) (by decide +kernel), List.mem_of_getElem? (i := 951) (by decide +kernel)⟩
theorem lw_p61 : lw_okq (⟨"KeyBoxModel", "leaves", "(II)V"⟩, 50) := ⟨⟨by decide +kernel, by decide +kernel⟩, List.mem_of_getElem? (i := 662) (by decide +kernel), List.mem_of_getElem? (i := 954) (by decide +kernel), List.mem_of_getElem? (i := 955) (by decide +kernel)⟩
theorem lw_p62 : lw_okq (⟨"KeyBoxModel", "owed", "(I)I"⟩, 50) := ⟨⟨by decide +kernel, by decide +kernel⟩, List.mem_of_getElem? (i := 662) (by decide +kernel), List.mem_of_getElem? (i := 958) (by decide +kernel), List.mem_of_getElem? (i := 959) (by decide +kernel)⟩
theorem lw_p63 : lw_okq (⟨"KeyBoxModel", "allStamps", "(I)I"⟩, 50) := ⟨⟨by decide +kernel, by decide +kernel⟩, List.mem_of_getElem? (i := 662) (by decide +kernel), List.mem_of_getElem? (i := 962) (by decide +kernel), List.mem_of_getElem? (i := 963) (by decide +kernel)⟩
def lw_privs_4 : List (MethodName × Nat) := [(⟨"KeyBoxModel", "readLine", "(I)Z"⟩, 50), (⟨"KeyBoxModel", "wrong", "(I)Z"⟩, 50), (⟨"KeyBoxModel", "lastWeek", "()I"⟩, 50), (⟨"KeyBoxModel", "add", "(III)I"⟩, 50), (⟨"KeyBoxModel", "run", "(II)V"⟩, 50), (⟨"KeyBoxModel", "begin", "(II)V"⟩, 50), (⟨"KeyBoxModel", "meets", "(II)I"⟩, 50), (⟨"KeyBoxModel", "giveKeys", "(II)V"⟩, 50), (⟨"KeyBoxModel", "ruleOf", "(II)I"⟩, 50), (⟨"KeyBoxModel", "hasKey", "(II)Z"⟩, 50), (⟨"KeyBoxModel", "isOpen", "(II)Z"⟩, 50), (⟨"KeyBoxModel", "opens", "(III)V"⟩, 50), (⟨"KeyBoxModel", "does", "(III)V"⟩, 50), (⟨"KeyBoxModel", "leaves", "(II)V"⟩, 50), (⟨"KeyBoxModel", "owed", "(I)I"⟩, 50), (⟨"KeyBoxModel", "allStamps", "(I)I"⟩, 50)]
theorem lw_r4 : ∀ q ∈ lw_privs_4, lw_okq q := List.forall_mem_cons.mpr ⟨lw_p48, List.forall_mem_cons.mpr ⟨lw_p49, List.forall_mem_cons.mpr ⟨lw_p50, List.forall_mem_cons.mpr ⟨lw_p51, List.forall_mem_cons.mpr ⟨lw_p52, List.forall_mem_cons.mpr ⟨lw_p53, List.forall_mem_cons.mpr ⟨lw_p54, List.forall_mem_cons.mpr ⟨lw_p55, List.forall_mem_cons.mpr ⟨lw_p56, List.forall_mem_cons.mpr ⟨lw_p57, List.forall_mem_cons.mpr ⟨lw_p58, List.forall_mem_cons.mpr ⟨lw_p59, List.forall_mem_cons.mpr ⟨lw_p60, List.forall_mem_cons.mpr ⟨lw_p61, List.forall_mem_cons.mpr ⟨lw_p62, List.forall_mem_cons.mpr ⟨lw_p63, fun _ h => absurd h List.not_mem_nil⟩⟩⟩⟩⟩⟩⟩⟩⟩⟩⟩⟩⟩⟩⟩⟩
theorem lw_p64 : lw_okq (⟨"KeyBoxModel", "lends", "(II)V"⟩, 50) := ⟨⟨by decide +kernel, by decide +kernel⟩, List.mem_of_getElem? (i := 662) (by decide +kernel), List.mem_of_getElem? (i := 966) (by decide +kernel), List.mem_of_getElem? (i := 967) (by decide +kernel)⟩
theorem lw_p65 : lw_okq (⟨"KeyBoxModel", "isAhead", "(III)Z"⟩, 50) := ⟨⟨by decide +kernel, by decide +kernel⟩, List.mem_of_getElem? (i := 662) (by decide +kernel), List.mem_of_getElem? (i := 970) (by decide +kernel), List.mem_of_getElem? (i := 971) (by decide +kernel)⟩
theorem lw_p66 : lw_okq (⟨"KeyBoxModel", "keep", "(IZ)V"⟩, 50) := ⟨⟨by decide +kernel, by decide +kernel⟩, List.mem_of_getElem? (i := 662) (by decide +kernel), List.mem_of_getElem? (i := 974) (by decide +kernel), List.mem_of_getElem? (i := 975) (by decide +kernel)⟩
theorem lw_p67 : lw_okq (⟨"KeyBoxModel", "parting", "(I)V"⟩, 50) := ⟨⟨by decide +kernel, by decide +kernel⟩, List.mem_of_getElem? (i := 662) (by decide +kernel), List.mem_of_getElem? (i := 978) (by decide +kernel), List.mem_of_getElem? (i := 979) (by decide +kernel)⟩
theorem lw_p68 : lw_okq (⟨"KeyBoxModel", "has", "(II)I"⟩, 50) := ⟨⟨by decide +kernel, by decide +kernel⟩, List.mem_of_getElem? (i := 662) (by decide +kernel), List.mem_of_getElem? (i := 1002) (by decide +kernel), List.mem_of_getElem? (i := 1003) (by decide +kernel)⟩
def lw_privs_5 : List (MethodName × Nat) := [(⟨"KeyBoxModel", "lends", "(II)V"⟩, 50), (⟨"KeyBoxModel", "isAhead", "(III)Z"⟩, 50), (⟨"KeyBoxModel", "keep", "(IZ)V"⟩, 50), (⟨"KeyBoxModel", "parting", "(I)V"⟩, 50), (⟨"KeyBoxModel", "has", "(II)I"⟩, 50)]
theorem lw_r5 : ∀ q ∈ lw_privs_5, lw_okq q := List.forall_mem_cons.mpr ⟨lw_p64, List.forall_mem_cons.mpr ⟨lw_p65, List.forall_mem_cons.mpr ⟨lw_p66, List.forall_mem_cons.mpr ⟨lw_p67, List.forall_mem_cons.mpr ⟨lw_p68, fun _ h => absurd h List.not_mem_nil⟩⟩⟩⟩⟩
def lw_privs : List (MethodName × Nat) := lw_privs_1 ++ (lw_privs_2 ++ (lw_privs_3 ++ (lw_privs_4 ++ (lw_privs_5))))
def lw_tbl : List Cond := k2_sels lw_privs ++ tables_1
theorem lw_privs_ok : ∀ q ∈ lw_privs, lw_okq q := by
  show ∀ q ∈ lw_privs_1 ++ (lw_privs_2 ++ (lw_privs_3 ++ (lw_privs_4 ++ (lw_privs_5)))), lw_okq q
  exact List.forall_mem_append.mpr ⟨lw_r1, List.forall_mem_append.mpr ⟨lw_r2, List.forall_mem_append.mpr ⟨lw_r3, List.forall_mem_append.mpr ⟨lw_r4, lw_r5⟩⟩⟩⟩
-- ===== end of PART A; then your names; then what follows =====
end
section
/-! ===== BEGIN words of one list among another's, by their places ===== -/
theorem goodIn_r {big : List Cond} (ws : List Cond) (ps : List Nat) (hp : ws = ps.filterMap (fun i => big[i]?)) (h : ws.all goodWord = true) : GoodIn big ws := by
  intro w hw
  have h1 := List.all_eq_true.mp h w hw
  rw [hp] at hw
  obtain ⟨i, -, hi⟩ := List.mem_filterMap.mp hw
  have hm : w ∈ big := by first | exact List.mem_of_getElem? hi | exact List.getElem?_mem hi
  exact ⟨hm, good_of_word h1⟩
theorem goodIn_app {big a b : List Cond} (ha : GoodIn big a) (hb : GoodIn big b) : GoodIn big (a ++ b) := fun w h => (List.mem_append.mp h).elim (ha w) (hb w)
theorem goodIn_ca {big a b : List Cond} {c : Cond} (ha : GoodIn big (c :: a)) (hb : GoodIn big b) : GoodIn big (c :: (a ++ b)) := fun w h => (List.mem_cons.mp h).elim (fun e => ha w (List.mem_cons.mpr (Or.inl e))) (fun h => (List.mem_append.mp h).elim (fun h => ha w (List.mem_cons.mpr (Or.inr h))) (hb w))
theorem goodIn_sub {big ws : List Cond} (hm : ∀ w ∈ ws, w ∈ big) (h : ws.all goodWord = true) : GoodIn big ws := fun w hw => ⟨hm w hw, good_of_word (List.all_eq_true.mp h w hw)⟩
/-! ===== END ===== -/

/-! ===== BEGIN new T[n][m]: the outer array a place, the inner ones among the pooled ===== -/
/-- f, but v at every address of l -/
def vr_up {α : Type} (f : Nat → α) (l : List Nat) (v : α) : Nat → α := fun a => if a ∈ l then v else f a
theorem vr_up_in {α : Type} {f : Nat → α} {l : List Nat} {v : α} {a : Nat} (h : a ∈ l) : vr_up f l v a = v := if_pos h
theorem vr_up_ne {α : Type} {f : Nat → α} {l : List Nat} {v : α} {a : Nat} (h : a ∉ l) : vr_up f l v a = f a := if_neg h
theorem vr_rows {L l : List Nat} {f : Nat → va_E} {e : va_E} (h : ∀ a, a ∈ l → a ∉ L) : va_pl L f ++ l.map (fun a => (a, e)) = va_pl (L ++ l) (vr_up f l e) := by
  unfold va_pl
  rw [List.map_append]
  congr 1
  · apply List.map_congr_left
    intro a ha
    rw [vr_up_ne (fun q => h a q ha)]
  · apply List.map_congr_left
    intro a ha
    rw [vr_up_in ha]
theorem vr_lay {X rows : va_W} {x : Nat × va_E} {pl : va_W} {D : va_G} {cl : List vw_C} {H : Heap} (hP : va_P D cl (((X ++ pl) ++ [x]) ++ rows) H) : va_P D cl ((X ++ [x]) ++ (pl ++ rows)) H := by
  rw [List.append_assoc (X ++ pl)] at hP
  have h := va_P.swap hP
  rw [← List.append_assoc X] at h
  have h2 := va_P.swap h
  rw [List.append_assoc (X ++ [x])] at h2
  exact h2
theorem vr_layD {X rows : va_W} {x : Nat × va_E} {pl : va_W} {A : Nat → Prop} (hD : va_D A (((X ++ pl) ++ [x]) ++ rows)) : va_D A ((X ++ [x]) ++ (pl ++ rows)) := by
  rw [List.append_assoc (X ++ pl)] at hD
  have h := va_D.swap hD
  rw [← List.append_assoc X] at h
  have h2 := va_D.swap h
  rw [List.append_assoc (X ++ [x])] at h2
  exact h2
theorem vr_outer (c : ClassId) (N h0 : Nat) : ∀ i : Nat, Jvm.Free.Multi.outerC c N h0 i = arrV c N (fun j => va_rf (if j < i then some (h0 + 1 + j) else none))
  | 0 => by
    show ({ cls := c, slots := Array.replicate N .null, vm := .none } : Cell) = _
    rw [arrV_new]
    refine congrArg (arrV c N) (funext fun j => ?_)
    simp [va_rf]
  | i + 1 => by
    show (Jvm.Free.Multi.outerC c N h0 i).setSlot i (.ref (h0 + 1 + i)) = _
    rw [vr_outer c N h0 i, arrV_store]
    refine congrArg (arrV c N) (funext fun j => ?_)
    by_cases e : j = i
    · subst e
      simp [updV, va_rf]
    · by_cases h : j < i
      · simp [updV, e, h, Nat.lt_succ_of_lt h]
      · simp [updV, e, h, show ¬ j < i + 1 by omega]
/-- the tables have the class of arrays over arrays of ty (a name that the printed row below uses) -/
def va_AOA (ty : FieldType) (U : State) : Prop := (Cond.arrayOver (.array ty)).before #[] U = true
theorem va_AOA.use {ty : FieldType} {A : Array Value} {U : State} (h : va_AOA ty U) : (Cond.arrayOver (.array ty)).before A U = true := h
section VGM
variable {p : Program} {l : Launch} {e : Env} {R : Room} {s : State} {m : MethodId} {args : Array Value} {below : List Frame} {meth : Method} {c : Code} {H : Heap} {locs : List Loc} {cells slots : Nat} {Q : State → Prop}
variable {cc : ByteArray} {pc : Nat} {ls : Array Slot} {rest : List Value} {D : va_G} {cl : List vw_C} {A : Nat → Prop} {a : Nat} {tys : List (ClassId × FieldType)} {ws : va_W} {H0 : Heap}
theorem va_mna {X : va_W} {L : List Nat} {f : Nat → va_E} {cc : ByteArray} (hexec : p.tables.exec = Jvm.exec) (hb : c.code = cc) {own : String} {index : Nat} {ty : FieldType} {cy : ClassId} (hown : s.vm.findClass own = some m.cls) (hclink : (Cond.classLink own index ("[" ++ (FieldType.array ty).toString)).before args s = true) (hover : va_AOA ty s) (harr : (Cond.arrayClass ty).before args s = true) (hcy : s.vm.findClass (FieldType.array ty).toString = some cy)
    (hK : va_K D cl tys s) (hP : va_P D cl (X ++ va_pl L f) H) (hD : va_D A (X ++ va_pl L f)) (hS : va_S A H0 H locs) (hA : ∀ q, H0.size ≤ q → A q) {n k : Int32} {N' K' : Nat} {z : vp_A} (hn : ¬ n < 0) (hk : ¬ k < 0) (hN : n.toNatClampNeg = N') (hM : k.toNatClampNeg = K')
    (hb1 : N' * 4 ≤ 536870912) (hb2 : K' * componentBytes ty ≤ 536870912) (hb3 : K' ≤ 536870912) (hdf : fits ty (defaultValue ty) = true) (hdd : (defaultValue ty).isDefault = true) (hcells : cells + (1 + N') ≤ R.cells) (hslots : slots + (N' + N' * K') ≤ R.slots) (hz : ∀ c : ClassId, Jvm.Free.Multi.innerC c K' (defaultValue ty) = vp_cell c z) (hdg : decode cc pc = .ok (.multianewarray index 2, 4))
    (kk : ∀ (q : Nat) (r : Nat → Nat) (cA : ClassId) (H1 : Heap), (∀ i j : Nat, i < N' → j < N' → r i = r j → i = j) → (∀ i : Nat, i < N' → r i ∉ L) → va_K D cl (tys ++ [(cA, .array ty)]) s →
      va_P D cl ((X ++ [(q, .inl (cA, N', .inr (.inr (.inr (.inr (fun i => if i < N' then some (r i) else none))))))]) ++ va_pl (L ++ (List.range N').map r) (vr_up f ((List.range N').map r) (.inl (cy, z)))) H1 → va_D A ((X ++ [(q, .inl (cA, N', .inr (.inr (.inr (.inr (fun i => if i < N' then some (r i) else none))))))]) ++ va_pl (L ++ (List.range N').map r) (vr_up f ((List.range N').map r) (.inl (cy, z)))) → va_S A H0 H1 locs →
      W p l e R s m args below meth c H1 locs (cells + 1 + N') (slots + N' + N' * K') Q (F0 m (pc + 4) ls (.ref q :: rest))) : W p l e R s m args below meth c H locs cells slots Q (F0 m pc ls (.int k :: .int n :: rest)) := by
  subst hN
  subst hM
  intro T hT Xs
  obtain ⟨vm₁, cA, comp, -, fA, fC, hO, -, X', step⟩ := Xs.multianewarray2F hexec hown hclink (va_AOA.use hover) harr (g := F0 m pc ls (.int k :: .int n :: rest)) rfl (by rw [hb]; exact hdg) rfl hn hk hb1 hb2 hb3 hdf hdd hcells hslots
  have ec : some cy = some comp := hcy.symm.trans fC
  cases ec
  generalize hF : Jvm.Free.Multi.fill (T.setVm vm₁) cA cy n.toNatClampNeg k.toNatClampNeg (defaultValue ty) n.toNatClampNeg = F at X' step
  have hTh : (T.setVm vm₁).heap = H := hT
  obtain ⟨f1, f2, -, -⟩ := Jvm.Free.Multi.fill_facts (T.setVm vm₁) cA cy n.toNatClampNeg k.toNatClampNeg (defaultValue ty) n.toNatClampNeg
  rw [hF, hTh] at f1 f2
  have hold : ∀ x : Nat, x < H.size → F.heap[x]? = H[x]? := fun x hx => by
    have := Jvm.Free.Multi.fill_old (T.setVm vm₁) cA cy n.toNatClampNeg k.toNatClampNeg (defaultValue ty) (a := x) (by rw [hTh]; exact hx) n.toNatClampNeg
    rw [hF, hTh] at this
    exact this
  have hrow : ∀ j : Nat, j < n.toNatClampNeg → F.heap[H.size + 1 + j]? = some (vp_cell cy z) := fun j hj => by
    have := Jvm.Free.Multi.fill_inner (T.setVm vm₁) cA cy n.toNatClampNeg k.toNatClampNeg (defaultValue ty) n.toNatClampNeg j hj
    rw [hF, hTh, hz] at this
    exact this
  have hout : Jvm.Free.Multi.outerC cA n.toNatClampNeg H.size n.toNatClampNeg = vp_cell cA (n.toNatClampNeg, .inr (.inr (.inr (.inr (fun i => if i < n.toNatClampNeg then some (H.size + 1 + i) else none))))) := by
    rw [vp_cell_q]
    exact vr_outer cA n.toNatClampNeg H.size n.toNatClampNeg
  rw [hout] at f2
  have hlt : ∀ a, a ∈ L → a < H.size := fun a ha => by
    obtain ⟨k9, hk9⟩ := va_pl_get (X := X) (f := f) ha
    exact (hP k9 _ hk9).lt
  have hnl : ∀ i : Nat, i < n.toNatClampNeg → H.size + 1 + i ∉ L := fun i _ h => by
    have := hlt _ h
    omega
  have hnm : ∀ a, a ∈ (List.range n.toNatClampNeg).map (fun i => H.size + 1 + i) → a ∉ L := fun a ha h => by
    obtain ⟨i, -, rfl⟩ := List.mem_map.mp ha
    have := hlt _ h
    omega
  have hP0 : va_P D cl (X ++ va_pl L f) F.heap := hP.kept (fun k9 x hx => hold x.1 ((hP k9 x hx).lt))
  have hP1 : va_P D cl ((X ++ va_pl L f) ++ [(H.size, .inl (cA, n.toNatClampNeg, .inr (.inr (.inr (.inr (fun i => if i < n.toNatClampNeg then some (H.size + 1 + i) else none))))))]) F.heap := hP0.app (fun k9 x hx => by
    have h0 : k9 < 1 := (List.getElem?_eq_some_iff.mp hx).1
    rw [show k9 = 0 by omega] at hx
    cases hx
    exact f2)
  have hP2 : va_P D cl (((X ++ va_pl L f) ++ [(H.size, .inl (cA, n.toNatClampNeg, .inr (.inr (.inr (.inr (fun i => if i < n.toNatClampNeg then some (H.size + 1 + i) else none))))))]) ++ ((List.range n.toNatClampNeg).map (fun i => H.size + 1 + i)).map (fun a => (a, .inl (cy, z)))) F.heap := hP1.app (fun k9 x hx => by
    obtain ⟨a, ha, rfl⟩ := List.mem_map.mp (List.mem_of_getElem? hx)
    obtain ⟨i, hi, rfl⟩ := List.mem_map.mp ha
    exact hrow i (List.mem_range.mp hi))
  have hD2 : va_D A (((X ++ va_pl L f) ++ [(H.size, .inl (cA, n.toNatClampNeg, .inr (.inr (.inr (.inr (fun i => if i < n.toNatClampNeg then some (H.size + 1 + i) else none))))))]) ++ ((List.range n.toNatClampNeg).map (fun i => H.size + 1 + i)).map (fun a => (a, .inl (cy, z)))) := by
    have hD1 := hD.push (e := .inl (cA, n.toNatClampNeg, .inr (.inr (.inr (.inr (fun i => if i < n.toNatClampNeg then some (H.size + 1 + i) else none)))))) hP rfl (hA _ hS.1)
    generalize hW1 : (X ++ va_pl L f) ++ [(H.size, .inl (cA, n.toNatClampNeg, .inr (.inr (.inr (.inr (fun i => if i < n.toNatClampNeg then some (H.size + 1 + i) else none))))))] = W1 at hD1 hP1 ⊢
    have hle : ∀ (k9 : Nat) (x : Nat × va_E), W1[k9]? = some x → x.1 ≤ H.size := fun k9 x hx => by
      rw [← hW1] at hx
      by_cases hl : k9 < (X ++ va_pl L f).length
      · rw [List.getElem?_append_left hl] at hx
        exact Nat.le_of_lt ((hP k9 x hx).lt)
      · rw [List.getElem?_append_right (by omega)] at hx
        have h0 : k9 - (X ++ va_pl L f).length < 1 := (List.getElem?_eq_some_iff.mp hx).1
        rw [show k9 - (X ++ va_pl L f).length = 0 by omega] at hx
        cases hx
        exact Nat.le_refl _
    have hr : ∀ (k9 : Nat) (x : Nat × va_E), (((List.range n.toNatClampNeg).map (fun i => H.size + 1 + i)).map (fun a => ((a, .inl (cy, z)) : Nat × va_E)))[k9]? = some x → x.1 = H.size + 1 + k9 := fun k9 x hx => by
      rw [List.getElem?_map, List.getElem?_map] at hx
      by_cases h9 : k9 < n.toNatClampNeg
      · rw [List.getElem?_range h9] at hx
        cases hx
        rfl
      · have hn0 : (List.range n.toNatClampNeg)[k9]? = none := List.getElem?_eq_none (by rw [List.length_range]; omega)
        rw [hn0] at hx
        cases hx
    refine ⟨fun i j x y hi hj hxy => ?_, fun k9 x hx => ?_⟩
    · by_cases h1 : i < W1.length <;> by_cases h2 : j < W1.length
      · rw [List.getElem?_append_left h1] at hi
        rw [List.getElem?_append_left h2] at hj
        exact hD1.1 i j x y hi hj hxy
      · rw [List.getElem?_append_left h1] at hi
        rw [List.getElem?_append_right (by omega)] at hj
        have := hle _ _ hi
        have := hr _ _ hj
        omega
      · rw [List.getElem?_append_right (by omega)] at hi
        rw [List.getElem?_append_left h2] at hj
        have := hle _ _ hj
        have := hr _ _ hi
        omega
      · rw [List.getElem?_append_right (by omega)] at hi hj
        have := hr _ _ hi
        have := hr _ _ hj
        omega
    · by_cases h1 : k9 < W1.length
      · rw [List.getElem?_append_left h1] at hx
        exact hD1.2 k9 x hx
      · rw [List.getElem?_append_right (by omega)] at hx
        have := hr _ _ hx
        exact hA _ (by have := hS.1; omega)
  have hAr : ArrOfT s cA (.array ty) := fun N9 z9 => by
    obtain ⟨-, k9, hk9, cm9, hkk9⟩ := (hO 0 0 0).1
    exact ⟨(fun q hq => by cases hq), k9, hk9, cm9, hkk9⟩
  have hK2 : va_K D cl (tys ++ [(cA, .array ty)]) s := ⟨hK.1, fun k9 x hx => by
    by_cases hl : k9 < tys.length
    · rw [List.getElem?_append_left hl] at hx
      exact hK.2 k9 x hx
    · rw [List.getElem?_append_right (by omega)] at hx
      have h0 : k9 - tys.length < 1 := (List.getElem?_eq_some_iff.mp hx).1
      rw [show k9 - tys.length = 0 by omega] at hx
      cases hx
      exact ⟨hAr, fA⟩⟩
  obtain ⟨t, a1, b1⟩ := kk H.size (fun i => H.size + 1 + i) cA F.heap (fun i j _ _ h => by have h9 : H.size + 1 + i = H.size + 1 + j := h; omega) hnl hK2 (by rw [← vr_rows hnm]; exact vr_lay hP2) (by rw [← vr_rows hnm]; exact vr_layD hD2) ⟨by rw [f1]; have := hS.1; omega, fun x h1 h2 => (hold x (Nat.lt_of_lt_of_le h1 hS.1)).trans (hS.2.1 x h1 h2), hS.2.2⟩ F rfl X'
  refine ⟨t, step t ?_, b1⟩
  have e : T.heap.size = H.size := by rw [hT]
  rw [e]
  exact a1
end VGM
/-! ===== END ===== -/

/-! ===== BEGIN printed: names, fields, word lists, decode rows ===== -/
def RX0 : String := "KeyBox$Log"
def TX0 : u_T := fun k => match k with
  | 0 => ("KeyBox$Log", "kinds", "[I", true)
  | 1 => ("KeyBox$Log", "whos", "[I", true)
  | 2 => ("KeyBox$Log", "amounts", "[I", true)
  | 3 => ("KeyBox$Log", "starts", "[I", true)
  | 4 => ("KeyBox$Log", "size", "I", false)
  | 5 => ("KeyBox$Log", "meetingCount", "I", false)
  | _ => ("KeyBox$Log", "memberCount", "I", false)
def tyX0 : Nat → FieldType := fun k => match k with
  | 0 => .array .int
  | 1 => .array .int
  | 2 => .array .int
  | 3 => .array .int
  | 4 => .int
  | 5 => .int
  | _ => .int
abbrev wsX00 : List Cond := u_ws RX0 TX0 7
theorem nmX0 : ∀ a, a < 7 → ∀ b, b < 7 → a ≠ b → (TX0 a).2.1 ≠ (TX0 b).2.1 := by decide +kernel
theorem tyX0_ok : ∀ k, k < 7 → parseFieldDescriptor (TX0 k).2.2.1 = some (tyX0 k) := by decide +kernel
abbrev cX0_init : ByteArray := prog_2_method_1_code
def yX0_init : MethodName := ⟨RX0, "<init>", "()V"⟩
abbrev cX0_isMember : ByteArray := prog_2_method_2_code
def yX0_isMember : MethodName := ⟨RX0, "isMember", "(I)Z"⟩
abbrev cX0_isMeeting : ByteArray := prog_2_method_3_code
def yX0_isMeeting : MethodName := ⟨RX0, "isMeeting", "(I)Z"⟩
abbrev cX0_setMembers : ByteArray := prog_2_method_4_code
def yX0_setMembers : MethodName := ⟨RX0, "setMembers", "(I)I"⟩
abbrev cX0_addMeeting : ByteArray := prog_2_method_5_code
def yX0_addMeeting : MethodName := ⟨RX0, "addMeeting", "(II)I"⟩
abbrev cX0_addEntry : ByteArray := prog_2_method_6_code
def yX0_addEntry : MethodName := ⟨RX0, "addEntry", "(III)I"⟩
abbrev cX0_read : ByteArray := prog_2_method_7_code
def yX0_read : MethodName := ⟨RX0, "read", "(II)I"⟩
abbrev cX0_takeBack : ByteArray := prog_2_method_8_code
def yX0_takeBack : MethodName := ⟨RX0, "takeBack", "()I"⟩
abbrev cX0_startOf : ByteArray := prog_2_method_9_code
def yX0_startOf : MethodName := ⟨RX0, "startOf", "(I)I"⟩
abbrev cX0_endOf : ByteArray := prog_2_method_10_code
def yX0_endOf : MethodName := ⟨RX0, "endOf", "(I)I"⟩
abbrev cX0_latestWeek : ByteArray := prog_2_method_11_code
def yX0_latestWeek : MethodName := ⟨RX0, "latestWeek", "()I"⟩
abbrev cX0_canBe : ByteArray := prog_2_method_12_code
def yX0_canBe : MethodName := ⟨RX0, "canBe", "(III)Z"⟩
abbrev cX0_add : ByteArray := prog_2_method_13_code
def yX0_add : MethodName := ⟨RX0, "add", "(III)I"⟩
def RX1 : String := "KeyBox$RuleReader"
def TX1 : u_T := fun k => match k with
  | 0 => ("KeyBox$RuleReader", "tape", "LKeyBox$Tape;", true)
  | 1 => ("KeyBox$RuleReader", "draft", "LKeyBox$RuleSet;", true)
  | 2 => ("KeyBox$RuleReader", "told", "[Z", true)
  | 3 => ("KeyBox$RuleReader", "tokenKind", "I", false)
  | 4 => ("KeyBox$RuleReader", "tokenStart", "I", false)
  | 5 => ("KeyBox$RuleReader", "tokenEnd", "I", false)
  | 6 => ("KeyBox$RuleReader", "faultKind", "I", false)
  | _ => ("KeyBox$RuleReader", "faultPlace", "I", false)
def tyX1 : Nat → FieldType := fun k => match k with
  | 0 => .object "KeyBox$Tape"
  | 1 => .object "KeyBox$RuleSet"
  | 2 => .array .boolean
  | 3 => .int
  | 4 => .int
  | 5 => .int
  | 6 => .int
  | _ => .int
abbrev wsX10 : List Cond := u_ws RX1 TX1 8
theorem nmX1 : ∀ a, a < 8 → ∀ b, b < 8 → a ≠ b → (TX1 a).2.1 ≠ (TX1 b).2.1 := by decide +kernel
theorem tyX1_ok : ∀ k, k < 8 → parseFieldDescriptor (TX1 k).2.2.1 = some (tyX1 k) := by decide +kernel
abbrev cX1_init : ByteArray := prog_3_method_1_code
def yX1_init : MethodName := ⟨RX1, "<init>", "(LKeyBox$Tape;)V"⟩
abbrev cX1_read : ByteArray := prog_3_method_2_code
def yX1_read : MethodName := ⟨RX1, "read", "(LKeyBox$RuleSet;)I"⟩
abbrev cX1_startAnew : ByteArray := prog_3_method_3_code
def yX1_startAnew : MethodName := ⟨RX1, "startAnew", "()V"⟩
abbrev cX1_readLine : ByteArray := prog_3_method_4_code
def yX1_readLine : MethodName := ⟨RX1, "readLine", "()Z"⟩
abbrev cX1_failed : ByteArray := prog_3_method_5_code
def yX1_failed : MethodName := ⟨RX1, "failed", "(I)Z"⟩
abbrev cX1_isToldAlready : ByteArray := prog_3_method_6_code
def yX1_isToldAlready : MethodName := ⟨RX1, "isToldAlready", "(I)Z"⟩
abbrev cX1_tokenAsTopic : ByteArray := prog_3_method_7_code
def yX1_tokenAsTopic : MethodName := ⟨RX1, "tokenAsTopic", "()I"⟩
abbrev cX1_tokenAsOrder : ByteArray := prog_3_method_8_code
def yX1_tokenAsOrder : MethodName := ⟨RX1, "tokenAsOrder", "()I"⟩
abbrev cX1_tokenAsNumber : ByteArray := prog_3_method_9_code
def yX1_tokenAsNumber : MethodName := ⟨RX1, "tokenAsNumber", "()I"⟩
abbrev cX1_tokenIs : ByteArray := prog_3_method_10_code
def yX1_tokenIs : MethodName := ⟨RX1, "tokenIs", "(Ljava/lang/String;)Z"⟩
abbrev cX1_nextToken : ByteArray := prog_3_method_11_code
def yX1_nextToken : MethodName := ⟨RX1, "nextToken", "()V"⟩
abbrev cX1_behindRun : ByteArray := prog_3_method_12_code
def yX1_behindRun : MethodName := ⟨RX1, "behindRun", "(II)I"⟩
abbrev cX1_kindAt : ByteArray := prog_3_method_13_code
def yX1_kindAt : MethodName := ⟨RX1, "kindAt", "(I)I"⟩
def RX2 : String := "KeyBox$RuleSet"
def TX2 : u_T := fun k => match k with
  | _ => ("KeyBox$RuleSet", "values", "[I", true)
def tyX2 : Nat → FieldType := fun k => match k with
  | _ => .array .int
abbrev wsX20 : List Cond := u_ws RX2 TX2 1
theorem nmX2 : ∀ a, a < 1 → ∀ b, b < 1 → a ≠ b → (TX2 a).2.1 ≠ (TX2 b).2.1 := by decide +kernel
theorem tyX2_ok : ∀ k, k < 1 → parseFieldDescriptor (TX2 k).2.2.1 = some (tyX2 k) := by decide +kernel
abbrev cX2_init : ByteArray := prog_4_method_1_code
def yX2_init : MethodName := ⟨RX2, "<init>", "()V"⟩
abbrev cX2_of : ByteArray := prog_4_method_2_code
def yX2_of : MethodName := ⟨RX2, "of", "(I)I"⟩
abbrev cX2_forget : ByteArray := prog_4_method_3_code
def yX2_forget : MethodName := ⟨RX2, "forget", "()V"⟩
abbrev cX2_copy : ByteArray := prog_4_method_4_code
def yX2_copy : MethodName := ⟨RX2, "copy", "(LKeyBox$RuleSet;)V"⟩
abbrev cX2_tell : ByteArray := prog_4_method_5_code
def yX2_tell : MethodName := ⟨RX2, "tell", "(II)V"⟩
abbrev cX2_isInBounds : ByteArray := prog_4_method_6_code
def yX2_isInBounds : MethodName := ⟨RX2, "isInBounds", "(II)Z"⟩
abbrev cX2_topicWord : ByteArray := prog_4_method_7_code
def yX2_topicWord : MethodName := ⟨RX2, "topicWord", "(I)Ljava/lang/String;"⟩
abbrev cX2_orderWord : ByteArray := prog_4_method_8_code
def yX2_orderWord : MethodName := ⟨RX2, "orderWord", "(I)Ljava/lang/String;"⟩
def RX3 : String := "KeyBox$Tape"
def TX3 : u_T := fun k => match k with
  | 0 => ("KeyBox$Tape", "bytes", "[B", true)
  | _ => ("KeyBox$Tape", "length", "I", false)
def tyX3 : Nat → FieldType := fun k => match k with
  | 0 => .array .byte
  | _ => .int
abbrev wsX30 : List Cond := u_ws RX3 TX3 2
theorem nmX3 : ∀ a, a < 2 → ∀ b, b < 2 → a ≠ b → (TX3 a).2.1 ≠ (TX3 b).2.1 := by decide +kernel
theorem tyX3_ok : ∀ k, k < 2 → parseFieldDescriptor (TX3 k).2.2.1 = some (tyX3 k) := by decide +kernel
abbrev cX3_init : ByteArray := prog_5_method_1_code
def yX3_init : MethodName := ⟨RX3, "<init>", "()V"⟩
abbrev cX3_hasRoomFor : ByteArray := prog_5_method_2_code
def yX3_hasRoomFor : MethodName := ⟨RX3, "hasRoomFor", "(I)Z"⟩
abbrev cX3_append : ByteArray := prog_5_method_3_code
def yX3_append : MethodName := ⟨RX3, "append", "(I)V"⟩
abbrev cX3_at : ByteArray := prog_5_method_4_code
def yX3_at : MethodName := ⟨RX3, "at", "(I)I"⟩
def RX4 : String := "KeyBox$Year"
def TX4 : u_T := fun k => match k with
  | 0 => ("KeyBox$Year", "log", "LKeyBox$Log;", true)
  | 1 => ("KeyBox$Year", "ofMember", "[[I", true)
  | 2 => ("KeyBox$Year", "ofMeeting", "[[I", true)
  | 3 => ("KeyBox$Year", "sums", "[I", true)
  | 4 => ("KeyBox$Year", "keys", "[I", true)
  | 5 => ("KeyBox$Year", "givenInWeek", "[I", true)
  | 6 => ("KeyBox$Year", "reckonedToWeek", "[I", true)
  | 7 => ("KeyBox$Year", "boughtToday", "[I", true)
  | 8 => ("KeyBox$Year", "asked", "[I", true)
  | 9 => ("KeyBox$Year", "queue", "[I", true)
  | 10 => ("KeyBox$Year", "servingOrder", "[I", true)
  | 11 => ("KeyBox$Year", "queued", "I", false)
  | 12 => ("KeyBox$Year", "week", "I", false)
  | 13 => ("KeyBox$Year", "there", "I", false)
  | _ => ("KeyBox$Year", "ruleSet", "LKeyBox$RuleSet;", false)
def tyX4 : Nat → FieldType := fun k => match k with
  | 0 => .object "KeyBox$Log"
  | 1 => .array (.array .int)
  | 2 => .array (.array .int)
  | 3 => .array .int
  | 4 => .array .int
  | 5 => .array .int
  | 6 => .array .int
  | 7 => .array .int
  | 8 => .array .int
  | 9 => .array .int
  | 10 => .array .int
  | 11 => .int
  | 12 => .int
  | 13 => .int
  | _ => .object "KeyBox$RuleSet"
abbrev wsX40 : List Cond := u_ws RX4 TX4 15
theorem nmX4 : ∀ a, a < 15 → ∀ b, b < 15 → a ≠ b → (TX4 a).2.1 ≠ (TX4 b).2.1 := by decide +kernel
theorem tyX4_ok : ∀ k, k < 15 → parseFieldDescriptor (TX4 k).2.2.1 = some (tyX4 k) := by decide +kernel
abbrev cX4_init : ByteArray := prog_6_method_1_code
def yX4_init : MethodName := ⟨RX4, "<init>", "(LKeyBox$Log;LKeyBox$RuleSet;)V"⟩
abbrev cX4_playAll : ByteArray := prog_6_method_2_code
def yX4_playAll : MethodName := ⟨RX4, "playAll", "(LKeyBox$RuleSet;)V"⟩
abbrev cX4_begin : ByteArray := prog_6_method_3_code
def yX4_begin : MethodName := ⟨RX4, "begin", "(LKeyBox$RuleSet;)V"⟩
abbrev cX4_playMeeting : ByteArray := prog_6_method_4_code
def yX4_playMeeting : MethodName := ⟨RX4, "playMeeting", "(I)V"⟩
abbrev cX4_differsFrom : ByteArray := prog_6_method_5_code
def yX4_differsFrom : MethodName := ⟨RX4, "differsFrom", "(LKeyBox$Year;)Z"⟩
abbrev cX4_hasOfTheYear : ByteArray := prog_6_method_6_code
def yX4_hasOfTheYear : MethodName := ⟨RX4, "hasOfTheYear", "(I)I"⟩
abbrev cX4_handOutKeys : ByteArray := prog_6_method_7_code
def yX4_handOutKeys : MethodName := ⟨RX4, "handOutKeys", "()V"⟩
abbrev cX4_nextWithoutKey : ByteArray := prog_6_method_8_code
def yX4_nextWithoutKey : MethodName := ⟨RX4, "nextWithoutKey", "(I)I"⟩
abbrev cX4_hasKey : ByteArray := prog_6_method_9_code
def yX4_hasKey : MethodName := ⟨RX4, "hasKey", "(I)Z"⟩
abbrev cX4_isOpen : ByteArray := prog_6_method_10_code
def yX4_isOpen : MethodName := ⟨RX4, "isOpen", "()Z"⟩
abbrev cX4_isThere : ByteArray := prog_6_method_11_code
def yX4_isThere : MethodName := ⟨RX4, "isThere", "(I)Z"⟩
abbrev cX4_isGone : ByteArray := prog_6_method_12_code
def yX4_isGone : MethodName := ⟨RX4, "isGone", "(I)Z"⟩
abbrev cX4_collectDues : ByteArray := prog_6_method_13_code
def yX4_collectDues : MethodName := ⟨RX4, "collectDues", "()V"⟩
abbrev cX4_growFallingLoans : ByteArray := prog_6_method_14_code
def yX4_growFallingLoans : MethodName := ⟨RX4, "growFallingLoans", "()V"⟩
abbrev cX4_growFallingLoan : ByteArray := prog_6_method_15_code
def yX4_growFallingLoan : MethodName := ⟨RX4, "growFallingLoan", "(II)V"⟩
abbrev cX4_collectLateDues : ByteArray := prog_6_method_16_code
def yX4_collectLateDues : MethodName := ⟨RX4, "collectLateDues", "()V"⟩
abbrev cX4_payDue : ByteArray := prog_6_method_17_code
def yX4_payDue : MethodName := ⟨RX4, "payDue", "(III)V"⟩
abbrev cX4_putInterest : ByteArray := prog_6_method_18_code
def yX4_putInterest : MethodName := ⟨RX4, "putInterest", "(II)V"⟩
abbrev cX4_doEntry : ByteArray := prog_6_method_19_code
def yX4_doEntry : MethodName := ⟨RX4, "doEntry", "(IIIZ)V"⟩
abbrev cX4_doEntryOfOneThere : ByteArray := prog_6_method_20_code
def yX4_doEntryOfOneThere : MethodName := ⟨RX4, "doEntryOfOneThere", "(III)V"⟩
abbrev cX4_buy : ByteArray := prog_6_method_21_code
def yX4_buy : MethodName := ⟨RX4, "buy", "(II)V"⟩
abbrev cX4_ask : ByteArray := prog_6_method_22_code
def yX4_ask : MethodName := ⟨RX4, "ask", "(II)V"⟩
abbrev cX4_payBack : ByteArray := prog_6_method_23_code
def yX4_payBack : MethodName := ⟨RX4, "payBack", "(II)V"⟩
abbrev cX4_leave : ByteArray := prog_6_method_24_code
def yX4_leave : MethodName := ⟨RX4, "leave", "(I)V"⟩
abbrev cX4_takeFrom : ByteArray := prog_6_method_25_code
def yX4_takeFrom : MethodName := ⟨RX4, "takeFrom", "(II)I"⟩
abbrev cX4_serveQueue : ByteArray := prog_6_method_26_code
def yX4_serveQueue : MethodName := ⟨RX4, "serveQueue", "()V"⟩
abbrev cX4_lineUp : ByteArray := prog_6_method_27_code
def yX4_lineUp : MethodName := ⟨RX4, "lineUp", "()V"⟩
abbrev cX4_goesAhead : ByteArray := prog_6_method_28_code
def yX4_goesAhead : MethodName := ⟨RX4, "goesAhead", "(II)Z"⟩
abbrev cX4_lend : ByteArray := prog_6_method_29_code
def yX4_lend : MethodName := ⟨RX4, "lend", "(I)V"⟩
abbrev cX4_closeQueue : ByteArray := prog_6_method_30_code
def yX4_closeQueue : MethodName := ⟨RX4, "closeQueue", "()V"⟩
abbrev cX4_writeDown : ByteArray := prog_6_method_31_code
def yX4_writeDown : MethodName := ⟨RX4, "writeDown", "(IZ)V"⟩
abbrev cX4_part : ByteArray := prog_6_method_32_code
def yX4_part : MethodName := ⟨RX4, "part", "()V"⟩
abbrev cX4_reckonShares : ByteArray := prog_6_method_33_code
def yX4_reckonShares : MethodName := ⟨RX4, "reckonShares", "(I)V"⟩
abbrev cX4_lowestOverShare : ByteArray := prog_6_method_34_code
def yX4_lowestOverShare : MethodName := ⟨RX4, "lowestOverShare", "()I"⟩
abbrev cX4_payOut : ByteArray := prog_6_method_35_code
def yX4_payOut : MethodName := ⟨RX4, "payOut", "()V"⟩
abbrev cX4_total : ByteArray := prog_6_method_36_code
def yX4_total : MethodName := ⟨RX4, "total", "(I)I"⟩
abbrev cX4_partOf : ByteArray := prog_6_method_37_code
def yX4_partOf : MethodName := ⟨RX4, "partOf", "(III)I"⟩
abbrev cX4_hundredths : ByteArray := prog_6_method_38_code
def yX4_hundredths : MethodName := ⟨RX4, "hundredths", "(II)I"⟩
def RX5 : String := "KeyBox"
def TX5 : u_T := fun k => match k with
  | 0 => ("KeyBox", "tape", "LKeyBox$Tape;", true)
  | 1 => ("KeyBox", "log", "LKeyBox$Log;", true)
  | 2 => ("KeyBox", "ruleSets", "[LKeyBox$RuleSet;", true)
  | 3 => ("KeyBox", "reader", "LKeyBox$RuleReader;", true)
  | 4 => ("KeyBox", "latest", "LKeyBox$Year;", true)
  | 5 => ("KeyBox", "oneYear", "LKeyBox$Year;", true)
  | 6 => ("KeyBox", "otherYear", "LKeyBox$Year;", true)
  | _ => ("KeyBox", "playedLatest", "I", false)
def tyX5 : Nat → FieldType := fun k => match k with
  | 0 => .object "KeyBox$Tape"
  | 1 => .object "KeyBox$Log"
  | 2 => .array (.object "KeyBox$RuleSet")
  | 3 => .object "KeyBox$RuleReader"
  | 4 => .object "KeyBox$Year"
  | 5 => .object "KeyBox$Year"
  | 6 => .object "KeyBox$Year"
  | _ => .int
abbrev wsX50 : List Cond := u_ws RX5 TX5 8
theorem nmX5 : ∀ a, a < 8 → ∀ b, b < 8 → a ≠ b → (TX5 a).2.1 ≠ (TX5 b).2.1 := by decide +kernel
theorem tyX5_ok : ∀ k, k < 8 → parseFieldDescriptor (TX5 k).2.2.1 = some (tyX5 k) := by decide +kernel
abbrev cX5_init : ByteArray := prog_1_method_1_code
def yX5_init : MethodName := ⟨RX5, "<init>", "()V"⟩
abbrev cX5_feed : ByteArray := prog_1_method_2_code
def yX5_feed : MethodName := ⟨RX5, "feed", "(IIIII)I"⟩
abbrev cX5_end : ByteArray := prog_1_method_3_code
def yX5_end : MethodName := ⟨RX5, "end", "(I)I"⟩
abbrev cX5_members : ByteArray := prog_1_method_4_code
def yX5_members : MethodName := ⟨RX5, "members", "(I)I"⟩
abbrev cX5_meet : ByteArray := prog_1_method_5_code
def yX5_meet : MethodName := ⟨RX5, "meet", "(II)I"⟩
abbrev cX5_enter : ByteArray := prog_1_method_6_code
def yX5_enter : MethodName := ⟨RX5, "enter", "(III)I"⟩
abbrev cX5_entry : ByteArray := prog_1_method_7_code
def yX5_entry : MethodName := ⟨RX5, "entry", "(II)I"⟩
abbrev cX5_back : ByteArray := prog_1_method_8_code
def yX5_back : MethodName := ⟨RX5, "back", "()I"⟩
abbrev cX5_rules : ByteArray := prog_1_method_9_code
def yX5_rules : MethodName := ⟨RX5, "rules", "(I)I"⟩
abbrev cX5_fault : ByteArray := prog_1_method_10_code
def yX5_fault : MethodName := ⟨RX5, "fault", "(I)I"⟩
abbrev cX5_rule : ByteArray := prog_1_method_11_code
def yX5_rule : MethodName := ⟨RX5, "rule", "(II)I"⟩
abbrev cX5_play : ByteArray := prog_1_method_12_code
def yX5_play : MethodName := ⟨RX5, "play", "(I)I"⟩
abbrev cX5_member : ByteArray := prog_1_method_13_code
def yX5_member : MethodName := ⟨RX5, "member", "(II)I"⟩
abbrev cX5_meeting : ByteArray := prog_1_method_14_code
def yX5_meeting : MethodName := ⟨RX5, "meeting", "(II)I"⟩
abbrev cX5_sum : ByteArray := prog_1_method_15_code
def yX5_sum : MethodName := ⟨RX5, "sum", "(I)I"⟩
abbrev cX5_parts : ByteArray := prog_1_method_16_code
def yX5_parts : MethodName := ⟨RX5, "parts", "(II)I"⟩
abbrev cX5_gains : ByteArray := prog_1_method_17_code
def yX5_gains : MethodName := ⟨RX5, "gains", "(III)I"⟩
abbrev cX5_count : ByteArray := prog_1_method_18_code
def yX5_count : MethodName := ⟨RX5, "count", "(I)I"⟩
abbrev cX5_isRuleSet : ByteArray := prog_1_method_19_code
def yX5_isRuleSet : MethodName := ⟨RX5, "isRuleSet", "(I)Z"⟩
abbrev cX5_logChanged : ByteArray := prog_1_method_20_code
def yX5_logChanged : MethodName := ⟨RX5, "logChanged", "(I)I"⟩
def RX6 : String := "KeyBoxModel"
def TX6 : u_T := fun k => match k with
  | 0 => ("KeyBoxModel", "tape", "[B", true)
  | 1 => ("KeyBoxModel", "taped", "I", false)
  | 2 => ("KeyBoxModel", "size", "I", false)
  | 3 => ("KeyBoxModel", "sort", "I", false)
  | 4 => ("KeyBoxModel", "what", "I", false)
  | 5 => ("KeyBoxModel", "at", "I", false)
  | 6 => ("KeyBoxModel", "end", "I", false)
  | 7 => ("KeyBoxModel", "worth", "I", false)
  | 8 => ("KeyBoxModel", "faultKind", "I", false)
  | 9 => ("KeyBoxModel", "faultPlace", "I", false)
  | 10 => ("KeyBoxModel", "rules", "[I", true)
  | 11 => ("KeyBoxModel", "members", "I", false)
  | 12 => ("KeyBoxModel", "entries", "I", false)
  | 13 => ("KeyBoxModel", "kind", "[I", true)
  | 14 => ("KeyBoxModel", "who", "[I", true)
  | 15 => ("KeyBoxModel", "much", "[I", true)
  | 16 => ("KeyBoxModel", "by", "[I", true)
  | 17 => ("KeyBoxModel", "box", "[I", true)
  | 18 => ("KeyBoxModel", "fund", "[I", true)
  | 19 => ("KeyBoxModel", "stamps", "[I", true)
  | 20 => ("KeyBoxModel", "bought", "[I", true)
  | 21 => ("KeyBoxModel", "owes", "[I", true)
  | 22 => ("KeyBoxModel", "since", "[I", true)
  | 23 => ("KeyBoxModel", "grown", "[I", true)
  | 24 => ("KeyBoxModel", "lent", "[I", true)
  | 25 => ("KeyBoxModel", "paidBack", "[I", true)
  | 26 => ("KeyBoxModel", "dues", "[I", true)
  | 27 => ("KeyBoxModel", "waited", "[I", true)
  | 28 => ("KeyBoxModel", "refused", "[I", true)
  | 29 => ("KeyBoxModel", "gone", "[Z", true)
  | 30 => ("KeyBoxModel", "gotGone", "[I", true)
  | 31 => ("KeyBoxModel", "share", "[I", true)
  | 32 => ("KeyBoxModel", "gets", "[I", true)
  | 33 => ("KeyBoxModel", "isOut", "[Z", true)
  | 34 => ("KeyBoxModel", "asks", "[I", true)
  | 35 => ("KeyBoxModel", "askAt", "[I", true)
  | 36 => ("KeyBoxModel", "today", "[I", true)
  | 37 => ("KeyBoxModel", "opened", "[I", true)
  | 38 => ("KeyBoxModel", "shut", "[I", true)
  | 39 => ("KeyBoxModel", "total", "[I", true)
  | 40 => ("KeyBoxModel", "rest", "[I", true)
  | 41 => ("KeyBoxModel", "lostGone", "[I", true)
  | 42 => ("KeyBoxModel", "lostOut", "[I", true)
  | 43 => ("KeyBoxModel", "robbed", "[I", true)
  | 44 => ("KeyBoxModel", "fundPaid", "[I", true)
  | 45 => ("KeyBoxModel", "interest", "[I", true)
  | 46 => ("KeyBoxModel", "key", "[I", true)
  | 47 => ("KeyBoxModel", "told", "[I", true)
  | 48 => ("KeyBoxModel", "toldMany", "I", false)
  | _ => ("KeyBoxModel", "played", "I", false)
def tyX6 : Nat → FieldType := fun k => match k with
  | 0 => .array .byte
  | 1 => .int
  | 2 => .int
  | 3 => .int
  | 4 => .int
  | 5 => .int
  | 6 => .int
  | 7 => .int
  | 8 => .int
  | 9 => .int
  | 10 => .array .int
  | 11 => .int
  | 12 => .int
  | 13 => .array .int
  | 14 => .array .int
  | 15 => .array .int
  | 16 => .array .int
  | 17 => .array .int
  | 18 => .array .int
  | 19 => .array .int
  | 20 => .array .int
  | 21 => .array .int
  | 22 => .array .int
  | 23 => .array .int
  | 24 => .array .int
  | 25 => .array .int
  | 26 => .array .int
  | 27 => .array .int
  | 28 => .array .int
  | 29 => .array .boolean
  | 30 => .array .int
  | 31 => .array .int
  | 32 => .array .int
  | 33 => .array .boolean
  | 34 => .array .int
  | 35 => .array .int
  | 36 => .array .int
  | 37 => .array .int
  | 38 => .array .int
  | 39 => .array .int
  | 40 => .array .int
  | 41 => .array .int
  | 42 => .array .int
  | 43 => .array .int
  | 44 => .array .int
  | 45 => .array .int
  | 46 => .array .int
  | 47 => .array .int
  | 48 => .int
  | _ => .int
abbrev wsX60 : List Cond := u_ws RX6 TX6 50
theorem nmX6 : ∀ a, a < 50 → ∀ b, b < 50 → a ≠ b → (TX6 a).2.1 ≠ (TX6 b).2.1 := by decide +kernel
theorem tyX6_ok : ∀ k, k < 50 → parseFieldDescriptor (TX6 k).2.2.1 = some (tyX6 k) := by decide +kernel
abbrev cX6_init : ByteArray := prog_8_method_1_code
def yX6_init : MethodName := ⟨RX6, "<init>", "()V"⟩
abbrev cX6_in : ByteArray := prog_8_method_2_code
def yX6_in : MethodName := ⟨RX6, "in", "(III)Z"⟩
abbrev cX6_feed : ByteArray := prog_8_method_3_code
def yX6_feed : MethodName := ⟨RX6, "feed", "(IIIII)I"⟩
abbrev cX6_end : ByteArray := prog_8_method_4_code
def yX6_end : MethodName := ⟨RX6, "end", "(I)I"⟩
abbrev cX6_see : ByteArray := prog_8_method_5_code
def yX6_see : MethodName := ⟨RX6, "see", "(I)I"⟩
abbrev cX6_isSmall : ByteArray := prog_8_method_6_code
def yX6_isSmall : MethodName := ⟨RX6, "isSmall", "(I)Z"⟩
abbrev cX6_isDigit : ByteArray := prog_8_method_7_code
def yX6_isDigit : MethodName := ⟨RX6, "isDigit", "(I)Z"⟩
abbrev cX6_keyAt : ByteArray := prog_8_method_8_code
def yX6_keyAt : MethodName := ⟨RX6, "keyAt", "(II)I"⟩
abbrev cX6_scan : ByteArray := prog_8_method_9_code
def yX6_scan : MethodName := ⟨RX6, "scan", "()V"⟩
abbrev cX6_wrong : ByteArray := prog_8_method_10_code
def yX6_wrong : MethodName := ⟨RX6, "wrong", "(I)Z"⟩
abbrev cX6_plain : ByteArray := prog_8_method_11_code
def yX6_plain : MethodName := ⟨RX6, "plain", "(I)I"⟩
abbrev cX6_low : ByteArray := prog_8_method_12_code
def yX6_low : MethodName := ⟨RX6, "low", "(I)I"⟩
abbrev cX6_high : ByteArray := prog_8_method_13_code
def yX6_high : MethodName := ⟨RX6, "high", "(I)I"⟩
abbrev cX6_readLine : ByteArray := prog_8_method_14_code
def yX6_readLine : MethodName := ⟨RX6, "readLine", "(I)Z"⟩
abbrev cX6_rules : ByteArray := prog_8_method_15_code
def yX6_rules : MethodName := ⟨RX6, "rules", "(I)I"⟩
abbrev cX6_fault : ByteArray := prog_8_method_16_code
def yX6_fault : MethodName := ⟨RX6, "fault", "(I)I"⟩
abbrev cX6_rule : ByteArray := prog_8_method_17_code
def yX6_rule : MethodName := ⟨RX6, "rule", "(II)I"⟩
abbrev cX6_members : ByteArray := prog_8_method_18_code
def yX6_members : MethodName := ⟨RX6, "members", "(I)I"⟩
abbrev cX6_lastWeek : ByteArray := prog_8_method_19_code
def yX6_lastWeek : MethodName := ⟨RX6, "lastWeek", "()I"⟩
abbrev cX6_add : ByteArray := prog_8_method_20_code
def yX6_add : MethodName := ⟨RX6, "add", "(III)I"⟩
abbrev cX6_meet : ByteArray := prog_8_method_21_code
def yX6_meet : MethodName := ⟨RX6, "meet", "(II)I"⟩
abbrev cX6_enter : ByteArray := prog_8_method_22_code
def yX6_enter : MethodName := ⟨RX6, "enter", "(III)I"⟩
abbrev cX6_entry : ByteArray := prog_8_method_23_code
def yX6_entry : MethodName := ⟨RX6, "entry", "(II)I"⟩
abbrev cX6_back : ByteArray := prog_8_method_24_code
def yX6_back : MethodName := ⟨RX6, "back", "()I"⟩
abbrev cX6_ruleOf : ByteArray := prog_8_method_25_code
def yX6_ruleOf : MethodName := ⟨RX6, "ruleOf", "(II)I"⟩
abbrev cX6_begin : ByteArray := prog_8_method_26_code
def yX6_begin : MethodName := ⟨RX6, "begin", "(II)V"⟩
abbrev cX6_hasKey : ByteArray := prog_8_method_27_code
def yX6_hasKey : MethodName := ⟨RX6, "hasKey", "(II)Z"⟩
abbrev cX6_giveKeys : ByteArray := prog_8_method_28_code
def yX6_giveKeys : MethodName := ⟨RX6, "giveKeys", "(II)V"⟩
abbrev cX6_isOpen : ByteArray := prog_8_method_29_code
def yX6_isOpen : MethodName := ⟨RX6, "isOpen", "(II)Z"⟩
abbrev cX6_owed : ByteArray := prog_8_method_30_code
def yX6_owed : MethodName := ⟨RX6, "owed", "(I)I"⟩
abbrev cX6_allStamps : ByteArray := prog_8_method_31_code
def yX6_allStamps : MethodName := ⟨RX6, "allStamps", "(I)I"⟩
abbrev cX6_part : ByteArray := prog_8_method_32_code
def yX6_part : MethodName := ⟨RX6, "part", "(III)I"⟩
abbrev cX6_opens : ByteArray := prog_8_method_33_code
def yX6_opens : MethodName := ⟨RX6, "opens", "(III)V"⟩
abbrev cX6_leaves : ByteArray := prog_8_method_34_code
def yX6_leaves : MethodName := ⟨RX6, "leaves", "(II)V"⟩
abbrev cX6_does : ByteArray := prog_8_method_35_code
def yX6_does : MethodName := ⟨RX6, "does", "(III)V"⟩
abbrev cX6_isAhead : ByteArray := prog_8_method_36_code
def yX6_isAhead : MethodName := ⟨RX6, "isAhead", "(III)Z"⟩
abbrev cX6_lends : ByteArray := prog_8_method_37_code
def yX6_lends : MethodName := ⟨RX6, "lends", "(II)V"⟩
abbrev cX6_meets : ByteArray := prog_8_method_38_code
def yX6_meets : MethodName := ⟨RX6, "meets", "(II)I"⟩
abbrev cX6_keep : ByteArray := prog_8_method_39_code
def yX6_keep : MethodName := ⟨RX6, "keep", "(IZ)V"⟩
abbrev cX6_parting : ByteArray := prog_8_method_40_code
def yX6_parting : MethodName := ⟨RX6, "parting", "(I)V"⟩
abbrev cX6_run : ByteArray := prog_8_method_41_code
def yX6_run : MethodName := ⟨RX6, "run", "(II)V"⟩
abbrev cX6_play : ByteArray := prog_8_method_42_code
def yX6_play : MethodName := ⟨RX6, "play", "(I)I"⟩
abbrev cX6_member : ByteArray := prog_8_method_43_code
def yX6_member : MethodName := ⟨RX6, "member", "(II)I"⟩
abbrev cX6_meeting : ByteArray := prog_8_method_44_code
def yX6_meeting : MethodName := ⟨RX6, "meeting", "(II)I"⟩
abbrev cX6_sum : ByteArray := prog_8_method_45_code
def yX6_sum : MethodName := ⟨RX6, "sum", "(I)I"⟩
abbrev cX6_parts : ByteArray := prog_8_method_46_code
def yX6_parts : MethodName := ⟨RX6, "parts", "(II)I"⟩
abbrev cX6_has : ByteArray := prog_8_method_47_code
def yX6_has : MethodName := ⟨RX6, "has", "(II)I"⟩
abbrev cX6_gains : ByteArray := prog_8_method_48_code
def yX6_gains : MethodName := ⟨RX6, "gains", "(III)I"⟩
abbrev cX6_count : ByteArray := prog_8_method_49_code
def yX6_count : MethodName := ⟨RX6, "count", "(I)I"⟩
def RJx8e188 : String := "java/lang/Cloneable"
def TJx8e188 : u_T := fun k => match k with
  | _ => ("", "", "", false)
def tyJx8e188 : Nat → FieldType := fun k => match k with
  | _ => .int
abbrev wsJx8e1880 : List Cond := u_ws RJx8e188 TJx8e188 0
theorem nmJx8e188 : ∀ a, a < 0 → ∀ b, b < 0 → a ≠ b → (TJx8e188 a).2.1 ≠ (TJx8e188 b).2.1 := by decide +kernel
theorem tyJx8e188_ok : ∀ k, k < 0 → parseFieldDescriptor (TJx8e188 k).2.2.1 = some (tyJx8e188 k) := by decide +kernel
def RJ9 : String := "java/lang/Math"
def TJ9 : u_T := fun k => match k with
  | _ => ("", "", "", false)
def tyJ9 : Nat → FieldType := fun k => match k with
  | _ => .int
abbrev wsJ90 : List Cond := u_ws RJ9 TJ9 0
theorem nmJ9 : ∀ a, a < 0 → ∀ b, b < 0 → a ≠ b → (TJ9 a).2.1 ≠ (TJ9 b).2.1 := by decide +kernel
theorem tyJ9_ok : ∀ k, k < 0 → parseFieldDescriptor (TJ9 k).2.2.1 = some (tyJ9 k) := by decide +kernel
abbrev cJ9_max_7cf53 : ByteArray := prog_10_method_65_code
def yJ9_max_7cf53 : MethodName := ⟨RJ9, "max", "(II)I"⟩
abbrev cJ9_min_7cf53 : ByteArray := prog_10_method_69_code
def yJ9_min_7cf53 : MethodName := ⟨RJ9, "min", "(II)I"⟩
def RJ0 : String := "java/lang/String"
def TJ0 : u_T := fun k => match k with
  | _ => ("", "", "", false)
def tyJ0 : Nat → FieldType := fun k => match k with
  | _ => .int
abbrev wsJ00 : List Cond := u_ws RJ0 TJ0 0
theorem nmJ0 : ∀ a, a < 0 → ∀ b, b < 0 → a ≠ b → (TJ0 a).2.1 ≠ (TJ0 b).2.1 := by decide +kernel
theorem tyJ0_ok : ∀ k, k < 0 → parseFieldDescriptor (TJ0 k).2.2.1 = some (tyJ0 k) := by decide +kernel
abbrev cJ0_length_8abf5 : ByteArray := prog_11_method_54_code
def yJ0_length_8abf5 : MethodName := ⟨RJ0, "length", "()I"⟩
abbrev cJ0_charAt_5068e : ByteArray := prog_11_method_56_code
def yJ0_charAt_5068e : MethodName := ⟨RJ0, "charAt", "(I)C"⟩
abbrev cJ0_coder_7d493 : ByteArray := prog_11_method_152_code
def yJ0_coder_7d493 : MethodName := ⟨RJ0, "coder", "()B"⟩
abbrev cJ0_isLatin1_aae02 : ByteArray := prog_11_method_154_code
def yJ0_isLatin1_aae02 : MethodName := ⟨RJ0, "isLatin1", "()Z"⟩
abbrev cJ0_checkIndex_df160 : ByteArray := prog_11_method_155_code
def yJ0_checkIndex_df160 : MethodName := ⟨RJ0, "checkIndex", "(II)V"⟩
def RJ1 : String := "java/lang/StringLatin1"
def TJ1 : u_T := fun k => match k with
  | _ => ("", "", "", false)
def tyJ1 : Nat → FieldType := fun k => match k with
  | _ => .int
abbrev wsJ10 : List Cond := u_ws RJ1 TJ1 0
theorem nmJ1 : ∀ a, a < 0 → ∀ b, b < 0 → a ≠ b → (TJ1 a).2.1 ≠ (TJ1 b).2.1 := by decide +kernel
theorem tyJ1_ok : ∀ k, k < 0 → parseFieldDescriptor (TJ1 k).2.2.1 = some (tyJ1 k) := by decide +kernel
abbrev cJ1_charAt_3b067 : ByteArray := prog_12_method_2_code
def yJ1_charAt_3b067 : MethodName := ⟨RJ1, "charAt", "([BI)C"⟩
def RJ2 : String := "java/lang/StringUTF16"
def TJ2 : u_T := fun k => match k with
  | _ => ("", "", "", false)
def tyJ2 : Nat → FieldType := fun k => match k with
  | _ => .int
abbrev wsJ20 : List Cond := u_ws RJ2 TJ2 0
theorem nmJ2 : ∀ a, a < 0 → ∀ b, b < 0 → a ≠ b → (TJ2 a).2.1 ≠ (TJ2 b).2.1 := by decide +kernel
theorem tyJ2_ok : ∀ k, k < 0 → parseFieldDescriptor (TJ2 k).2.2.1 = some (tyJ2 k) := by decide +kernel
abbrev cJ2_getChar_3b067 : ByteArray := prog_13_method_5_code
def yJ2_getChar_3b067 : MethodName := ⟨RJ2, "getChar", "([BI)C"⟩
abbrev cJ2_length_9d52b : ByteArray := prog_13_method_6_code
def yJ2_length_9d52b : MethodName := ⟨RJ2, "length", "([B)I"⟩
abbrev cJ2_charAt_3b067 : ByteArray := prog_13_method_83_code
def yJ2_charAt_3b067 : MethodName := ⟨RJ2, "charAt", "([BI)C"⟩
abbrev cJ2_checkIndex_2214a : ByteArray := prog_13_method_91_code
def yJ2_checkIndex_2214a : MethodName := ⟨RJ2, "checkIndex", "(I[B)V"⟩
def RJ10 : String := "java/lang/System"
def TJ10 : u_T := fun k => match k with
  | _ => ("", "", "", false)
def tyJ10 : Nat → FieldType := fun k => match k with
  | _ => .int
abbrev wsJ100 : List Cond := u_ws RJ10 TJ10 0
theorem nmJ10 : ∀ a, a < 0 → ∀ b, b < 0 → a ≠ b → (TJ10 a).2.1 ≠ (TJ10 b).2.1 := by decide +kernel
theorem tyJ10_ok : ∀ k, k < 0 → parseFieldDescriptor (TJ10 k).2.2.1 = some (tyJ10 k) := by decide +kernel
def RJ7 : String := "java/util/Arrays"
def TJ7 : u_T := fun k => match k with
  | _ => ("", "", "", false)
def tyJ7 : Nat → FieldType := fun k => match k with
  | _ => .int
abbrev wsJ70 : List Cond := u_ws RJ7 TJ7 0
theorem nmJ7 : ∀ a, a < 0 → ∀ b, b < 0 → a ≠ b → (TJ7 a).2.1 ≠ (TJ7 b).2.1 := by decide +kernel
theorem tyJ7_ok : ∀ k, k < 0 → parseFieldDescriptor (TJ7 k).2.2.1 = some (tyJ7 k) := by decide +kernel
abbrev cJ7_fill_53178 : ByteArray := prog_15_method_103_code
def yJ7_fill_53178 : MethodName := ⟨RJ7, "fill", "([II)V"⟩
def RJ3 : String := "jdk/internal/util/Preconditions"
def TJ3 : u_T := fun k => match k with
  | _ => ("", "", "", false)
def tyJ3 : Nat → FieldType := fun k => match k with
  | _ => .int
abbrev wsJ30 : List Cond := u_ws RJ3 TJ3 0
theorem nmJ3 : ∀ a, a < 0 → ∀ b, b < 0 → a ≠ b → (TJ3 a).2.1 ≠ (TJ3 b).2.1 := by decide +kernel
theorem tyJ3_ok : ∀ k, k < 0 → parseFieldDescriptor (TJ3 k).2.2.1 = some (tyJ3 k) := by decide +kernel
abbrev cJ3_checkIndex_8e157 : ByteArray := prog_16_method_11_code
def yJ3_checkIndex_8e157 : MethodName := ⟨RJ3, "checkIndex", "(IILjava/util/function/BiFunction;)I"⟩
def RL : String := "KeyBoxLaw"
abbrev cL_law : ByteArray := code
def yL_law : MethodName := ⟨RL, "law", "([I)Z"⟩
def wsX0_init : List Cond := .code yX0_init cX0_init 1 none :: ([.methodLink RX0 3 objectInit, .instanceMethod objectInit, .code objectInit ⟨#[0xb1]⟩ 1 none, .arrayClass .int, .fieldLink RX0 11 "KeyBox$Log" "kinds" "[I", .fieldLink RX0 15 "KeyBox$Log" "whos" "[I", .fieldLink RX0 18 "KeyBox$Log" "amounts" "[I", .fieldLink RX0 21 "KeyBox$Log" "starts" "[I", .fieldLink RX0 24 "KeyBox$Log" "memberCount" "I"] ++ wsX00)
def wsX0_isMember : List Cond := .code yX0_isMember cX0_isMember 2 (some .boolean) :: ([.fieldLink RX0 24 "KeyBox$Log" "memberCount" "I"] ++ wsX00)
def wsX0_isMeeting : List Cond := .code yX0_isMeeting cX0_isMeeting 2 (some .boolean) :: ([.fieldLink RX0 28 "KeyBox$Log" "meetingCount" "I"] ++ wsX00)
def wsX0_setMembers : List Cond := .code yX0_setMembers cX0_setMembers 2 (some .int) :: ([.fieldLink RX0 31 "KeyBox$Log" "size" "I", .fieldLink RX0 24 "KeyBox$Log" "memberCount" "I"] ++ wsX00)
def wsX0_latestWeek : List Cond := .code yX0_latestWeek cX0_latestWeek 1 (some .int) :: ([.fieldLink RX0 28 "KeyBox$Log" "meetingCount" "I", .fieldLink RX0 15 "KeyBox$Log" "whos" "[I", .fieldLink RX0 21 "KeyBox$Log" "starts" "[I"] ++ wsX00)
def wsX0_add : List Cond := .code yX0_add cX0_add 4 (some .int) :: ([.fieldLink RX0 11 "KeyBox$Log" "kinds" "[I", .fieldLink RX0 31 "KeyBox$Log" "size" "I", .fieldLink RX0 15 "KeyBox$Log" "whos" "[I", .fieldLink RX0 18 "KeyBox$Log" "amounts" "[I"] ++ wsX00)
def wsX0_addMeeting : List Cond := .code yX0_addMeeting cX0_addMeeting 3 (some .int) :: ([.fieldLink RX0 24 "KeyBox$Log" "memberCount" "I", .fieldLink RX0 31 "KeyBox$Log" "size" "I", .fieldLink RX0 28 "KeyBox$Log" "meetingCount" "I", .fieldLink RX0 21 "KeyBox$Log" "starts" "[I", .methodLink RX0 34 yX0_latestWeek, .instanceMethod yX0_latestWeek, .selects RX0 yX0_latestWeek yX0_latestWeek, .initialized RX0, .code yX0_latestWeek cX0_latestWeek 1 (some .int), .fieldLink RX0 15 "KeyBox$Log" "whos" "[I", .methodLink RX0 38 yX0_add, .instanceMethod yX0_add, .selects RX0 yX0_add yX0_add, .code yX0_add cX0_add 4 (some .int), .fieldLink RX0 11 "KeyBox$Log" "kinds" "[I", .fieldLink RX0 18 "KeyBox$Log" "amounts" "[I"] ++ wsX00)
def wsX0_canBe : List Cond := .code yX0_canBe cX0_canBe 4 (some .boolean) :: ([.fieldLink RX0 50 "KeyBox$Log" "LEAST_N" "[I", .fieldLink RX0 53 "KeyBox$Log" "MOST_N" "[I", .methodLink RX0 56 yX0_isMember, .instanceMethod yX0_isMember, .selects RX0 yX0_isMember yX0_isMember, .initialized RX0, .code yX0_isMember cX0_isMember 2 (some .boolean), .fieldLink RX0 24 "KeyBox$Log" "memberCount" "I"] ++ wsX00)
def wsX0_addEntry : List Cond := .code yX0_addEntry cX0_addEntry 4 (some .int) :: ([.fieldLink RX0 28 "KeyBox$Log" "meetingCount" "I", .fieldLink RX0 31 "KeyBox$Log" "size" "I", .methodLink RX0 42 yX0_canBe, .instanceMethod yX0_canBe, .selects RX0 yX0_canBe yX0_canBe, .initialized RX0, .code yX0_canBe cX0_canBe 4 (some .boolean), .fieldLink RX0 50 "KeyBox$Log" "LEAST_N" "[I", .fieldLink RX0 53 "KeyBox$Log" "MOST_N" "[I", .methodLink RX0 56 yX0_isMember, .instanceMethod yX0_isMember, .selects RX0 yX0_isMember yX0_isMember, .code yX0_isMember cX0_isMember 2 (some .boolean), .fieldLink RX0 24 "KeyBox$Log" "memberCount" "I", .methodLink RX0 38 yX0_add, .instanceMethod yX0_add, .selects RX0 yX0_add yX0_add, .code yX0_add cX0_add 4 (some .int), .fieldLink RX0 11 "KeyBox$Log" "kinds" "[I", .fieldLink RX0 15 "KeyBox$Log" "whos" "[I", .fieldLink RX0 18 "KeyBox$Log" "amounts" "[I"] ++ wsX00)
def wsX0_read : List Cond := .code yX0_read cX0_read 3 (some .int) :: ([.fieldLink RX0 31 "KeyBox$Log" "size" "I", .fieldLink RX0 11 "KeyBox$Log" "kinds" "[I", .fieldLink RX0 15 "KeyBox$Log" "whos" "[I", .fieldLink RX0 18 "KeyBox$Log" "amounts" "[I"] ++ wsX00)
def wsX0_takeBack : List Cond := .code yX0_takeBack cX0_takeBack 1 (some .int) :: ([.fieldLink RX0 31 "KeyBox$Log" "size" "I", .fieldLink RX0 11 "KeyBox$Log" "kinds" "[I", .fieldLink RX0 28 "KeyBox$Log" "meetingCount" "I"] ++ wsX00)
def wsX0_startOf : List Cond := .code yX0_startOf cX0_startOf 2 (some .int) :: ([.fieldLink RX0 21 "KeyBox$Log" "starts" "[I", .methodLink RX0 46 yX0_isMeeting, .instanceMethod yX0_isMeeting, .selects RX0 yX0_isMeeting yX0_isMeeting, .initialized RX0, .code yX0_isMeeting cX0_isMeeting 2 (some .boolean), .fieldLink RX0 28 "KeyBox$Log" "meetingCount" "I"] ++ wsX00)
def wsX0_endOf : List Cond := .code yX0_endOf cX0_endOf 2 (some .int) :: ([.fieldLink RX0 21 "KeyBox$Log" "starts" "[I", .fieldLink RX0 31 "KeyBox$Log" "size" "I", .methodLink RX0 46 yX0_isMeeting, .instanceMethod yX0_isMeeting, .selects RX0 yX0_isMeeting yX0_isMeeting, .initialized RX0, .code yX0_isMeeting cX0_isMeeting 2 (some .boolean), .fieldLink RX0 28 "KeyBox$Log" "meetingCount" "I"] ++ wsX00)
def wsX2_init : List Cond := .code yX2_init cX2_init 1 none :: ([.methodLink RX2 3 objectInit, .instanceMethod objectInit, .code objectInit ⟨#[0xb1]⟩ 1 none, .fieldLink RX2 9 "KeyBox$RuleSet" "UNTOLD" "[I", .methodLink RX2 15 ⟨"[I", "clone", "()Ljava/lang/Object;"⟩, .sameMethod "[I" "java/lang/Object" "clone" "()Ljava/lang/Object;", .native ⟨"java/lang/Object", "clone", "()Ljava/lang/Object;"⟩, .instanceMethod ⟨"java/lang/Object", "clone", "()Ljava/lang/Object;"⟩, .selects "[I" ⟨"[I", "clone", "()Ljava/lang/Object;"⟩ ⟨"java/lang/Object", "clone", "()Ljava/lang/Object;"⟩, .classLink RX2 16 "[I", .fieldLink RX2 20 "KeyBox$RuleSet" "values" "[I"] ++ wsX20)
def wsX1_init : List Cond := .code yX1_init cX1_init 2 none :: ([.methodLink RX1 3 objectInit, .instanceMethod objectInit, .code objectInit ⟨#[0xb1]⟩ 1 none, .classLink RX1 9 RX2, .instantiable RX2 1, .initialized RX2, .fieldLink RX1 12 "KeyBox$RuleReader" "draft" "LKeyBox$RuleSet;", .arrayClass .boolean, .fieldLink RX1 18 "KeyBox$RuleReader" "told" "[Z", .fieldLink RX1 22 "KeyBox$RuleReader" "faultPlace" "I", .fieldLink RX1 26 "KeyBox$RuleReader" "tape" "LKeyBox$Tape;", .instanceMethod yX2_init, .code yX2_init cX2_init 1 none, .methodLink RX2 3 objectInit, .fieldLink RX2 9 "KeyBox$RuleSet" "UNTOLD" "[I", .methodLink RX2 15 ⟨"[I", "clone", "()Ljava/lang/Object;"⟩, .sameMethod "[I" "java/lang/Object" "clone" "()Ljava/lang/Object;", .native ⟨"java/lang/Object", "clone", "()Ljava/lang/Object;"⟩, .instanceMethod ⟨"java/lang/Object", "clone", "()Ljava/lang/Object;"⟩, .selects "[I" ⟨"[I", "clone", "()Ljava/lang/Object;"⟩ ⟨"java/lang/Object", "clone", "()Ljava/lang/Object;"⟩, .classLink RX2 16 "[I", .fieldLink RX2 20 "KeyBox$RuleSet" "values" "[I"] ++ wsX20 ++ wsX10)
def wsX2_forget : List Cond := .code yX2_forget cX2_forget 1 none :: ([.fieldLink RX2 9 "KeyBox$RuleSet" "UNTOLD" "[I", .fieldLink RX2 20 "KeyBox$RuleSet" "values" "[I", .methodLink RX2 23 arraycopyName, .native arraycopyName, .static arraycopyName, .initialized "java/lang/System"] ++ wsX20)
def wsX1_startAnew : List Cond := .code yX1_startAnew cX1_startAnew 2 none :: ([.fieldLink RX1 12 "KeyBox$RuleReader" "draft" "LKeyBox$RuleSet;", .fieldLink RX1 18 "KeyBox$RuleReader" "told" "[Z", .fieldLink RX1 52 "KeyBox$RuleReader" "tokenEnd" "I", .fieldLink RX1 55 "KeyBox$RuleReader" "faultKind" "I", .fieldLink RX1 22 "KeyBox$RuleReader" "faultPlace" "I", .methodLink RX1 49 yX2_forget, .instanceMethod yX2_forget, .selects RX2 yX2_forget yX2_forget, .initialized RX2, .code yX2_forget cX2_forget 1 none, .fieldLink RX2 9 "KeyBox$RuleSet" "UNTOLD" "[I", .fieldLink RX2 20 "KeyBox$RuleSet" "values" "[I", .methodLink RX2 23 arraycopyName, .native arraycopyName, .static arraycopyName, .initialized "java/lang/System"] ++ wsX10 ++ wsX20)
def wsX3_at : List Cond := .code yX3_at cX3_at 2 (some .int) :: ([.fieldLink RX3 15 "KeyBox$Tape" "length" "I", .fieldLink RX3 11 "KeyBox$Tape" "bytes" "[B"] ++ wsX30)
def wsX1_kindAt : List Cond := .code yX1_kindAt cX1_kindAt 3 (some .int) :: ([.fieldLink RX1 26 "KeyBox$RuleReader" "tape" "LKeyBox$Tape;", .methodLink RX1 97 yX3_at, .instanceMethod yX3_at, .selects RX3 yX3_at yX3_at, .initialized RX3, .code yX3_at cX3_at 2 (some .int), .fieldLink RX3 15 "KeyBox$Tape" "length" "I", .fieldLink RX3 11 "KeyBox$Tape" "bytes" "[B"] ++ wsX10 ++ wsX30)
def wsX1_behindRun : List Cond := .code yX1_behindRun cX1_behindRun 4 (some .int) :: ([.fieldLink RX1 26 "KeyBox$RuleReader" "tape" "LKeyBox$Tape;", .methodLink RX1 114 yX1_kindAt, .instanceMethod yX1_kindAt, .selects RX1 yX1_kindAt yX1_kindAt, .initialized RX1, .code yX1_kindAt cX1_kindAt 3 (some .int), .methodLink RX1 97 yX3_at, .instanceMethod yX3_at, .selects RX3 yX3_at yX3_at, .initialized RX3, .code yX3_at cX3_at 2 (some .int), .fieldLink RX3 15 "KeyBox$Tape" "length" "I", .fieldLink RX3 11 "KeyBox$Tape" "bytes" "[B"] ++ wsX10 ++ wsX30)
def wsX1_nextToken : List Cond := .code yX1_nextToken cX1_nextToken 1 none :: ([.fieldLink RX1 52 "KeyBox$RuleReader" "tokenEnd" "I", .fieldLink RX1 83 "KeyBox$RuleReader" "tokenStart" "I", .fieldLink RX1 38 "KeyBox$RuleReader" "tokenKind" "I", .methodLink RX1 110 yX1_behindRun, .instanceMethod yX1_behindRun, .selects RX1 yX1_behindRun yX1_behindRun, .initialized RX1, .code yX1_behindRun cX1_behindRun 4 (some .int), .fieldLink RX1 26 "KeyBox$RuleReader" "tape" "LKeyBox$Tape;", .methodLink RX1 114 yX1_kindAt, .instanceMethod yX1_kindAt, .selects RX1 yX1_kindAt yX1_kindAt, .code yX1_kindAt cX1_kindAt 3 (some .int), .methodLink RX1 97 yX3_at, .instanceMethod yX3_at, .selects RX3 yX3_at yX3_at, .initialized RX3, .code yX3_at cX3_at 2 (some .int), .fieldLink RX3 15 "KeyBox$Tape" "length" "I", .fieldLink RX3 11 "KeyBox$Tape" "bytes" "[B"] ++ wsX10 ++ wsX30)
def wsX2_copy : List Cond := .code yX2_copy cX2_copy 2 none :: ([.fieldLink RX2 20 "KeyBox$RuleSet" "values" "[I", .methodLink RX2 23 arraycopyName, .native arraycopyName, .static arraycopyName, .initialized "java/lang/System"] ++ wsX20)
def wsX2_topicWord : List Cond := .code yX2_topicWord cX2_topicWord 1 (some (.object "java/lang/String")) :: ([])
def wsJ0_coder_7d493 : List Cond := .code yJ0_coder_7d493 cJ0_coder_7d493 1 (some .byte) :: ([.fieldLink RJ0 38 "java/lang/String" "COMPACT_STRINGS" "Z", .fieldLink RJ0 15 "java/lang/String" "coder" "B"])
def wsJ0_length_8abf5 : List Cond := .code yJ0_length_8abf5 cJ0_length_8abf5 1 (some .int) :: ([.fieldLink RJ0 9 "java/lang/String" "value" "[B", .methodLink RJ0 335 yJ0_coder_7d493, .instanceMethod yJ0_coder_7d493, .selects RJ0 yJ0_coder_7d493 yJ0_coder_7d493, .initialized RJ0, .code yJ0_coder_7d493 cJ0_coder_7d493 1 (some .byte), .fieldLink RJ0 38 "java/lang/String" "COMPACT_STRINGS" "Z", .fieldLink RJ0 15 "java/lang/String" "coder" "B"])
def wsJ0_isLatin1_aae02 : List Cond := .code yJ0_isLatin1_aae02 cJ0_isLatin1_aae02 1 (some .boolean) :: ([.fieldLink RJ0 38 "java/lang/String" "COMPACT_STRINGS" "Z", .fieldLink RJ0 15 "java/lang/String" "coder" "B"])
def wsJ3_checkIndex_8e157 : List Cond := .code yJ3_checkIndex_8e157 cJ3_checkIndex_8e157 3 (some .int) :: ([])
def wsJ0_checkIndex_df160 : List Cond := .code yJ0_checkIndex_df160 cJ0_checkIndex_df160 2 none :: ([.fieldLink RJ0 1053 "jdk/internal/util/Preconditions" "SIOOBE_FORMATTER" "Ljava/util/function/BiFunction;", .methodLink RJ0 1059 yJ3_checkIndex_8e157, .static yJ3_checkIndex_8e157, .initialized RJ3, .code yJ3_checkIndex_8e157 cJ3_checkIndex_8e157 3 (some .int)])
def wsJ1_charAt_3b067 : List Cond := .code yJ1_charAt_3b067 cJ1_charAt_3b067 2 (some .char) :: ([.methodLink RJ1 9 yJ0_checkIndex_df160, .static yJ0_checkIndex_df160, .initialized RJ0, .code yJ0_checkIndex_df160 cJ0_checkIndex_df160 2 none, .fieldLink RJ0 1053 "jdk/internal/util/Preconditions" "SIOOBE_FORMATTER" "Ljava/util/function/BiFunction;", .methodLink RJ0 1059 yJ3_checkIndex_8e157, .static yJ3_checkIndex_8e157, .initialized RJ3, .code yJ3_checkIndex_8e157 cJ3_checkIndex_8e157 3 (some .int)])
def wsJ2_length_9d52b : List Cond := .code yJ2_length_9d52b cJ2_length_9d52b 1 (some .int) :: ([])
def wsJ2_checkIndex_2214a : List Cond := .code yJ2_checkIndex_2214a cJ2_checkIndex_2214a 2 none :: ([.methodLink RJ2 48 yJ2_length_9d52b, .static yJ2_length_9d52b, .initialized RJ2, .code yJ2_length_9d52b cJ2_length_9d52b 1 (some .int), .methodLink RJ2 414 yJ0_checkIndex_df160, .static yJ0_checkIndex_df160, .initialized RJ0, .code yJ0_checkIndex_df160 cJ0_checkIndex_df160 2 none, .fieldLink RJ0 1053 "jdk/internal/util/Preconditions" "SIOOBE_FORMATTER" "Ljava/util/function/BiFunction;", .methodLink RJ0 1059 yJ3_checkIndex_8e157, .static yJ3_checkIndex_8e157, .initialized RJ3, .code yJ3_checkIndex_8e157 cJ3_checkIndex_8e157 3 (some .int)])
def wsJ2_getChar_3b067 : List Cond := .code yJ2_getChar_3b067 cJ2_getChar_3b067 2 (some .char) :: ([.fieldLink RJ2 44 "java/lang/StringUTF16" "$assertionsDisabled" "Z", .fieldLink RJ2 59 "java/lang/StringUTF16" "HI_BYTE_SHIFT" "I", .fieldLink RJ2 63 "java/lang/StringUTF16" "LO_BYTE_SHIFT" "I", .methodLink RJ2 48 yJ2_length_9d52b, .static yJ2_length_9d52b, .initialized RJ2, .code yJ2_length_9d52b cJ2_length_9d52b 1 (some .int)])
def wsJ2_charAt_3b067 : List Cond := .code yJ2_charAt_3b067 cJ2_charAt_3b067 2 (some .char) :: ([.methodLink RJ2 67 yJ2_checkIndex_2214a, .static yJ2_checkIndex_2214a, .initialized RJ2, .code yJ2_checkIndex_2214a cJ2_checkIndex_2214a 2 none, .methodLink RJ2 48 yJ2_length_9d52b, .static yJ2_length_9d52b, .code yJ2_length_9d52b cJ2_length_9d52b 1 (some .int), .methodLink RJ2 414 yJ0_checkIndex_df160, .static yJ0_checkIndex_df160, .initialized RJ0, .code yJ0_checkIndex_df160 cJ0_checkIndex_df160 2 none, .fieldLink RJ0 1053 "jdk/internal/util/Preconditions" "SIOOBE_FORMATTER" "Ljava/util/function/BiFunction;", .methodLink RJ0 1059 yJ3_checkIndex_8e157, .static yJ3_checkIndex_8e157, .initialized RJ3, .code yJ3_checkIndex_8e157 cJ3_checkIndex_8e157 3 (some .int), .methodLink RJ2 71 yJ2_getChar_3b067, .static yJ2_getChar_3b067, .code yJ2_getChar_3b067 cJ2_getChar_3b067 2 (some .char), .fieldLink RJ2 44 "java/lang/StringUTF16" "$assertionsDisabled" "Z", .fieldLink RJ2 59 "java/lang/StringUTF16" "HI_BYTE_SHIFT" "I", .fieldLink RJ2 63 "java/lang/StringUTF16" "LO_BYTE_SHIFT" "I"])
def wsJ0_charAt_5068e_r1 : List Cond := [Cond.fieldLink RJ0 9 "java/lang/String" "value" "[B", Cond.methodLink RJ0 492 yJ0_isLatin1_aae02, Cond.instanceMethod yJ0_isLatin1_aae02, Cond.selects RJ0 yJ0_isLatin1_aae02 yJ0_isLatin1_aae02, Cond.initialized RJ0, Cond.code yJ0_isLatin1_aae02 cJ0_isLatin1_aae02 1 (some .boolean), Cond.fieldLink RJ0 38 "java/lang/String" "COMPACT_STRINGS" "Z", Cond.fieldLink RJ0 15 "java/lang/String" "coder" "B", Cond.methodLink RJ0 495 yJ1_charAt_3b067, Cond.static yJ1_charAt_3b067, Cond.initialized RJ1, Cond.code yJ1_charAt_3b067 cJ1_charAt_3b067 2 (some .char), Cond.methodLink RJ1 9 yJ0_checkIndex_df160, Cond.static yJ0_checkIndex_df160, Cond.code yJ0_checkIndex_df160 cJ0_checkIndex_df160 2 none, Cond.fieldLink RJ0 1053 "jdk/internal/util/Preconditions" "SIOOBE_FORMATTER" "Ljava/util/function/BiFunction;", Cond.methodLink RJ0 1059 yJ3_checkIndex_8e157, Cond.static yJ3_checkIndex_8e157, Cond.initialized RJ3, Cond.code yJ3_checkIndex_8e157 cJ3_checkIndex_8e157 3 (some .int), Cond.methodLink RJ0 498 yJ2_charAt_3b067, Cond.static yJ2_charAt_3b067, Cond.initialized RJ2, Cond.code yJ2_charAt_3b067 cJ2_charAt_3b067 2 (some .char)]
def wsJ0_charAt_5068e_r2 : List Cond := [Cond.methodLink RJ2 67 yJ2_checkIndex_2214a, Cond.static yJ2_checkIndex_2214a, Cond.code yJ2_checkIndex_2214a cJ2_checkIndex_2214a 2 none, Cond.methodLink RJ2 48 yJ2_length_9d52b, Cond.static yJ2_length_9d52b, Cond.code yJ2_length_9d52b cJ2_length_9d52b 1 (some .int), Cond.methodLink RJ2 414 yJ0_checkIndex_df160, Cond.methodLink RJ2 71 yJ2_getChar_3b067, Cond.static yJ2_getChar_3b067, Cond.code yJ2_getChar_3b067 cJ2_getChar_3b067 2 (some .char), Cond.fieldLink RJ2 44 "java/lang/StringUTF16" "$assertionsDisabled" "Z", Cond.fieldLink RJ2 59 "java/lang/StringUTF16" "HI_BYTE_SHIFT" "I", Cond.fieldLink RJ2 63 "java/lang/StringUTF16" "LO_BYTE_SHIFT" "I"]
def wsJ0_charAt_5068e : List Cond := .code yJ0_charAt_5068e cJ0_charAt_5068e 2 (some .char) :: ((wsJ0_charAt_5068e_r1 ++ wsJ0_charAt_5068e_r2))
def wsX1_tokenIs_r1 : List Cond := [Cond.fieldLink RX1 38 "KeyBox$RuleReader" "tokenKind" "I", Cond.fieldLink RX1 52 "KeyBox$RuleReader" "tokenEnd" "I", Cond.fieldLink RX1 83 "KeyBox$RuleReader" "tokenStart" "I", Cond.fieldLink RX1 26 "KeyBox$RuleReader" "tape" "LKeyBox$Tape;", Cond.methodLink RX1 101 yJ0_length_8abf5, Cond.instanceMethod yJ0_length_8abf5, Cond.selects RJ0 yJ0_length_8abf5 yJ0_length_8abf5, Cond.initialized RJ0, Cond.code yJ0_length_8abf5 cJ0_length_8abf5 1 (some .int), Cond.fieldLink RJ0 9 "java/lang/String" "value" "[B", Cond.methodLink RJ0 335 yJ0_coder_7d493, Cond.instanceMethod yJ0_coder_7d493, Cond.selects RJ0 yJ0_coder_7d493 yJ0_coder_7d493, Cond.code yJ0_coder_7d493 cJ0_coder_7d493 1 (some .byte), Cond.fieldLink RJ0 38 "java/lang/String" "COMPACT_STRINGS" "Z", Cond.fieldLink RJ0 15 "java/lang/String" "coder" "B", Cond.methodLink RX1 97 yX3_at, Cond.instanceMethod yX3_at, Cond.selects RX3 yX3_at yX3_at, Cond.initialized RX3, Cond.code yX3_at cX3_at 2 (some .int), Cond.fieldLink RX3 15 "KeyBox$Tape" "length" "I", Cond.fieldLink RX3 11 "KeyBox$Tape" "bytes" "[B", Cond.methodLink RX1 106 yJ0_charAt_5068e]
def wsX1_tokenIs_r2 : List Cond := [Cond.instanceMethod yJ0_charAt_5068e, Cond.selects RJ0 yJ0_charAt_5068e yJ0_charAt_5068e, Cond.code yJ0_charAt_5068e cJ0_charAt_5068e 2 (some .char), Cond.methodLink RJ0 492 yJ0_isLatin1_aae02, Cond.instanceMethod yJ0_isLatin1_aae02, Cond.selects RJ0 yJ0_isLatin1_aae02 yJ0_isLatin1_aae02, Cond.code yJ0_isLatin1_aae02 cJ0_isLatin1_aae02 1 (some .boolean), Cond.methodLink RJ0 495 yJ1_charAt_3b067, Cond.static yJ1_charAt_3b067, Cond.initialized RJ1, Cond.code yJ1_charAt_3b067 cJ1_charAt_3b067 2 (some .char), Cond.methodLink RJ1 9 yJ0_checkIndex_df160, Cond.static yJ0_checkIndex_df160, Cond.code yJ0_checkIndex_df160 cJ0_checkIndex_df160 2 none, Cond.fieldLink RJ0 1053 "jdk/internal/util/Preconditions" "SIOOBE_FORMATTER" "Ljava/util/function/BiFunction;", Cond.methodLink RJ0 1059 yJ3_checkIndex_8e157, Cond.static yJ3_checkIndex_8e157, Cond.initialized RJ3, Cond.code yJ3_checkIndex_8e157 cJ3_checkIndex_8e157 3 (some .int), Cond.methodLink RJ0 498 yJ2_charAt_3b067, Cond.static yJ2_charAt_3b067, Cond.initialized RJ2, Cond.code yJ2_charAt_3b067 cJ2_charAt_3b067 2 (some .char), Cond.methodLink RJ2 67 yJ2_checkIndex_2214a]
def wsX1_tokenIs_r3 : List Cond := [Cond.static yJ2_checkIndex_2214a, Cond.code yJ2_checkIndex_2214a cJ2_checkIndex_2214a 2 none, Cond.methodLink RJ2 48 yJ2_length_9d52b, Cond.static yJ2_length_9d52b, Cond.code yJ2_length_9d52b cJ2_length_9d52b 1 (some .int), Cond.methodLink RJ2 414 yJ0_checkIndex_df160, Cond.methodLink RJ2 71 yJ2_getChar_3b067, Cond.static yJ2_getChar_3b067, Cond.code yJ2_getChar_3b067 cJ2_getChar_3b067 2 (some .char), Cond.fieldLink RJ2 44 "java/lang/StringUTF16" "$assertionsDisabled" "Z", Cond.fieldLink RJ2 59 "java/lang/StringUTF16" "HI_BYTE_SHIFT" "I", Cond.fieldLink RJ2 63 "java/lang/StringUTF16" "LO_BYTE_SHIFT" "I"]
def wsX1_tokenIs : List Cond := .code yX1_tokenIs cX1_tokenIs 3 (some .boolean) :: ((wsX1_tokenIs_r1 ++ (wsX1_tokenIs_r2 ++ wsX1_tokenIs_r3)) ++ wsX10 ++ wsX30)
def wsX1_tokenAsTopic_r1 : List Cond := [Cond.methodLink RX1 86 yX2_topicWord, Cond.static yX2_topicWord, Cond.initialized RX2, Cond.code yX2_topicWord cX2_topicWord 1 (some (.object "java/lang/String")), Cond.methodLink RX1 90 yX1_tokenIs, Cond.instanceMethod yX1_tokenIs, Cond.selects RX1 yX1_tokenIs yX1_tokenIs, Cond.initialized RX1, Cond.code yX1_tokenIs cX1_tokenIs 3 (some .boolean), Cond.fieldLink RX1 38 "KeyBox$RuleReader" "tokenKind" "I", Cond.fieldLink RX1 52 "KeyBox$RuleReader" "tokenEnd" "I", Cond.fieldLink RX1 83 "KeyBox$RuleReader" "tokenStart" "I", Cond.fieldLink RX1 26 "KeyBox$RuleReader" "tape" "LKeyBox$Tape;", Cond.methodLink RX1 101 yJ0_length_8abf5, Cond.instanceMethod yJ0_length_8abf5, Cond.selects RJ0 yJ0_length_8abf5 yJ0_length_8abf5, Cond.initialized RJ0, Cond.code yJ0_length_8abf5 cJ0_length_8abf5 1 (some .int), Cond.fieldLink RJ0 9 "java/lang/String" "value" "[B", Cond.methodLink RJ0 335 yJ0_coder_7d493, Cond.instanceMethod yJ0_coder_7d493, Cond.selects RJ0 yJ0_coder_7d493 yJ0_coder_7d493, Cond.code yJ0_coder_7d493 cJ0_coder_7d493 1 (some .byte), Cond.fieldLink RJ0 38 "java/lang/String" "COMPACT_STRINGS" "Z"]
def wsX1_tokenAsTopic_r2 : List Cond := [Cond.fieldLink RJ0 15 "java/lang/String" "coder" "B", Cond.methodLink RX1 97 yX3_at, Cond.instanceMethod yX3_at, Cond.selects RX3 yX3_at yX3_at, Cond.initialized RX3, Cond.code yX3_at cX3_at 2 (some .int), Cond.fieldLink RX3 15 "KeyBox$Tape" "length" "I", Cond.fieldLink RX3 11 "KeyBox$Tape" "bytes" "[B", Cond.methodLink RX1 106 yJ0_charAt_5068e, Cond.instanceMethod yJ0_charAt_5068e, Cond.selects RJ0 yJ0_charAt_5068e yJ0_charAt_5068e, Cond.code yJ0_charAt_5068e cJ0_charAt_5068e 2 (some .char), Cond.methodLink RJ0 492 yJ0_isLatin1_aae02, Cond.instanceMethod yJ0_isLatin1_aae02, Cond.selects RJ0 yJ0_isLatin1_aae02 yJ0_isLatin1_aae02, Cond.code yJ0_isLatin1_aae02 cJ0_isLatin1_aae02 1 (some .boolean), Cond.methodLink RJ0 495 yJ1_charAt_3b067, Cond.static yJ1_charAt_3b067, Cond.initialized RJ1, Cond.code yJ1_charAt_3b067 cJ1_charAt_3b067 2 (some .char), Cond.methodLink RJ1 9 yJ0_checkIndex_df160, Cond.static yJ0_checkIndex_df160, Cond.code yJ0_checkIndex_df160 cJ0_checkIndex_df160 2 none, Cond.fieldLink RJ0 1053 "jdk/internal/util/Preconditions" "SIOOBE_FORMATTER" "Ljava/util/function/BiFunction;"]
def wsX1_tokenAsTopic_r3 : List Cond := [Cond.methodLink RJ0 1059 yJ3_checkIndex_8e157, Cond.static yJ3_checkIndex_8e157, Cond.initialized RJ3, Cond.code yJ3_checkIndex_8e157 cJ3_checkIndex_8e157 3 (some .int), Cond.methodLink RJ0 498 yJ2_charAt_3b067, Cond.static yJ2_charAt_3b067, Cond.initialized RJ2, Cond.code yJ2_charAt_3b067 cJ2_charAt_3b067 2 (some .char), Cond.methodLink RJ2 67 yJ2_checkIndex_2214a, Cond.static yJ2_checkIndex_2214a, Cond.code yJ2_checkIndex_2214a cJ2_checkIndex_2214a 2 none, Cond.methodLink RJ2 48 yJ2_length_9d52b, Cond.static yJ2_length_9d52b, Cond.code yJ2_length_9d52b cJ2_length_9d52b 1 (some .int), Cond.methodLink RJ2 414 yJ0_checkIndex_df160, Cond.methodLink RJ2 71 yJ2_getChar_3b067, Cond.static yJ2_getChar_3b067, Cond.code yJ2_getChar_3b067 cJ2_getChar_3b067 2 (some .char), Cond.fieldLink RJ2 44 "java/lang/StringUTF16" "$assertionsDisabled" "Z", Cond.fieldLink RJ2 59 "java/lang/StringUTF16" "HI_BYTE_SHIFT" "I", Cond.fieldLink RJ2 63 "java/lang/StringUTF16" "LO_BYTE_SHIFT" "I"]
def wsX1_tokenAsTopic : List Cond := .code yX1_tokenAsTopic cX1_tokenAsTopic 2 (some .int) :: ((wsX1_tokenAsTopic_r1 ++ (wsX1_tokenAsTopic_r2 ++ wsX1_tokenAsTopic_r3)) ++ wsX10 ++ wsX30)
def wsX1_failed : List Cond := .code yX1_failed cX1_failed 2 (some .boolean) :: ([.fieldLink RX1 55 "KeyBox$RuleReader" "faultKind" "I", .fieldLink RX1 83 "KeyBox$RuleReader" "tokenStart" "I", .fieldLink RX1 22 "KeyBox$RuleReader" "faultPlace" "I"] ++ wsX10)
def wsX1_isToldAlready : List Cond := .code yX1_isToldAlready cX1_isToldAlready 2 (some .boolean) :: ([.fieldLink RX1 18 "KeyBox$RuleReader" "told" "[Z"] ++ wsX10)
def wsX2_orderWord : List Cond := .code yX2_orderWord cX2_orderWord 1 (some (.object "java/lang/String")) :: ([])
def wsX1_tokenAsOrder_r1 : List Cond := [Cond.methodLink RX1 94 yX2_orderWord, Cond.static yX2_orderWord, Cond.initialized RX2, Cond.code yX2_orderWord cX2_orderWord 1 (some (.object "java/lang/String")), Cond.methodLink RX1 90 yX1_tokenIs, Cond.instanceMethod yX1_tokenIs, Cond.selects RX1 yX1_tokenIs yX1_tokenIs, Cond.initialized RX1, Cond.code yX1_tokenIs cX1_tokenIs 3 (some .boolean), Cond.fieldLink RX1 38 "KeyBox$RuleReader" "tokenKind" "I", Cond.fieldLink RX1 52 "KeyBox$RuleReader" "tokenEnd" "I", Cond.fieldLink RX1 83 "KeyBox$RuleReader" "tokenStart" "I", Cond.fieldLink RX1 26 "KeyBox$RuleReader" "tape" "LKeyBox$Tape;", Cond.methodLink RX1 101 yJ0_length_8abf5, Cond.instanceMethod yJ0_length_8abf5, Cond.selects RJ0 yJ0_length_8abf5 yJ0_length_8abf5, Cond.initialized RJ0, Cond.code yJ0_length_8abf5 cJ0_length_8abf5 1 (some .int), Cond.fieldLink RJ0 9 "java/lang/String" "value" "[B", Cond.methodLink RJ0 335 yJ0_coder_7d493, Cond.instanceMethod yJ0_coder_7d493, Cond.selects RJ0 yJ0_coder_7d493 yJ0_coder_7d493, Cond.code yJ0_coder_7d493 cJ0_coder_7d493 1 (some .byte), Cond.fieldLink RJ0 38 "java/lang/String" "COMPACT_STRINGS" "Z"]
def wsX1_tokenAsOrder_r2 : List Cond := [Cond.fieldLink RJ0 15 "java/lang/String" "coder" "B", Cond.methodLink RX1 97 yX3_at, Cond.instanceMethod yX3_at, Cond.selects RX3 yX3_at yX3_at, Cond.initialized RX3, Cond.code yX3_at cX3_at 2 (some .int), Cond.fieldLink RX3 15 "KeyBox$Tape" "length" "I", Cond.fieldLink RX3 11 "KeyBox$Tape" "bytes" "[B", Cond.methodLink RX1 106 yJ0_charAt_5068e, Cond.instanceMethod yJ0_charAt_5068e, Cond.selects RJ0 yJ0_charAt_5068e yJ0_charAt_5068e, Cond.code yJ0_charAt_5068e cJ0_charAt_5068e 2 (some .char), Cond.methodLink RJ0 492 yJ0_isLatin1_aae02, Cond.instanceMethod yJ0_isLatin1_aae02, Cond.selects RJ0 yJ0_isLatin1_aae02 yJ0_isLatin1_aae02, Cond.code yJ0_isLatin1_aae02 cJ0_isLatin1_aae02 1 (some .boolean), Cond.methodLink RJ0 495 yJ1_charAt_3b067, Cond.static yJ1_charAt_3b067, Cond.initialized RJ1, Cond.code yJ1_charAt_3b067 cJ1_charAt_3b067 2 (some .char), Cond.methodLink RJ1 9 yJ0_checkIndex_df160, Cond.static yJ0_checkIndex_df160, Cond.code yJ0_checkIndex_df160 cJ0_checkIndex_df160 2 none, Cond.fieldLink RJ0 1053 "jdk/internal/util/Preconditions" "SIOOBE_FORMATTER" "Ljava/util/function/BiFunction;"]
def wsX1_tokenAsOrder_r3 : List Cond := [Cond.methodLink RJ0 1059 yJ3_checkIndex_8e157, Cond.static yJ3_checkIndex_8e157, Cond.initialized RJ3, Cond.code yJ3_checkIndex_8e157 cJ3_checkIndex_8e157 3 (some .int), Cond.methodLink RJ0 498 yJ2_charAt_3b067, Cond.static yJ2_charAt_3b067, Cond.initialized RJ2, Cond.code yJ2_charAt_3b067 cJ2_charAt_3b067 2 (some .char), Cond.methodLink RJ2 67 yJ2_checkIndex_2214a, Cond.static yJ2_checkIndex_2214a, Cond.code yJ2_checkIndex_2214a cJ2_checkIndex_2214a 2 none, Cond.methodLink RJ2 48 yJ2_length_9d52b, Cond.static yJ2_length_9d52b, Cond.code yJ2_length_9d52b cJ2_length_9d52b 1 (some .int), Cond.methodLink RJ2 414 yJ0_checkIndex_df160, Cond.methodLink RJ2 71 yJ2_getChar_3b067, Cond.static yJ2_getChar_3b067, Cond.code yJ2_getChar_3b067 cJ2_getChar_3b067 2 (some .char), Cond.fieldLink RJ2 44 "java/lang/StringUTF16" "$assertionsDisabled" "Z", Cond.fieldLink RJ2 59 "java/lang/StringUTF16" "HI_BYTE_SHIFT" "I", Cond.fieldLink RJ2 63 "java/lang/StringUTF16" "LO_BYTE_SHIFT" "I"]
def wsX1_tokenAsOrder : List Cond := .code yX1_tokenAsOrder cX1_tokenAsOrder 2 (some .int) :: ((wsX1_tokenAsOrder_r1 ++ (wsX1_tokenAsOrder_r2 ++ wsX1_tokenAsOrder_r3)) ++ wsX10 ++ wsX30)
def wsX1_tokenAsNumber : List Cond := .code yX1_tokenAsNumber cX1_tokenAsNumber 3 (some .int) :: ([.fieldLink RX1 38 "KeyBox$RuleReader" "tokenKind" "I", .fieldLink RX1 83 "KeyBox$RuleReader" "tokenStart" "I", .fieldLink RX1 52 "KeyBox$RuleReader" "tokenEnd" "I", .fieldLink RX1 26 "KeyBox$RuleReader" "tape" "LKeyBox$Tape;", .methodLink RX1 97 yX3_at, .instanceMethod yX3_at, .selects RX3 yX3_at yX3_at, .initialized RX3, .code yX3_at cX3_at 2 (some .int), .fieldLink RX3 15 "KeyBox$Tape" "length" "I", .fieldLink RX3 11 "KeyBox$Tape" "bytes" "[B"] ++ wsX10 ++ wsX30)
def wsX2_isInBounds : List Cond := .code yX2_isInBounds cX2_isInBounds 2 (some .boolean) :: ([.fieldLink RX2 29 "KeyBox$RuleSet" "LOWEST" "[I", .fieldLink RX2 32 "KeyBox$RuleSet" "HIGHEST" "[I"])
def wsX2_tell : List Cond := .code yX2_tell cX2_tell 3 none :: ([.fieldLink RX2 20 "KeyBox$RuleSet" "values" "[I"] ++ wsX20)
def wsX1_readLine_r1 : List Cond := [Cond.fieldLink RX1 18 "KeyBox$RuleReader" "told" "[Z", Cond.fieldLink RX1 12 "KeyBox$RuleReader" "draft" "LKeyBox$RuleSet;", Cond.fieldLink RX1 38 "KeyBox$RuleReader" "tokenKind" "I", Cond.methodLink RX1 58 yX1_tokenAsTopic, Cond.instanceMethod yX1_tokenAsTopic, Cond.selects RX1 yX1_tokenAsTopic yX1_tokenAsTopic, Cond.initialized RX1, Cond.code yX1_tokenAsTopic cX1_tokenAsTopic 2 (some .int), Cond.methodLink RX1 86 yX2_topicWord, Cond.static yX2_topicWord, Cond.initialized RX2, Cond.code yX2_topicWord cX2_topicWord 1 (some (.object "java/lang/String")), Cond.methodLink RX1 90 yX1_tokenIs, Cond.instanceMethod yX1_tokenIs, Cond.selects RX1 yX1_tokenIs yX1_tokenIs, Cond.code yX1_tokenIs cX1_tokenIs 3 (some .boolean), Cond.fieldLink RX1 52 "KeyBox$RuleReader" "tokenEnd" "I", Cond.fieldLink RX1 83 "KeyBox$RuleReader" "tokenStart" "I", Cond.fieldLink RX1 26 "KeyBox$RuleReader" "tape" "LKeyBox$Tape;", Cond.methodLink RX1 101 yJ0_length_8abf5, Cond.instanceMethod yJ0_length_8abf5, Cond.selects RJ0 yJ0_length_8abf5 yJ0_length_8abf5, Cond.initialized RJ0, Cond.code yJ0_length_8abf5 cJ0_length_8abf5 1 (some .int)]
def wsX1_readLine_r2 : List Cond := [Cond.fieldLink RJ0 9 "java/lang/String" "value" "[B", Cond.methodLink RJ0 335 yJ0_coder_7d493, Cond.instanceMethod yJ0_coder_7d493, Cond.selects RJ0 yJ0_coder_7d493 yJ0_coder_7d493, Cond.code yJ0_coder_7d493 cJ0_coder_7d493 1 (some .byte), Cond.fieldLink RJ0 38 "java/lang/String" "COMPACT_STRINGS" "Z", Cond.fieldLink RJ0 15 "java/lang/String" "coder" "B", Cond.methodLink RX1 97 yX3_at, Cond.instanceMethod yX3_at, Cond.selects RX3 yX3_at yX3_at, Cond.initialized RX3, Cond.code yX3_at cX3_at 2 (some .int), Cond.fieldLink RX3 15 "KeyBox$Tape" "length" "I", Cond.fieldLink RX3 11 "KeyBox$Tape" "bytes" "[B", Cond.methodLink RX1 106 yJ0_charAt_5068e, Cond.instanceMethod yJ0_charAt_5068e, Cond.selects RJ0 yJ0_charAt_5068e yJ0_charAt_5068e, Cond.code yJ0_charAt_5068e cJ0_charAt_5068e 2 (some .char), Cond.methodLink RJ0 492 yJ0_isLatin1_aae02, Cond.instanceMethod yJ0_isLatin1_aae02, Cond.selects RJ0 yJ0_isLatin1_aae02 yJ0_isLatin1_aae02, Cond.code yJ0_isLatin1_aae02 cJ0_isLatin1_aae02 1 (some .boolean), Cond.methodLink RJ0 495 yJ1_charAt_3b067, Cond.static yJ1_charAt_3b067]
def wsX1_readLine_r3 : List Cond := [Cond.initialized RJ1, Cond.code yJ1_charAt_3b067 cJ1_charAt_3b067 2 (some .char), Cond.methodLink RJ1 9 yJ0_checkIndex_df160, Cond.static yJ0_checkIndex_df160, Cond.code yJ0_checkIndex_df160 cJ0_checkIndex_df160 2 none, Cond.fieldLink RJ0 1053 "jdk/internal/util/Preconditions" "SIOOBE_FORMATTER" "Ljava/util/function/BiFunction;", Cond.methodLink RJ0 1059 yJ3_checkIndex_8e157, Cond.static yJ3_checkIndex_8e157, Cond.initialized RJ3, Cond.code yJ3_checkIndex_8e157 cJ3_checkIndex_8e157 3 (some .int), Cond.methodLink RJ0 498 yJ2_charAt_3b067, Cond.static yJ2_charAt_3b067, Cond.initialized RJ2, Cond.code yJ2_charAt_3b067 cJ2_charAt_3b067 2 (some .char), Cond.methodLink RJ2 67 yJ2_checkIndex_2214a, Cond.static yJ2_checkIndex_2214a, Cond.code yJ2_checkIndex_2214a cJ2_checkIndex_2214a 2 none, Cond.methodLink RJ2 48 yJ2_length_9d52b, Cond.static yJ2_length_9d52b, Cond.code yJ2_length_9d52b cJ2_length_9d52b 1 (some .int), Cond.methodLink RJ2 414 yJ0_checkIndex_df160, Cond.methodLink RJ2 71 yJ2_getChar_3b067, Cond.static yJ2_getChar_3b067, Cond.code yJ2_getChar_3b067 cJ2_getChar_3b067 2 (some .char)]
def wsX1_readLine_r4 : List Cond := [Cond.fieldLink RJ2 44 "java/lang/StringUTF16" "$assertionsDisabled" "Z", Cond.fieldLink RJ2 59 "java/lang/StringUTF16" "HI_BYTE_SHIFT" "I", Cond.fieldLink RJ2 63 "java/lang/StringUTF16" "LO_BYTE_SHIFT" "I", Cond.methodLink RX1 62 yX1_failed, Cond.instanceMethod yX1_failed, Cond.selects RX1 yX1_failed yX1_failed, Cond.code yX1_failed cX1_failed 2 (some .boolean), Cond.fieldLink RX1 55 "KeyBox$RuleReader" "faultKind" "I", Cond.fieldLink RX1 22 "KeyBox$RuleReader" "faultPlace" "I", Cond.methodLink RX1 66 yX1_isToldAlready, Cond.instanceMethod yX1_isToldAlready, Cond.selects RX1 yX1_isToldAlready yX1_isToldAlready, Cond.code yX1_isToldAlready cX1_isToldAlready 2 (some .boolean), Cond.methodLink RX1 35 yX1_nextToken, Cond.instanceMethod yX1_nextToken, Cond.selects RX1 yX1_nextToken yX1_nextToken, Cond.code yX1_nextToken cX1_nextToken 1 none, Cond.methodLink RX1 110 yX1_behindRun, Cond.instanceMethod yX1_behindRun, Cond.selects RX1 yX1_behindRun yX1_behindRun, Cond.code yX1_behindRun cX1_behindRun 4 (some .int), Cond.methodLink RX1 114 yX1_kindAt, Cond.instanceMethod yX1_kindAt, Cond.selects RX1 yX1_kindAt yX1_kindAt]
def wsX1_readLine_r5 : List Cond := [Cond.code yX1_kindAt cX1_kindAt 3 (some .int), Cond.methodLink RX1 69 yX1_tokenAsOrder, Cond.instanceMethod yX1_tokenAsOrder, Cond.selects RX1 yX1_tokenAsOrder yX1_tokenAsOrder, Cond.code yX1_tokenAsOrder cX1_tokenAsOrder 2 (some .int), Cond.methodLink RX1 94 yX2_orderWord, Cond.static yX2_orderWord, Cond.code yX2_orderWord cX2_orderWord 1 (some (.object "java/lang/String")), Cond.methodLink RX1 72 yX1_tokenAsNumber, Cond.instanceMethod yX1_tokenAsNumber, Cond.selects RX1 yX1_tokenAsNumber yX1_tokenAsNumber, Cond.code yX1_tokenAsNumber cX1_tokenAsNumber 3 (some .int), Cond.methodLink RX1 75 yX2_isInBounds, Cond.static yX2_isInBounds, Cond.code yX2_isInBounds cX2_isInBounds 2 (some .boolean), Cond.fieldLink RX2 29 "KeyBox$RuleSet" "LOWEST" "[I", Cond.fieldLink RX2 32 "KeyBox$RuleSet" "HIGHEST" "[I", Cond.methodLink RX1 79 yX2_tell, Cond.instanceMethod yX2_tell, Cond.selects RX2 yX2_tell yX2_tell, Cond.code yX2_tell cX2_tell 3 none, Cond.fieldLink RX2 20 "KeyBox$RuleSet" "values" "[I"]
def wsX1_readLine : List Cond := .code yX1_readLine cX1_readLine 3 (some .boolean) :: ((wsX1_readLine_r1 ++ (wsX1_readLine_r2 ++ (wsX1_readLine_r3 ++ (wsX1_readLine_r4 ++ wsX1_readLine_r5)))) ++ wsX10 ++ wsX30 ++ wsX20)
def wsX1_read_r1 : List Cond := [Cond.fieldLink RX1 38 "KeyBox$RuleReader" "tokenKind" "I", Cond.fieldLink RX1 12 "KeyBox$RuleReader" "draft" "LKeyBox$RuleSet;", Cond.methodLink RX1 30 yX1_startAnew, Cond.instanceMethod yX1_startAnew, Cond.selects RX1 yX1_startAnew yX1_startAnew, Cond.initialized RX1, Cond.code yX1_startAnew cX1_startAnew 2 none, Cond.fieldLink RX1 18 "KeyBox$RuleReader" "told" "[Z", Cond.fieldLink RX1 52 "KeyBox$RuleReader" "tokenEnd" "I", Cond.fieldLink RX1 55 "KeyBox$RuleReader" "faultKind" "I", Cond.fieldLink RX1 22 "KeyBox$RuleReader" "faultPlace" "I", Cond.methodLink RX1 49 yX2_forget, Cond.instanceMethod yX2_forget, Cond.selects RX2 yX2_forget yX2_forget, Cond.initialized RX2, Cond.code yX2_forget cX2_forget 1 none, Cond.fieldLink RX2 9 "KeyBox$RuleSet" "UNTOLD" "[I", Cond.fieldLink RX2 20 "KeyBox$RuleSet" "values" "[I", Cond.methodLink RX2 23 arraycopyName, Cond.native arraycopyName, Cond.static arraycopyName, Cond.initialized "java/lang/System", Cond.methodLink RX1 35 yX1_nextToken, Cond.instanceMethod yX1_nextToken]
def wsX1_read_r2 : List Cond := [Cond.selects RX1 yX1_nextToken yX1_nextToken, Cond.code yX1_nextToken cX1_nextToken 1 none, Cond.fieldLink RX1 83 "KeyBox$RuleReader" "tokenStart" "I", Cond.methodLink RX1 110 yX1_behindRun, Cond.instanceMethod yX1_behindRun, Cond.selects RX1 yX1_behindRun yX1_behindRun, Cond.code yX1_behindRun cX1_behindRun 4 (some .int), Cond.fieldLink RX1 26 "KeyBox$RuleReader" "tape" "LKeyBox$Tape;", Cond.methodLink RX1 114 yX1_kindAt, Cond.instanceMethod yX1_kindAt, Cond.selects RX1 yX1_kindAt yX1_kindAt, Cond.code yX1_kindAt cX1_kindAt 3 (some .int), Cond.methodLink RX1 97 yX3_at, Cond.instanceMethod yX3_at, Cond.selects RX3 yX3_at yX3_at, Cond.initialized RX3, Cond.code yX3_at cX3_at 2 (some .int), Cond.fieldLink RX3 15 "KeyBox$Tape" "length" "I", Cond.fieldLink RX3 11 "KeyBox$Tape" "bytes" "[B", Cond.methodLink RX1 41 yX2_copy, Cond.instanceMethod yX2_copy, Cond.selects RX2 yX2_copy yX2_copy, Cond.code yX2_copy cX2_copy 2 none, Cond.methodLink RX1 45 yX1_readLine]
def wsX1_read_r3 : List Cond := [Cond.instanceMethod yX1_readLine, Cond.selects RX1 yX1_readLine yX1_readLine, Cond.code yX1_readLine cX1_readLine 3 (some .boolean), Cond.methodLink RX1 58 yX1_tokenAsTopic, Cond.instanceMethod yX1_tokenAsTopic, Cond.selects RX1 yX1_tokenAsTopic yX1_tokenAsTopic, Cond.code yX1_tokenAsTopic cX1_tokenAsTopic 2 (some .int), Cond.methodLink RX1 86 yX2_topicWord, Cond.static yX2_topicWord, Cond.code yX2_topicWord cX2_topicWord 1 (some (.object "java/lang/String")), Cond.methodLink RX1 90 yX1_tokenIs, Cond.instanceMethod yX1_tokenIs, Cond.selects RX1 yX1_tokenIs yX1_tokenIs, Cond.code yX1_tokenIs cX1_tokenIs 3 (some .boolean), Cond.methodLink RX1 101 yJ0_length_8abf5, Cond.instanceMethod yJ0_length_8abf5, Cond.selects RJ0 yJ0_length_8abf5 yJ0_length_8abf5, Cond.initialized RJ0, Cond.code yJ0_length_8abf5 cJ0_length_8abf5 1 (some .int), Cond.fieldLink RJ0 9 "java/lang/String" "value" "[B", Cond.methodLink RJ0 335 yJ0_coder_7d493, Cond.instanceMethod yJ0_coder_7d493, Cond.selects RJ0 yJ0_coder_7d493 yJ0_coder_7d493, Cond.code yJ0_coder_7d493 cJ0_coder_7d493 1 (some .byte)]
def wsX1_read_r4 : List Cond := [Cond.fieldLink RJ0 38 "java/lang/String" "COMPACT_STRINGS" "Z", Cond.fieldLink RJ0 15 "java/lang/String" "coder" "B", Cond.methodLink RX1 106 yJ0_charAt_5068e, Cond.instanceMethod yJ0_charAt_5068e, Cond.selects RJ0 yJ0_charAt_5068e yJ0_charAt_5068e, Cond.code yJ0_charAt_5068e cJ0_charAt_5068e 2 (some .char), Cond.methodLink RJ0 492 yJ0_isLatin1_aae02, Cond.instanceMethod yJ0_isLatin1_aae02, Cond.selects RJ0 yJ0_isLatin1_aae02 yJ0_isLatin1_aae02, Cond.code yJ0_isLatin1_aae02 cJ0_isLatin1_aae02 1 (some .boolean), Cond.methodLink RJ0 495 yJ1_charAt_3b067, Cond.static yJ1_charAt_3b067, Cond.initialized RJ1, Cond.code yJ1_charAt_3b067 cJ1_charAt_3b067 2 (some .char), Cond.methodLink RJ1 9 yJ0_checkIndex_df160, Cond.static yJ0_checkIndex_df160, Cond.code yJ0_checkIndex_df160 cJ0_checkIndex_df160 2 none, Cond.fieldLink RJ0 1053 "jdk/internal/util/Preconditions" "SIOOBE_FORMATTER" "Ljava/util/function/BiFunction;", Cond.methodLink RJ0 1059 yJ3_checkIndex_8e157, Cond.static yJ3_checkIndex_8e157, Cond.initialized RJ3, Cond.code yJ3_checkIndex_8e157 cJ3_checkIndex_8e157 3 (some .int), Cond.methodLink RJ0 498 yJ2_charAt_3b067, Cond.static yJ2_charAt_3b067]
def wsX1_read_r5 : List Cond := [Cond.initialized RJ2, Cond.code yJ2_charAt_3b067 cJ2_charAt_3b067 2 (some .char), Cond.methodLink RJ2 67 yJ2_checkIndex_2214a, Cond.static yJ2_checkIndex_2214a, Cond.code yJ2_checkIndex_2214a cJ2_checkIndex_2214a 2 none, Cond.methodLink RJ2 48 yJ2_length_9d52b, Cond.static yJ2_length_9d52b, Cond.code yJ2_length_9d52b cJ2_length_9d52b 1 (some .int), Cond.methodLink RJ2 414 yJ0_checkIndex_df160, Cond.methodLink RJ2 71 yJ2_getChar_3b067, Cond.static yJ2_getChar_3b067, Cond.code yJ2_getChar_3b067 cJ2_getChar_3b067 2 (some .char), Cond.fieldLink RJ2 44 "java/lang/StringUTF16" "$assertionsDisabled" "Z", Cond.fieldLink RJ2 59 "java/lang/StringUTF16" "HI_BYTE_SHIFT" "I", Cond.fieldLink RJ2 63 "java/lang/StringUTF16" "LO_BYTE_SHIFT" "I", Cond.methodLink RX1 62 yX1_failed, Cond.instanceMethod yX1_failed, Cond.selects RX1 yX1_failed yX1_failed, Cond.code yX1_failed cX1_failed 2 (some .boolean), Cond.methodLink RX1 66 yX1_isToldAlready, Cond.instanceMethod yX1_isToldAlready, Cond.selects RX1 yX1_isToldAlready yX1_isToldAlready, Cond.code yX1_isToldAlready cX1_isToldAlready 2 (some .boolean), Cond.methodLink RX1 69 yX1_tokenAsOrder]
def wsX1_read_r6 : List Cond := [Cond.instanceMethod yX1_tokenAsOrder, Cond.selects RX1 yX1_tokenAsOrder yX1_tokenAsOrder, Cond.code yX1_tokenAsOrder cX1_tokenAsOrder 2 (some .int), Cond.methodLink RX1 94 yX2_orderWord, Cond.static yX2_orderWord, Cond.code yX2_orderWord cX2_orderWord 1 (some (.object "java/lang/String")), Cond.methodLink RX1 72 yX1_tokenAsNumber, Cond.instanceMethod yX1_tokenAsNumber, Cond.selects RX1 yX1_tokenAsNumber yX1_tokenAsNumber, Cond.code yX1_tokenAsNumber cX1_tokenAsNumber 3 (some .int), Cond.methodLink RX1 75 yX2_isInBounds, Cond.static yX2_isInBounds, Cond.code yX2_isInBounds cX2_isInBounds 2 (some .boolean), Cond.fieldLink RX2 29 "KeyBox$RuleSet" "LOWEST" "[I", Cond.fieldLink RX2 32 "KeyBox$RuleSet" "HIGHEST" "[I", Cond.methodLink RX1 79 yX2_tell, Cond.instanceMethod yX2_tell, Cond.selects RX2 yX2_tell yX2_tell, Cond.code yX2_tell cX2_tell 3 none]
def wsX1_read : List Cond := .code yX1_read cX1_read 3 (some .int) :: ((wsX1_read_r1 ++ (wsX1_read_r2 ++ (wsX1_read_r3 ++ (wsX1_read_r4 ++ (wsX1_read_r5 ++ wsX1_read_r6))))) ++ wsX10 ++ wsX20 ++ wsX30)
def wsX2_of : List Cond := .code yX2_of cX2_of 2 (some .int) :: ([.fieldLink RX2 20 "KeyBox$RuleSet" "values" "[I"] ++ wsX20)
def wsX3_init : List Cond := .code yX3_init cX3_init 1 none :: ([.methodLink RX3 3 objectInit, .instanceMethod objectInit, .code objectInit ⟨#[0xb1]⟩ 1 none, .arrayClass .byte, .fieldLink RX3 11 "KeyBox$Tape" "bytes" "[B"] ++ wsX30)
def wsX3_hasRoomFor : List Cond := .code yX3_hasRoomFor cX3_hasRoomFor 2 (some .boolean) :: ([.fieldLink RX3 15 "KeyBox$Tape" "length" "I"] ++ wsX30)
def wsX3_append : List Cond := .code yX3_append cX3_append 3 none :: ([.fieldLink RX3 11 "KeyBox$Tape" "bytes" "[B", .fieldLink RX3 15 "KeyBox$Tape" "length" "I", .methodLink RX3 19 yX3_hasRoomFor, .instanceMethod yX3_hasRoomFor, .selects RX3 yX3_hasRoomFor yX3_hasRoomFor, .initialized RX3, .code yX3_hasRoomFor cX3_hasRoomFor 2 (some .boolean)] ++ wsX30)
def wsX4_init : List Cond := .code yX4_init cX4_init 3 none :: ([.methodLink RX4 3 objectInit, .instanceMethod objectInit, .code objectInit ⟨#[0xb1]⟩ 1 none, .classLink RX4 13 "[[I", .arrayClass .int, .fieldLink RX4 15 "KeyBox$Year" "ofMember" "[[I", .fieldLink RX4 18 "KeyBox$Year" "ofMeeting" "[[I", .fieldLink RX4 21 "KeyBox$Year" "sums" "[I", .fieldLink RX4 25 "KeyBox$Year" "keys" "[I", .fieldLink RX4 28 "KeyBox$Year" "givenInWeek" "[I", .fieldLink RX4 31 "KeyBox$Year" "reckonedToWeek" "[I", .fieldLink RX4 34 "KeyBox$Year" "boughtToday" "[I", .fieldLink RX4 37 "KeyBox$Year" "asked" "[I", .fieldLink RX4 40 "KeyBox$Year" "queue" "[I", .fieldLink RX4 43 "KeyBox$Year" "servingOrder" "[I", .fieldLink RX4 46 "KeyBox$Year" "log" "LKeyBox$Log;", .fieldLink RX4 50 "KeyBox$Year" "ruleSet" "LKeyBox$RuleSet;"] ++ wsX40)
def wsJ7_fill_53178 : List Cond := .code yJ7_fill_53178 cJ7_fill_53178 4 none :: ([])
def wsX4_begin : List Cond := .code yX4_begin cX4_begin 3 none :: ([.fieldLink RX4 50 "KeyBox$Year" "ruleSet" "LKeyBox$RuleSet;", .fieldLink RX4 15 "KeyBox$Year" "ofMember" "[[I", .fieldLink RX4 21 "KeyBox$Year" "sums" "[I", .fieldLink RX4 37 "KeyBox$Year" "asked" "[I", .fieldLink RX4 75 "KeyBox$Year" "queued" "I", .methodLink RX4 69 yJ7_fill_53178, .static yJ7_fill_53178, .initialized RJ7, .code yJ7_fill_53178 cJ7_fill_53178 4 none] ++ wsX40)
def wsX4_isGone : List Cond := .code yX4_isGone cX4_isGone 2 (some .boolean) :: ([.fieldLink RX4 15 "KeyBox$Year" "ofMember" "[[I"] ++ wsX40)
def wsX4_hasKey : List Cond := .code yX4_hasKey cX4_hasKey 2 (some .boolean) :: ([.fieldLink RX4 25 "KeyBox$Year" "keys" "[I"] ++ wsX40)
def wsX4_nextWithoutKey : List Cond := .code yX4_nextWithoutKey cX4_nextWithoutKey 4 (some .int) :: ([.fieldLink RX4 46 "KeyBox$Year" "log" "LKeyBox$Log;", .methodLink RX4 148 yX4_isGone, .instanceMethod yX4_isGone, .selects RX4 yX4_isGone yX4_isGone, .initialized RX4, .code yX4_isGone cX4_isGone 2 (some .boolean), .fieldLink RX4 15 "KeyBox$Year" "ofMember" "[[I", .methodLink RX4 154 yX4_hasKey, .instanceMethod yX4_hasKey, .selects RX4 yX4_hasKey yX4_hasKey, .code yX4_hasKey cX4_hasKey 2 (some .boolean), .fieldLink RX4 25 "KeyBox$Year" "keys" "[I"] ++ wsX40 ++ wsX00)
def wsX4_handOutKeys_r1 : List Cond := [Cond.fieldLink RX4 50 "KeyBox$Year" "ruleSet" "LKeyBox$RuleSet;", Cond.fieldLink RX4 89 "KeyBox$Year" "week" "I", Cond.fieldLink RX4 25 "KeyBox$Year" "keys" "[I", Cond.fieldLink RX4 46 "KeyBox$Year" "log" "LKeyBox$Log;", Cond.methodLink RX4 142 Lib.Math.max.name, Cond.static Lib.Math.max.name, Cond.initialized "java/lang/Math", Cond.code Lib.Math.max.name Lib.Math.max.code 2 (some .int), Cond.methodLink RX4 139 yX2_of, Cond.instanceMethod yX2_of, Cond.selects RX2 yX2_of yX2_of, Cond.initialized RX2, Cond.code yX2_of cX2_of 2 (some .int), Cond.fieldLink RX2 20 "KeyBox$RuleSet" "values" "[I", Cond.methodLink RX4 148 yX4_isGone, Cond.instanceMethod yX4_isGone, Cond.selects RX4 yX4_isGone yX4_isGone, Cond.initialized RX4, Cond.code yX4_isGone cX4_isGone 2 (some .boolean), Cond.fieldLink RX4 15 "KeyBox$Year" "ofMember" "[[I", Cond.methodLink RX4 151 yX4_nextWithoutKey, Cond.instanceMethod yX4_nextWithoutKey, Cond.selects RX4 yX4_nextWithoutKey yX4_nextWithoutKey, Cond.code yX4_nextWithoutKey cX4_nextWithoutKey 4 (some .int)]
def wsX4_handOutKeys_r2 : List Cond := [Cond.methodLink RX4 154 yX4_hasKey, Cond.instanceMethod yX4_hasKey, Cond.selects RX4 yX4_hasKey yX4_hasKey, Cond.code yX4_hasKey cX4_hasKey 2 (some .boolean)]
def wsX4_handOutKeys : List Cond := .code yX4_handOutKeys cX4_handOutKeys 4 none :: ((wsX4_handOutKeys_r1 ++ wsX4_handOutKeys_r2) ++ wsX40 ++ wsX00 ++ wsX20)
def wsX4_isThere : List Cond := .code yX4_isThere cX4_isThere 2 (some .boolean) :: ([.fieldLink RX4 95 "KeyBox$Year" "there" "I"] ++ wsX40)
def wsX4_isOpen : List Cond := .code yX4_isOpen cX4_isOpen 3 (some .boolean) :: ([.fieldLink RX4 25 "KeyBox$Year" "keys" "[I", .methodLink RX4 157 yX4_isThere, .instanceMethod yX4_isThere, .selects RX4 yX4_isThere yX4_isThere, .initialized RX4, .code yX4_isThere cX4_isThere 2 (some .boolean), .fieldLink RX4 95 "KeyBox$Year" "there" "I"] ++ wsX40)
def wsX4_payDue : List Cond := .code yX4_payDue cX4_payDue 4 none :: ([.fieldLink RX4 21 "KeyBox$Year" "sums" "[I", .fieldLink RX4 15 "KeyBox$Year" "ofMember" "[[I"] ++ wsX40)
def wsX4_collectDues : List Cond := .code yX4_collectDues cX4_collectDues 2 none :: ([.fieldLink RX4 46 "KeyBox$Year" "log" "LKeyBox$Log;", .fieldLink RX4 50 "KeyBox$Year" "ruleSet" "LKeyBox$RuleSet;", .methodLink RX4 148 yX4_isGone, .instanceMethod yX4_isGone, .selects RX4 yX4_isGone yX4_isGone, .initialized RX4, .code yX4_isGone cX4_isGone 2 (some .boolean), .fieldLink RX4 15 "KeyBox$Year" "ofMember" "[[I", .methodLink RX4 157 yX4_isThere, .instanceMethod yX4_isThere, .selects RX4 yX4_isThere yX4_isThere, .code yX4_isThere cX4_isThere 2 (some .boolean), .fieldLink RX4 95 "KeyBox$Year" "there" "I", .methodLink RX4 139 yX2_of, .instanceMethod yX2_of, .selects RX2 yX2_of yX2_of, .initialized RX2, .code yX2_of cX2_of 2 (some .int), .fieldLink RX2 20 "KeyBox$RuleSet" "values" "[I", .methodLink RX4 160 yX4_payDue, .instanceMethod yX4_payDue, .selects RX4 yX4_payDue yX4_payDue, .code yX4_payDue cX4_payDue 4 none, .fieldLink RX4 21 "KeyBox$Year" "sums" "[I"] ++ wsX40 ++ wsX00 ++ wsX20)
def wsX4_hundredths : List Cond := .code yX4_hundredths cX4_hundredths 2 (some .int) :: ([.constantLong RX4 225 (100)])
def wsX4_putInterest : List Cond := .code yX4_putInterest cX4_putInterest 3 none :: ([.fieldLink RX4 15 "KeyBox$Year" "ofMember" "[[I", .fieldLink RX4 21 "KeyBox$Year" "sums" "[I"] ++ wsX40)
def wsX4_growFallingLoan : List Cond := .code yX4_growFallingLoan cX4_growFallingLoan 4 none :: ([.fieldLink RX4 31 "KeyBox$Year" "reckonedToWeek" "[I", .fieldLink RX4 89 "KeyBox$Year" "week" "I", .fieldLink RX4 15 "KeyBox$Year" "ofMember" "[[I", .methodLink RX4 168 yX4_hundredths, .static yX4_hundredths, .initialized RX4, .code yX4_hundredths cX4_hundredths 2 (some .int), .constantLong RX4 225 (100), .methodLink RX4 171 yX4_putInterest, .instanceMethod yX4_putInterest, .selects RX4 yX4_putInterest yX4_putInterest, .code yX4_putInterest cX4_putInterest 3 none, .fieldLink RX4 21 "KeyBox$Year" "sums" "[I"] ++ wsX40)
def wsX4_growFallingLoans_r1 : List Cond := [Cond.fieldLink RX4 50 "KeyBox$Year" "ruleSet" "LKeyBox$RuleSet;", Cond.fieldLink RX4 46 "KeyBox$Year" "log" "LKeyBox$Log;", Cond.fieldLink RX4 15 "KeyBox$Year" "ofMember" "[[I", Cond.methodLink RX4 139 yX2_of, Cond.instanceMethod yX2_of, Cond.selects RX2 yX2_of yX2_of, Cond.initialized RX2, Cond.code yX2_of cX2_of 2 (some .int), Cond.fieldLink RX2 20 "KeyBox$RuleSet" "values" "[I", Cond.methodLink RX4 164 yX4_growFallingLoan, Cond.instanceMethod yX4_growFallingLoan, Cond.selects RX4 yX4_growFallingLoan yX4_growFallingLoan, Cond.initialized RX4, Cond.code yX4_growFallingLoan cX4_growFallingLoan 4 none, Cond.fieldLink RX4 31 "KeyBox$Year" "reckonedToWeek" "[I", Cond.fieldLink RX4 89 "KeyBox$Year" "week" "I", Cond.methodLink RX4 168 yX4_hundredths, Cond.static yX4_hundredths, Cond.code yX4_hundredths cX4_hundredths 2 (some .int), Cond.constantLong RX4 225 (100), Cond.methodLink RX4 171 yX4_putInterest, Cond.instanceMethod yX4_putInterest, Cond.selects RX4 yX4_putInterest yX4_putInterest, Cond.code yX4_putInterest cX4_putInterest 3 none]
def wsX4_growFallingLoans_r2 : List Cond := [Cond.fieldLink RX4 21 "KeyBox$Year" "sums" "[I"]
def wsX4_growFallingLoans : List Cond := .code yX4_growFallingLoans cX4_growFallingLoans 3 none :: ((wsX4_growFallingLoans_r1 ++ wsX4_growFallingLoans_r2) ++ wsX40 ++ wsX00 ++ wsX20)
def wsX4_collectLateDues : List Cond := .code yX4_collectLateDues cX4_collectLateDues 2 none :: ([.fieldLink RX4 46 "KeyBox$Year" "log" "LKeyBox$Log;", .fieldLink RX4 15 "KeyBox$Year" "ofMember" "[[I", .fieldLink RX4 89 "KeyBox$Year" "week" "I", .fieldLink RX4 28 "KeyBox$Year" "givenInWeek" "[I", .fieldLink RX4 50 "KeyBox$Year" "ruleSet" "LKeyBox$RuleSet;", .methodLink RX4 139 yX2_of, .instanceMethod yX2_of, .selects RX2 yX2_of yX2_of, .initialized RX2, .code yX2_of cX2_of 2 (some .int), .fieldLink RX2 20 "KeyBox$RuleSet" "values" "[I", .methodLink RX4 160 yX4_payDue, .instanceMethod yX4_payDue, .selects RX4 yX4_payDue yX4_payDue, .initialized RX4, .code yX4_payDue cX4_payDue 4 none, .fieldLink RX4 21 "KeyBox$Year" "sums" "[I"] ++ wsX40 ++ wsX00 ++ wsX20)
def wsX4_takeFrom : List Cond := .code yX4_takeFrom cX4_takeFrom 4 (some .int) :: ([.fieldLink RX4 21 "KeyBox$Year" "sums" "[I", .methodLink RX4 192 Lib.Math.min.name, .static Lib.Math.min.name, .initialized "java/lang/Math", .code Lib.Math.min.name Lib.Math.min.code 2 (some .int)] ++ wsX40)
def wsX4_total : List Cond := .code yX4_total cX4_total 4 (some .int) :: ([.fieldLink RX4 46 "KeyBox$Year" "log" "LKeyBox$Log;", .fieldLink RX4 15 "KeyBox$Year" "ofMember" "[[I"] ++ wsX40 ++ wsX00)
def wsX4_partOf : List Cond := .code yX4_partOf cX4_partOf 3 (some .int) :: ([])
def wsX4_closeQueue : List Cond := .code yX4_closeQueue cX4_closeQueue 3 none :: ([.fieldLink RX4 75 "KeyBox$Year" "queued" "I", .fieldLink RX4 37 "KeyBox$Year" "asked" "[I", .fieldLink RX4 40 "KeyBox$Year" "queue" "[I"] ++ wsX40)
def wsX4_leave_r1 : List Cond := [Cond.fieldLink RX4 21 "KeyBox$Year" "sums" "[I", Cond.fieldLink RX4 15 "KeyBox$Year" "ofMember" "[[I", Cond.methodLink RX4 142 Lib.Math.max.name, Cond.static Lib.Math.max.name, Cond.initialized "java/lang/Math", Cond.code Lib.Math.max.name Lib.Math.max.code 2 (some .int), Cond.fieldLink RX4 37 "KeyBox$Year" "asked" "[I", Cond.methodLink RX4 195 yX4_total, Cond.instanceMethod yX4_total, Cond.selects RX4 yX4_total yX4_total, Cond.initialized RX4, Cond.code yX4_total cX4_total 4 (some .int), Cond.fieldLink RX4 46 "KeyBox$Year" "log" "LKeyBox$Log;", Cond.methodLink RX4 198 yX4_partOf, Cond.static yX4_partOf, Cond.code yX4_partOf cX4_partOf 3 (some .int), Cond.methodLink RX4 174 yX4_takeFrom, Cond.instanceMethod yX4_takeFrom, Cond.selects RX4 yX4_takeFrom yX4_takeFrom, Cond.code yX4_takeFrom cX4_takeFrom 4 (some .int), Cond.methodLink RX4 192 Lib.Math.min.name, Cond.static Lib.Math.min.name, Cond.code Lib.Math.min.name Lib.Math.min.code 2 (some .int), Cond.methodLink RX4 202 yX4_closeQueue]
def wsX4_leave_r2 : List Cond := [Cond.instanceMethod yX4_closeQueue, Cond.selects RX4 yX4_closeQueue yX4_closeQueue, Cond.code yX4_closeQueue cX4_closeQueue 3 none, Cond.fieldLink RX4 75 "KeyBox$Year" "queued" "I", Cond.fieldLink RX4 40 "KeyBox$Year" "queue" "[I"]
def wsX4_leave : List Cond := .code yX4_leave cX4_leave 4 none :: ((wsX4_leave_r1 ++ wsX4_leave_r2) ++ wsX40 ++ wsX00)
def wsX4_buy : List Cond := .code yX4_buy cX4_buy 4 none :: ([.fieldLink RX4 50 "KeyBox$Year" "ruleSet" "LKeyBox$RuleSet;", .fieldLink RX4 34 "KeyBox$Year" "boughtToday" "[I", .methodLink RX4 192 Lib.Math.min.name, .static Lib.Math.min.name, .initialized "java/lang/Math", .code Lib.Math.min.name Lib.Math.min.code 2 (some .int), .fieldLink RX4 15 "KeyBox$Year" "ofMember" "[[I", .fieldLink RX4 21 "KeyBox$Year" "sums" "[I", .methodLink RX4 139 yX2_of, .instanceMethod yX2_of, .selects RX2 yX2_of yX2_of, .initialized RX2, .code yX2_of cX2_of 2 (some .int), .fieldLink RX2 20 "KeyBox$RuleSet" "values" "[I"] ++ wsX40 ++ wsX20)
def wsX4_ask : List Cond := .code yX4_ask cX4_ask 5 none :: ([.fieldLink RX4 15 "KeyBox$Year" "ofMember" "[[I", .fieldLink RX4 50 "KeyBox$Year" "ruleSet" "LKeyBox$RuleSet;", .fieldLink RX4 37 "KeyBox$Year" "asked" "[I", .fieldLink RX4 75 "KeyBox$Year" "queued" "I", .fieldLink RX4 40 "KeyBox$Year" "queue" "[I", .methodLink RX4 139 yX2_of, .instanceMethod yX2_of, .selects RX2 yX2_of yX2_of, .initialized RX2, .code yX2_of cX2_of 2 (some .int), .fieldLink RX2 20 "KeyBox$RuleSet" "values" "[I", .methodLink RX4 168 yX4_hundredths, .static yX4_hundredths, .initialized RX4, .code yX4_hundredths cX4_hundredths 2 (some .int), .constantLong RX4 225 (100)] ++ wsX40 ++ wsX20)
def wsX4_payBack : List Cond := .code yX4_payBack cX4_payBack 4 none :: ([.fieldLink RX4 15 "KeyBox$Year" "ofMember" "[[I", .methodLink RX4 192 Lib.Math.min.name, .static Lib.Math.min.name, .initialized "java/lang/Math", .code Lib.Math.min.name Lib.Math.min.code 2 (some .int), .fieldLink RX4 21 "KeyBox$Year" "sums" "[I"] ++ wsX40)
def wsX4_doEntryOfOneThere_r1 : List Cond := [Cond.methodLink RX4 183 yX4_buy, Cond.instanceMethod yX4_buy, Cond.selects RX4 yX4_buy yX4_buy, Cond.initialized RX4, Cond.code yX4_buy cX4_buy 4 none, Cond.fieldLink RX4 50 "KeyBox$Year" "ruleSet" "LKeyBox$RuleSet;", Cond.fieldLink RX4 34 "KeyBox$Year" "boughtToday" "[I", Cond.methodLink RX4 192 Lib.Math.min.name, Cond.static Lib.Math.min.name, Cond.initialized "java/lang/Math", Cond.code Lib.Math.min.name Lib.Math.min.code 2 (some .int), Cond.fieldLink RX4 15 "KeyBox$Year" "ofMember" "[[I", Cond.fieldLink RX4 21 "KeyBox$Year" "sums" "[I", Cond.methodLink RX4 139 yX2_of, Cond.instanceMethod yX2_of, Cond.selects RX2 yX2_of yX2_of, Cond.initialized RX2, Cond.code yX2_of cX2_of 2 (some .int), Cond.fieldLink RX2 20 "KeyBox$RuleSet" "values" "[I", Cond.methodLink RX4 186 yX4_ask, Cond.instanceMethod yX4_ask, Cond.selects RX4 yX4_ask yX4_ask, Cond.code yX4_ask cX4_ask 5 none, Cond.fieldLink RX4 37 "KeyBox$Year" "asked" "[I"]
def wsX4_doEntryOfOneThere_r2 : List Cond := [Cond.fieldLink RX4 75 "KeyBox$Year" "queued" "I", Cond.fieldLink RX4 40 "KeyBox$Year" "queue" "[I", Cond.methodLink RX4 168 yX4_hundredths, Cond.static yX4_hundredths, Cond.code yX4_hundredths cX4_hundredths 2 (some .int), Cond.constantLong RX4 225 (100), Cond.methodLink RX4 189 yX4_payBack, Cond.instanceMethod yX4_payBack, Cond.selects RX4 yX4_payBack yX4_payBack, Cond.code yX4_payBack cX4_payBack 4 none, Cond.methodLink RX4 160 yX4_payDue, Cond.instanceMethod yX4_payDue, Cond.selects RX4 yX4_payDue yX4_payDue, Cond.code yX4_payDue cX4_payDue 4 none]
def wsX4_doEntryOfOneThere : List Cond := .code yX4_doEntryOfOneThere cX4_doEntryOfOneThere 4 none :: ((wsX4_doEntryOfOneThere_r1 ++ wsX4_doEntryOfOneThere_r2) ++ wsX40 ++ wsX20)
def wsX4_doEntry_r1 : List Cond := [Cond.fieldLink RX4 21 "KeyBox$Year" "sums" "[I", Cond.fieldLink RX4 50 "KeyBox$Year" "ruleSet" "LKeyBox$RuleSet;", Cond.methodLink RX4 174 yX4_takeFrom, Cond.instanceMethod yX4_takeFrom, Cond.selects RX4 yX4_takeFrom yX4_takeFrom, Cond.initialized RX4, Cond.code yX4_takeFrom cX4_takeFrom 4 (some .int), Cond.methodLink RX4 192 Lib.Math.min.name, Cond.static Lib.Math.min.name, Cond.initialized "java/lang/Math", Cond.code Lib.Math.min.name Lib.Math.min.code 2 (some .int), Cond.methodLink RX4 148 yX4_isGone, Cond.instanceMethod yX4_isGone, Cond.selects RX4 yX4_isGone yX4_isGone, Cond.code yX4_isGone cX4_isGone 2 (some .boolean), Cond.fieldLink RX4 15 "KeyBox$Year" "ofMember" "[[I", Cond.methodLink RX4 139 yX2_of, Cond.instanceMethod yX2_of, Cond.selects RX2 yX2_of yX2_of, Cond.initialized RX2, Cond.code yX2_of cX2_of 2 (some .int), Cond.fieldLink RX2 20 "KeyBox$RuleSet" "values" "[I", Cond.methodLink RX4 177 yX4_leave, Cond.instanceMethod yX4_leave]
def wsX4_doEntry_r2 : List Cond := [Cond.selects RX4 yX4_leave yX4_leave, Cond.code yX4_leave cX4_leave 4 none, Cond.methodLink RX4 142 Lib.Math.max.name, Cond.static Lib.Math.max.name, Cond.code Lib.Math.max.name Lib.Math.max.code 2 (some .int), Cond.fieldLink RX4 37 "KeyBox$Year" "asked" "[I", Cond.methodLink RX4 195 yX4_total, Cond.instanceMethod yX4_total, Cond.selects RX4 yX4_total yX4_total, Cond.code yX4_total cX4_total 4 (some .int), Cond.fieldLink RX4 46 "KeyBox$Year" "log" "LKeyBox$Log;", Cond.methodLink RX4 198 yX4_partOf, Cond.static yX4_partOf, Cond.code yX4_partOf cX4_partOf 3 (some .int), Cond.methodLink RX4 202 yX4_closeQueue, Cond.instanceMethod yX4_closeQueue, Cond.selects RX4 yX4_closeQueue yX4_closeQueue, Cond.code yX4_closeQueue cX4_closeQueue 3 none, Cond.fieldLink RX4 75 "KeyBox$Year" "queued" "I", Cond.fieldLink RX4 40 "KeyBox$Year" "queue" "[I", Cond.methodLink RX4 157 yX4_isThere, Cond.instanceMethod yX4_isThere, Cond.selects RX4 yX4_isThere yX4_isThere, Cond.code yX4_isThere cX4_isThere 2 (some .boolean)]
def wsX4_doEntry_r3 : List Cond := [Cond.fieldLink RX4 95 "KeyBox$Year" "there" "I", Cond.methodLink RX4 180 yX4_doEntryOfOneThere, Cond.instanceMethod yX4_doEntryOfOneThere, Cond.selects RX4 yX4_doEntryOfOneThere yX4_doEntryOfOneThere, Cond.code yX4_doEntryOfOneThere cX4_doEntryOfOneThere 4 none, Cond.methodLink RX4 183 yX4_buy, Cond.instanceMethod yX4_buy, Cond.selects RX4 yX4_buy yX4_buy, Cond.code yX4_buy cX4_buy 4 none, Cond.fieldLink RX4 34 "KeyBox$Year" "boughtToday" "[I", Cond.methodLink RX4 186 yX4_ask, Cond.instanceMethod yX4_ask, Cond.selects RX4 yX4_ask yX4_ask, Cond.code yX4_ask cX4_ask 5 none, Cond.methodLink RX4 168 yX4_hundredths, Cond.static yX4_hundredths, Cond.code yX4_hundredths cX4_hundredths 2 (some .int), Cond.constantLong RX4 225 (100), Cond.methodLink RX4 189 yX4_payBack, Cond.instanceMethod yX4_payBack, Cond.selects RX4 yX4_payBack yX4_payBack, Cond.code yX4_payBack cX4_payBack 4 none, Cond.methodLink RX4 160 yX4_payDue, Cond.instanceMethod yX4_payDue]
def wsX4_doEntry_r4 : List Cond := [Cond.selects RX4 yX4_payDue yX4_payDue, Cond.code yX4_payDue cX4_payDue 4 none]
def wsX4_doEntry : List Cond := .code yX4_doEntry cX4_doEntry 5 none :: ((wsX4_doEntry_r1 ++ (wsX4_doEntry_r2 ++ (wsX4_doEntry_r3 ++ wsX4_doEntry_r4))) ++ wsX40 ++ wsX20 ++ wsX00)
def wsX4_goesAhead : List Cond := .code yX4_goesAhead cX4_goesAhead 3 (some .boolean) :: ([.fieldLink RX4 50 "KeyBox$Year" "ruleSet" "LKeyBox$RuleSet;", .fieldLink RX4 37 "KeyBox$Year" "asked" "[I", .fieldLink RX4 15 "KeyBox$Year" "ofMember" "[[I", .methodLink RX4 139 yX2_of, .instanceMethod yX2_of, .selects RX2 yX2_of yX2_of, .initialized RX2, .code yX2_of cX2_of 2 (some .int), .fieldLink RX2 20 "KeyBox$RuleSet" "values" "[I"] ++ wsX40 ++ wsX20)
def wsX4_lineUp : List Cond := .code yX4_lineUp cX4_lineUp 4 none :: ([.fieldLink RX4 75 "KeyBox$Year" "queued" "I", .fieldLink RX4 40 "KeyBox$Year" "queue" "[I", .fieldLink RX4 43 "KeyBox$Year" "servingOrder" "[I", .methodLink RX4 211 yX4_goesAhead, .instanceMethod yX4_goesAhead, .selects RX4 yX4_goesAhead yX4_goesAhead, .initialized RX4, .code yX4_goesAhead cX4_goesAhead 3 (some .boolean), .fieldLink RX4 50 "KeyBox$Year" "ruleSet" "LKeyBox$RuleSet;", .fieldLink RX4 37 "KeyBox$Year" "asked" "[I", .fieldLink RX4 15 "KeyBox$Year" "ofMember" "[[I", .methodLink RX4 139 yX2_of, .instanceMethod yX2_of, .selects RX2 yX2_of yX2_of, .initialized RX2, .code yX2_of cX2_of 2 (some .int), .fieldLink RX2 20 "KeyBox$RuleSet" "values" "[I"] ++ wsX40 ++ wsX20)
def wsX4_lend : List Cond := .code yX4_lend cX4_lend 4 none :: ([.fieldLink RX4 37 "KeyBox$Year" "asked" "[I", .fieldLink RX4 21 "KeyBox$Year" "sums" "[I", .fieldLink RX4 15 "KeyBox$Year" "ofMember" "[[I", .fieldLink RX4 28 "KeyBox$Year" "givenInWeek" "[I", .fieldLink RX4 89 "KeyBox$Year" "week" "I", .fieldLink RX4 31 "KeyBox$Year" "reckonedToWeek" "[I", .fieldLink RX4 50 "KeyBox$Year" "ruleSet" "LKeyBox$RuleSet;", .methodLink RX4 139 yX2_of, .instanceMethod yX2_of, .selects RX2 yX2_of yX2_of, .initialized RX2, .code yX2_of cX2_of 2 (some .int), .fieldLink RX2 20 "KeyBox$RuleSet" "values" "[I", .methodLink RX4 168 yX4_hundredths, .static yX4_hundredths, .initialized RX4, .code yX4_hundredths cX4_hundredths 2 (some .int), .constantLong RX4 225 (100), .methodLink RX4 171 yX4_putInterest, .instanceMethod yX4_putInterest, .selects RX4 yX4_putInterest yX4_putInterest, .code yX4_putInterest cX4_putInterest 3 none] ++ wsX40 ++ wsX20)
def wsX4_serveQueue_r1 : List Cond := [Cond.fieldLink RX4 75 "KeyBox$Year" "queued" "I", Cond.fieldLink RX4 43 "KeyBox$Year" "servingOrder" "[I", Cond.fieldLink RX4 37 "KeyBox$Year" "asked" "[I", Cond.fieldLink RX4 21 "KeyBox$Year" "sums" "[I", Cond.fieldLink RX4 15 "KeyBox$Year" "ofMember" "[[I", Cond.methodLink RX4 205 yX4_lineUp, Cond.instanceMethod yX4_lineUp, Cond.selects RX4 yX4_lineUp yX4_lineUp, Cond.initialized RX4, Cond.code yX4_lineUp cX4_lineUp 4 none, Cond.fieldLink RX4 40 "KeyBox$Year" "queue" "[I", Cond.methodLink RX4 211 yX4_goesAhead, Cond.instanceMethod yX4_goesAhead, Cond.selects RX4 yX4_goesAhead yX4_goesAhead, Cond.code yX4_goesAhead cX4_goesAhead 3 (some .boolean), Cond.fieldLink RX4 50 "KeyBox$Year" "ruleSet" "LKeyBox$RuleSet;", Cond.methodLink RX4 139 yX2_of, Cond.instanceMethod yX2_of, Cond.selects RX2 yX2_of yX2_of, Cond.initialized RX2, Cond.code yX2_of cX2_of 2 (some .int), Cond.fieldLink RX2 20 "KeyBox$RuleSet" "values" "[I", Cond.methodLink RX4 208 yX4_lend, Cond.instanceMethod yX4_lend]
def wsX4_serveQueue_r2 : List Cond := [Cond.selects RX4 yX4_lend yX4_lend, Cond.code yX4_lend cX4_lend 4 none, Cond.fieldLink RX4 28 "KeyBox$Year" "givenInWeek" "[I", Cond.fieldLink RX4 89 "KeyBox$Year" "week" "I", Cond.fieldLink RX4 31 "KeyBox$Year" "reckonedToWeek" "[I", Cond.methodLink RX4 168 yX4_hundredths, Cond.static yX4_hundredths, Cond.code yX4_hundredths cX4_hundredths 2 (some .int), Cond.constantLong RX4 225 (100), Cond.methodLink RX4 171 yX4_putInterest, Cond.instanceMethod yX4_putInterest, Cond.selects RX4 yX4_putInterest yX4_putInterest, Cond.code yX4_putInterest cX4_putInterest 3 none, Cond.methodLink RX4 202 yX4_closeQueue, Cond.instanceMethod yX4_closeQueue, Cond.selects RX4 yX4_closeQueue yX4_closeQueue, Cond.code yX4_closeQueue cX4_closeQueue 3 none]
def wsX4_serveQueue : List Cond := .code yX4_serveQueue cX4_serveQueue 3 none :: ((wsX4_serveQueue_r1 ++ wsX4_serveQueue_r2) ++ wsX40 ++ wsX20)
def wsX4_writeDown : List Cond := .code yX4_writeDown cX4_writeDown 4 none :: ([.fieldLink RX4 21 "KeyBox$Year" "sums" "[I", .fieldLink RX4 18 "KeyBox$Year" "ofMeeting" "[[I", .fieldLink RX4 89 "KeyBox$Year" "week" "I", .fieldLink RX4 75 "KeyBox$Year" "queued" "I", .fieldLink RX4 25 "KeyBox$Year" "keys" "[I", .methodLink RX4 195 yX4_total, .instanceMethod yX4_total, .selects RX4 yX4_total yX4_total, .initialized RX4, .code yX4_total cX4_total 4 (some .int), .fieldLink RX4 46 "KeyBox$Year" "log" "LKeyBox$Log;", .fieldLink RX4 15 "KeyBox$Year" "ofMember" "[[I"] ++ wsX40 ++ wsX00)
def wsX4_playMeeting_r1 : List Cond := [Cond.fieldLink RX4 46 "KeyBox$Year" "log" "LKeyBox$Log;", Cond.fieldLink RX4 89 "KeyBox$Year" "week" "I", Cond.fieldLink RX4 95 "KeyBox$Year" "there" "I", Cond.fieldLink RX4 34 "KeyBox$Year" "boughtToday" "[I", Cond.methodLink RX4 78 yX0_isMeeting, Cond.instanceMethod yX0_isMeeting, Cond.selects RX0 yX0_isMeeting yX0_isMeeting, Cond.initialized RX0, Cond.code yX0_isMeeting cX0_isMeeting 2 (some .boolean), Cond.fieldLink RX0 28 "KeyBox$Log" "meetingCount" "I", Cond.methodLink RX4 82 yX0_startOf, Cond.instanceMethod yX0_startOf, Cond.selects RX0 yX0_startOf yX0_startOf, Cond.code yX0_startOf cX0_startOf 2 (some .int), Cond.fieldLink RX0 21 "KeyBox$Log" "starts" "[I", Cond.methodLink RX0 46 yX0_isMeeting, Cond.methodLink RX4 98 yX4_handOutKeys, Cond.instanceMethod yX4_handOutKeys, Cond.selects RX4 yX4_handOutKeys yX4_handOutKeys, Cond.initialized RX4, Cond.code yX4_handOutKeys cX4_handOutKeys 4 none, Cond.fieldLink RX4 50 "KeyBox$Year" "ruleSet" "LKeyBox$RuleSet;", Cond.fieldLink RX4 25 "KeyBox$Year" "keys" "[I", Cond.methodLink RX4 142 Lib.Math.max.name]
def wsX4_playMeeting_r2 : List Cond := [Cond.static Lib.Math.max.name, Cond.initialized "java/lang/Math", Cond.code Lib.Math.max.name Lib.Math.max.code 2 (some .int), Cond.methodLink RX4 139 yX2_of, Cond.instanceMethod yX2_of, Cond.selects RX2 yX2_of yX2_of, Cond.initialized RX2, Cond.code yX2_of cX2_of 2 (some .int), Cond.fieldLink RX2 20 "KeyBox$RuleSet" "values" "[I", Cond.methodLink RX4 148 yX4_isGone, Cond.instanceMethod yX4_isGone, Cond.selects RX4 yX4_isGone yX4_isGone, Cond.code yX4_isGone cX4_isGone 2 (some .boolean), Cond.fieldLink RX4 15 "KeyBox$Year" "ofMember" "[[I", Cond.methodLink RX4 151 yX4_nextWithoutKey, Cond.instanceMethod yX4_nextWithoutKey, Cond.selects RX4 yX4_nextWithoutKey yX4_nextWithoutKey, Cond.code yX4_nextWithoutKey cX4_nextWithoutKey 4 (some .int), Cond.methodLink RX4 154 yX4_hasKey, Cond.instanceMethod yX4_hasKey, Cond.selects RX4 yX4_hasKey yX4_hasKey, Cond.code yX4_hasKey cX4_hasKey 2 (some .boolean), Cond.methodLink RX4 101 yX4_isOpen, Cond.instanceMethod yX4_isOpen]
def wsX4_playMeeting_r3 : List Cond := [Cond.selects RX4 yX4_isOpen yX4_isOpen, Cond.code yX4_isOpen cX4_isOpen 3 (some .boolean), Cond.methodLink RX4 157 yX4_isThere, Cond.instanceMethod yX4_isThere, Cond.selects RX4 yX4_isThere yX4_isThere, Cond.code yX4_isThere cX4_isThere 2 (some .boolean), Cond.methodLink RX4 105 yX4_collectDues, Cond.instanceMethod yX4_collectDues, Cond.selects RX4 yX4_collectDues yX4_collectDues, Cond.code yX4_collectDues cX4_collectDues 2 none, Cond.methodLink RX4 160 yX4_payDue, Cond.instanceMethod yX4_payDue, Cond.selects RX4 yX4_payDue yX4_payDue, Cond.code yX4_payDue cX4_payDue 4 none, Cond.fieldLink RX4 21 "KeyBox$Year" "sums" "[I", Cond.methodLink RX4 108 yX4_growFallingLoans, Cond.instanceMethod yX4_growFallingLoans, Cond.selects RX4 yX4_growFallingLoans yX4_growFallingLoans, Cond.code yX4_growFallingLoans cX4_growFallingLoans 3 none, Cond.methodLink RX4 164 yX4_growFallingLoan, Cond.instanceMethod yX4_growFallingLoan, Cond.selects RX4 yX4_growFallingLoan yX4_growFallingLoan, Cond.code yX4_growFallingLoan cX4_growFallingLoan 4 none, Cond.fieldLink RX4 31 "KeyBox$Year" "reckonedToWeek" "[I"]
def wsX4_playMeeting_r4 : List Cond := [Cond.methodLink RX4 168 yX4_hundredths, Cond.static yX4_hundredths, Cond.code yX4_hundredths cX4_hundredths 2 (some .int), Cond.constantLong RX4 225 (100), Cond.methodLink RX4 171 yX4_putInterest, Cond.instanceMethod yX4_putInterest, Cond.selects RX4 yX4_putInterest yX4_putInterest, Cond.code yX4_putInterest cX4_putInterest 3 none, Cond.methodLink RX4 111 yX4_collectLateDues, Cond.instanceMethod yX4_collectLateDues, Cond.selects RX4 yX4_collectLateDues yX4_collectLateDues, Cond.code yX4_collectLateDues cX4_collectLateDues 2 none, Cond.fieldLink RX4 28 "KeyBox$Year" "givenInWeek" "[I", Cond.methodLink RX4 69 yJ7_fill_53178, Cond.static yJ7_fill_53178, Cond.initialized RJ7, Cond.code yJ7_fill_53178 cJ7_fill_53178 4 none, Cond.methodLink RX4 114 yX0_endOf, Cond.instanceMethod yX0_endOf, Cond.selects RX0 yX0_endOf yX0_endOf, Cond.code yX0_endOf cX0_endOf 2 (some .int), Cond.fieldLink RX0 31 "KeyBox$Log" "size" "I", Cond.methodLink RX4 120 yX4_doEntry, Cond.instanceMethod yX4_doEntry]
def wsX4_playMeeting_r5 : List Cond := [Cond.selects RX4 yX4_doEntry yX4_doEntry, Cond.code yX4_doEntry cX4_doEntry 5 none, Cond.methodLink RX4 174 yX4_takeFrom, Cond.instanceMethod yX4_takeFrom, Cond.selects RX4 yX4_takeFrom yX4_takeFrom, Cond.code yX4_takeFrom cX4_takeFrom 4 (some .int), Cond.methodLink RX4 192 Lib.Math.min.name, Cond.static Lib.Math.min.name, Cond.code Lib.Math.min.name Lib.Math.min.code 2 (some .int), Cond.methodLink RX4 177 yX4_leave, Cond.instanceMethod yX4_leave, Cond.selects RX4 yX4_leave yX4_leave, Cond.code yX4_leave cX4_leave 4 none, Cond.fieldLink RX4 37 "KeyBox$Year" "asked" "[I", Cond.methodLink RX4 195 yX4_total, Cond.instanceMethod yX4_total, Cond.selects RX4 yX4_total yX4_total, Cond.code yX4_total cX4_total 4 (some .int), Cond.methodLink RX4 198 yX4_partOf, Cond.static yX4_partOf, Cond.code yX4_partOf cX4_partOf 3 (some .int), Cond.methodLink RX4 202 yX4_closeQueue, Cond.instanceMethod yX4_closeQueue, Cond.selects RX4 yX4_closeQueue yX4_closeQueue]
def wsX4_playMeeting_r6 : List Cond := [Cond.code yX4_closeQueue cX4_closeQueue 3 none, Cond.fieldLink RX4 75 "KeyBox$Year" "queued" "I", Cond.fieldLink RX4 40 "KeyBox$Year" "queue" "[I", Cond.methodLink RX4 180 yX4_doEntryOfOneThere, Cond.instanceMethod yX4_doEntryOfOneThere, Cond.selects RX4 yX4_doEntryOfOneThere yX4_doEntryOfOneThere, Cond.code yX4_doEntryOfOneThere cX4_doEntryOfOneThere 4 none, Cond.methodLink RX4 183 yX4_buy, Cond.instanceMethod yX4_buy, Cond.selects RX4 yX4_buy yX4_buy, Cond.code yX4_buy cX4_buy 4 none, Cond.methodLink RX4 186 yX4_ask, Cond.instanceMethod yX4_ask, Cond.selects RX4 yX4_ask yX4_ask, Cond.code yX4_ask cX4_ask 5 none, Cond.methodLink RX4 189 yX4_payBack, Cond.instanceMethod yX4_payBack, Cond.selects RX4 yX4_payBack yX4_payBack, Cond.code yX4_payBack cX4_payBack 4 none, Cond.methodLink RX4 124 yX4_serveQueue, Cond.instanceMethod yX4_serveQueue, Cond.selects RX4 yX4_serveQueue yX4_serveQueue, Cond.code yX4_serveQueue cX4_serveQueue 3 none, Cond.fieldLink RX4 43 "KeyBox$Year" "servingOrder" "[I"]
def wsX4_playMeeting_r7 : List Cond := [Cond.methodLink RX4 205 yX4_lineUp, Cond.instanceMethod yX4_lineUp, Cond.selects RX4 yX4_lineUp yX4_lineUp, Cond.code yX4_lineUp cX4_lineUp 4 none, Cond.methodLink RX4 211 yX4_goesAhead, Cond.instanceMethod yX4_goesAhead, Cond.selects RX4 yX4_goesAhead yX4_goesAhead, Cond.code yX4_goesAhead cX4_goesAhead 3 (some .boolean), Cond.methodLink RX4 208 yX4_lend, Cond.instanceMethod yX4_lend, Cond.selects RX4 yX4_lend yX4_lend, Cond.code yX4_lend cX4_lend 4 none, Cond.methodLink RX4 127 yX4_writeDown, Cond.instanceMethod yX4_writeDown, Cond.selects RX4 yX4_writeDown yX4_writeDown, Cond.code yX4_writeDown cX4_writeDown 4 none, Cond.fieldLink RX4 18 "KeyBox$Year" "ofMeeting" "[[I"]
def wsX4_playMeeting : List Cond := .code yX4_playMeeting cX4_playMeeting 6 none :: ((wsX4_playMeeting_r1 ++ (wsX4_playMeeting_r2 ++ (wsX4_playMeeting_r3 ++ (wsX4_playMeeting_r4 ++ (wsX4_playMeeting_r5 ++ (wsX4_playMeeting_r6 ++ wsX4_playMeeting_r7)))))) ++ wsX40 ++ wsX00 ++ wsX20)
def wsX4_reckonShares : List Cond := .code yX4_reckonShares cX4_reckonShares 4 none :: ([.fieldLink RX4 46 "KeyBox$Year" "log" "LKeyBox$Log;", .fieldLink RX4 15 "KeyBox$Year" "ofMember" "[[I", .fieldLink RX4 21 "KeyBox$Year" "sums" "[I", .methodLink RX4 198 yX4_partOf, .static yX4_partOf, .initialized RX4, .code yX4_partOf cX4_partOf 3 (some .int)] ++ wsX40 ++ wsX00)
def wsX4_lowestOverShare : List Cond := .code yX4_lowestOverShare cX4_lowestOverShare 2 (some .int) :: ([.fieldLink RX4 46 "KeyBox$Year" "log" "LKeyBox$Log;", .fieldLink RX4 15 "KeyBox$Year" "ofMember" "[[I"] ++ wsX40 ++ wsX00)
def wsX4_payOut : List Cond := .code yX4_payOut cX4_payOut 2 none :: ([.fieldLink RX4 21 "KeyBox$Year" "sums" "[I", .fieldLink RX4 46 "KeyBox$Year" "log" "LKeyBox$Log;", .fieldLink RX4 15 "KeyBox$Year" "ofMember" "[[I"] ++ wsX40 ++ wsX00)
def wsX4_part : List Cond := .code yX4_part cX4_part 4 none :: ([.fieldLink RX4 21 "KeyBox$Year" "sums" "[I", .fieldLink RX4 46 "KeyBox$Year" "log" "LKeyBox$Log;", .fieldLink RX4 15 "KeyBox$Year" "ofMember" "[[I", .methodLink RX4 195 yX4_total, .instanceMethod yX4_total, .selects RX4 yX4_total yX4_total, .initialized RX4, .code yX4_total cX4_total 4 (some .int), .methodLink RX4 215 yX4_reckonShares, .instanceMethod yX4_reckonShares, .selects RX4 yX4_reckonShares yX4_reckonShares, .code yX4_reckonShares cX4_reckonShares 4 none, .methodLink RX4 198 yX4_partOf, .static yX4_partOf, .code yX4_partOf cX4_partOf 3 (some .int), .methodLink RX4 218 yX4_lowestOverShare, .instanceMethod yX4_lowestOverShare, .selects RX4 yX4_lowestOverShare yX4_lowestOverShare, .code yX4_lowestOverShare cX4_lowestOverShare 2 (some .int), .methodLink RX4 222 yX4_payOut, .instanceMethod yX4_payOut, .selects RX4 yX4_payOut yX4_payOut, .code yX4_payOut cX4_payOut 2 none] ++ wsX40 ++ wsX00)
def wsX4_playAll_r1 : List Cond := [Cond.fieldLink RX4 46 "KeyBox$Year" "log" "LKeyBox$Log;", Cond.methodLink RX4 54 yX4_begin, Cond.instanceMethod yX4_begin, Cond.selects RX4 yX4_begin yX4_begin, Cond.initialized RX4, Cond.code yX4_begin cX4_begin 3 none, Cond.fieldLink RX4 50 "KeyBox$Year" "ruleSet" "LKeyBox$RuleSet;", Cond.fieldLink RX4 15 "KeyBox$Year" "ofMember" "[[I", Cond.fieldLink RX4 21 "KeyBox$Year" "sums" "[I", Cond.fieldLink RX4 37 "KeyBox$Year" "asked" "[I", Cond.fieldLink RX4 75 "KeyBox$Year" "queued" "I", Cond.methodLink RX4 69 yJ7_fill_53178, Cond.static yJ7_fill_53178, Cond.initialized RJ7, Cond.code yJ7_fill_53178 cJ7_fill_53178 4 none, Cond.methodLink RX4 62 yX4_playMeeting, Cond.instanceMethod yX4_playMeeting, Cond.selects RX4 yX4_playMeeting yX4_playMeeting, Cond.code yX4_playMeeting cX4_playMeeting 6 none, Cond.fieldLink RX4 89 "KeyBox$Year" "week" "I", Cond.fieldLink RX4 95 "KeyBox$Year" "there" "I", Cond.fieldLink RX4 34 "KeyBox$Year" "boughtToday" "[I", Cond.methodLink RX4 78 yX0_isMeeting, Cond.instanceMethod yX0_isMeeting]
def wsX4_playAll_r2 : List Cond := [Cond.selects RX0 yX0_isMeeting yX0_isMeeting, Cond.initialized RX0, Cond.code yX0_isMeeting cX0_isMeeting 2 (some .boolean), Cond.fieldLink RX0 28 "KeyBox$Log" "meetingCount" "I", Cond.methodLink RX4 82 yX0_startOf, Cond.instanceMethod yX0_startOf, Cond.selects RX0 yX0_startOf yX0_startOf, Cond.code yX0_startOf cX0_startOf 2 (some .int), Cond.fieldLink RX0 21 "KeyBox$Log" "starts" "[I", Cond.methodLink RX0 46 yX0_isMeeting, Cond.methodLink RX4 98 yX4_handOutKeys, Cond.instanceMethod yX4_handOutKeys, Cond.selects RX4 yX4_handOutKeys yX4_handOutKeys, Cond.code yX4_handOutKeys cX4_handOutKeys 4 none, Cond.fieldLink RX4 25 "KeyBox$Year" "keys" "[I", Cond.methodLink RX4 142 Lib.Math.max.name, Cond.static Lib.Math.max.name, Cond.initialized "java/lang/Math", Cond.code Lib.Math.max.name Lib.Math.max.code 2 (some .int), Cond.methodLink RX4 139 yX2_of, Cond.instanceMethod yX2_of, Cond.selects RX2 yX2_of yX2_of, Cond.initialized RX2, Cond.code yX2_of cX2_of 2 (some .int)]
def wsX4_playAll_r3 : List Cond := [Cond.fieldLink RX2 20 "KeyBox$RuleSet" "values" "[I", Cond.methodLink RX4 148 yX4_isGone, Cond.instanceMethod yX4_isGone, Cond.selects RX4 yX4_isGone yX4_isGone, Cond.code yX4_isGone cX4_isGone 2 (some .boolean), Cond.methodLink RX4 151 yX4_nextWithoutKey, Cond.instanceMethod yX4_nextWithoutKey, Cond.selects RX4 yX4_nextWithoutKey yX4_nextWithoutKey, Cond.code yX4_nextWithoutKey cX4_nextWithoutKey 4 (some .int), Cond.methodLink RX4 154 yX4_hasKey, Cond.instanceMethod yX4_hasKey, Cond.selects RX4 yX4_hasKey yX4_hasKey, Cond.code yX4_hasKey cX4_hasKey 2 (some .boolean), Cond.methodLink RX4 101 yX4_isOpen, Cond.instanceMethod yX4_isOpen, Cond.selects RX4 yX4_isOpen yX4_isOpen, Cond.code yX4_isOpen cX4_isOpen 3 (some .boolean), Cond.methodLink RX4 157 yX4_isThere, Cond.instanceMethod yX4_isThere, Cond.selects RX4 yX4_isThere yX4_isThere, Cond.code yX4_isThere cX4_isThere 2 (some .boolean), Cond.methodLink RX4 105 yX4_collectDues, Cond.instanceMethod yX4_collectDues, Cond.selects RX4 yX4_collectDues yX4_collectDues]
def wsX4_playAll_r4 : List Cond := [Cond.code yX4_collectDues cX4_collectDues 2 none, Cond.methodLink RX4 160 yX4_payDue, Cond.instanceMethod yX4_payDue, Cond.selects RX4 yX4_payDue yX4_payDue, Cond.code yX4_payDue cX4_payDue 4 none, Cond.methodLink RX4 108 yX4_growFallingLoans, Cond.instanceMethod yX4_growFallingLoans, Cond.selects RX4 yX4_growFallingLoans yX4_growFallingLoans, Cond.code yX4_growFallingLoans cX4_growFallingLoans 3 none, Cond.methodLink RX4 164 yX4_growFallingLoan, Cond.instanceMethod yX4_growFallingLoan, Cond.selects RX4 yX4_growFallingLoan yX4_growFallingLoan, Cond.code yX4_growFallingLoan cX4_growFallingLoan 4 none, Cond.fieldLink RX4 31 "KeyBox$Year" "reckonedToWeek" "[I", Cond.methodLink RX4 168 yX4_hundredths, Cond.static yX4_hundredths, Cond.code yX4_hundredths cX4_hundredths 2 (some .int), Cond.constantLong RX4 225 (100), Cond.methodLink RX4 171 yX4_putInterest, Cond.instanceMethod yX4_putInterest, Cond.selects RX4 yX4_putInterest yX4_putInterest, Cond.code yX4_putInterest cX4_putInterest 3 none, Cond.methodLink RX4 111 yX4_collectLateDues, Cond.instanceMethod yX4_collectLateDues]
def wsX4_playAll_r5 : List Cond := [Cond.selects RX4 yX4_collectLateDues yX4_collectLateDues, Cond.code yX4_collectLateDues cX4_collectLateDues 2 none, Cond.fieldLink RX4 28 "KeyBox$Year" "givenInWeek" "[I", Cond.methodLink RX4 114 yX0_endOf, Cond.instanceMethod yX0_endOf, Cond.selects RX0 yX0_endOf yX0_endOf, Cond.code yX0_endOf cX0_endOf 2 (some .int), Cond.fieldLink RX0 31 "KeyBox$Log" "size" "I", Cond.methodLink RX4 120 yX4_doEntry, Cond.instanceMethod yX4_doEntry, Cond.selects RX4 yX4_doEntry yX4_doEntry, Cond.code yX4_doEntry cX4_doEntry 5 none, Cond.methodLink RX4 174 yX4_takeFrom, Cond.instanceMethod yX4_takeFrom, Cond.selects RX4 yX4_takeFrom yX4_takeFrom, Cond.code yX4_takeFrom cX4_takeFrom 4 (some .int), Cond.methodLink RX4 192 Lib.Math.min.name, Cond.static Lib.Math.min.name, Cond.code Lib.Math.min.name Lib.Math.min.code 2 (some .int), Cond.methodLink RX4 177 yX4_leave, Cond.instanceMethod yX4_leave, Cond.selects RX4 yX4_leave yX4_leave, Cond.code yX4_leave cX4_leave 4 none, Cond.methodLink RX4 195 yX4_total]
def wsX4_playAll_r6 : List Cond := [Cond.instanceMethod yX4_total, Cond.selects RX4 yX4_total yX4_total, Cond.code yX4_total cX4_total 4 (some .int), Cond.methodLink RX4 198 yX4_partOf, Cond.static yX4_partOf, Cond.code yX4_partOf cX4_partOf 3 (some .int), Cond.methodLink RX4 202 yX4_closeQueue, Cond.instanceMethod yX4_closeQueue, Cond.selects RX4 yX4_closeQueue yX4_closeQueue, Cond.code yX4_closeQueue cX4_closeQueue 3 none, Cond.fieldLink RX4 40 "KeyBox$Year" "queue" "[I", Cond.methodLink RX4 180 yX4_doEntryOfOneThere, Cond.instanceMethod yX4_doEntryOfOneThere, Cond.selects RX4 yX4_doEntryOfOneThere yX4_doEntryOfOneThere, Cond.code yX4_doEntryOfOneThere cX4_doEntryOfOneThere 4 none, Cond.methodLink RX4 183 yX4_buy, Cond.instanceMethod yX4_buy, Cond.selects RX4 yX4_buy yX4_buy, Cond.code yX4_buy cX4_buy 4 none, Cond.methodLink RX4 186 yX4_ask, Cond.instanceMethod yX4_ask, Cond.selects RX4 yX4_ask yX4_ask, Cond.code yX4_ask cX4_ask 5 none, Cond.methodLink RX4 189 yX4_payBack]
def wsX4_playAll_r7 : List Cond := [Cond.instanceMethod yX4_payBack, Cond.selects RX4 yX4_payBack yX4_payBack, Cond.code yX4_payBack cX4_payBack 4 none, Cond.methodLink RX4 124 yX4_serveQueue, Cond.instanceMethod yX4_serveQueue, Cond.selects RX4 yX4_serveQueue yX4_serveQueue, Cond.code yX4_serveQueue cX4_serveQueue 3 none, Cond.fieldLink RX4 43 "KeyBox$Year" "servingOrder" "[I", Cond.methodLink RX4 205 yX4_lineUp, Cond.instanceMethod yX4_lineUp, Cond.selects RX4 yX4_lineUp yX4_lineUp, Cond.code yX4_lineUp cX4_lineUp 4 none, Cond.methodLink RX4 211 yX4_goesAhead, Cond.instanceMethod yX4_goesAhead, Cond.selects RX4 yX4_goesAhead yX4_goesAhead, Cond.code yX4_goesAhead cX4_goesAhead 3 (some .boolean), Cond.methodLink RX4 208 yX4_lend, Cond.instanceMethod yX4_lend, Cond.selects RX4 yX4_lend yX4_lend, Cond.code yX4_lend cX4_lend 4 none, Cond.methodLink RX4 127 yX4_writeDown, Cond.instanceMethod yX4_writeDown, Cond.selects RX4 yX4_writeDown yX4_writeDown, Cond.code yX4_writeDown cX4_writeDown 4 none]
def wsX4_playAll_r8 : List Cond := [Cond.fieldLink RX4 18 "KeyBox$Year" "ofMeeting" "[[I", Cond.methodLink RX4 66 yX4_part, Cond.instanceMethod yX4_part, Cond.selects RX4 yX4_part yX4_part, Cond.code yX4_part cX4_part 4 none, Cond.methodLink RX4 215 yX4_reckonShares, Cond.instanceMethod yX4_reckonShares, Cond.selects RX4 yX4_reckonShares yX4_reckonShares, Cond.code yX4_reckonShares cX4_reckonShares 4 none, Cond.methodLink RX4 218 yX4_lowestOverShare, Cond.instanceMethod yX4_lowestOverShare, Cond.selects RX4 yX4_lowestOverShare yX4_lowestOverShare, Cond.code yX4_lowestOverShare cX4_lowestOverShare 2 (some .int), Cond.methodLink RX4 222 yX4_payOut, Cond.instanceMethod yX4_payOut, Cond.selects RX4 yX4_payOut yX4_payOut, Cond.code yX4_payOut cX4_payOut 2 none]
def wsX4_playAll : List Cond := .code yX4_playAll cX4_playAll 3 none :: ((wsX4_playAll_r1 ++ (wsX4_playAll_r2 ++ (wsX4_playAll_r3 ++ (wsX4_playAll_r4 ++ (wsX4_playAll_r5 ++ (wsX4_playAll_r6 ++ (wsX4_playAll_r7 ++ wsX4_playAll_r8))))))) ++ wsX40 ++ wsX00 ++ wsX20)
def wsX4_differsFrom : List Cond := .code yX4_differsFrom cX4_differsFrom 3 (some .boolean) :: ([.fieldLink RX4 21 "KeyBox$Year" "sums" "[I", .fieldLink RX4 46 "KeyBox$Year" "log" "LKeyBox$Log;", .fieldLink RX4 15 "KeyBox$Year" "ofMember" "[[I"] ++ wsX40 ++ wsX00)
def wsX4_hasOfTheYear : List Cond := .code yX4_hasOfTheYear cX4_hasOfTheYear 4 (some .int) :: ([.fieldLink RX4 46 "KeyBox$Year" "log" "LKeyBox$Log;", .fieldLink RX4 15 "KeyBox$Year" "ofMember" "[[I", .fieldLink RX4 50 "KeyBox$Year" "ruleSet" "LKeyBox$RuleSet;", .methodLink RX4 134 yX0_isMember, .instanceMethod yX0_isMember, .selects RX0 yX0_isMember yX0_isMember, .initialized RX0, .code yX0_isMember cX0_isMember 2 (some .boolean), .fieldLink RX0 24 "KeyBox$Log" "memberCount" "I", .methodLink RX4 139 yX2_of, .instanceMethod yX2_of, .selects RX2 yX2_of yX2_of, .initialized RX2, .code yX2_of cX2_of 2 (some .int), .fieldLink RX2 20 "KeyBox$RuleSet" "values" "[I"] ++ wsX40 ++ wsX00 ++ wsX20)
def wsX5_init_r1 : List Cond := [Cond.methodLink RX5 1 objectInit, Cond.instanceMethod objectInit, Cond.code objectInit ⟨#[0xb1]⟩ 1 none, Cond.classLink RX5 7 RX3, Cond.instantiable RX3 2, Cond.initialized RX3, Cond.fieldLink RX5 10 "KeyBox" "tape" "LKeyBox$Tape;", Cond.classLink RX5 16 RX0, Cond.instantiable RX0 7, Cond.initialized RX0, Cond.fieldLink RX5 19 "KeyBox" "log" "LKeyBox$Log;", Cond.classLink RX5 23 RX2, Cond.fieldLink RX5 25 "KeyBox" "ruleSets" "[LKeyBox$RuleSet;", Cond.instantiable RX2 1, Cond.initialized RX2, Cond.classLink RX5 30 RX1, Cond.instantiable RX1 8, Cond.initialized RX1, Cond.fieldLink RX5 35 "KeyBox" "reader" "LKeyBox$RuleReader;", Cond.classLink RX5 39 RX4, Cond.instantiable RX4 15, Cond.initialized RX4, Cond.fieldLink RX5 44 "KeyBox" "latest" "LKeyBox$Year;", Cond.fieldLink RX5 48 "KeyBox" "oneYear" "LKeyBox$Year;"]
def wsX5_init_r2 : List Cond := [Cond.fieldLink RX5 51 "KeyBox" "otherYear" "LKeyBox$Year;", Cond.fieldLink RX5 54 "KeyBox" "playedLatest" "I", Cond.instanceMethod yX3_init, Cond.code yX3_init cX3_init 1 none, Cond.methodLink RX3 3 objectInit, Cond.arrayClass .byte, Cond.fieldLink RX3 11 "KeyBox$Tape" "bytes" "[B", Cond.instanceMethod yX0_init, Cond.code yX0_init cX0_init 1 none, Cond.methodLink RX0 3 objectInit, Cond.arrayClass .int, Cond.fieldLink RX0 11 "KeyBox$Log" "kinds" "[I", Cond.fieldLink RX0 15 "KeyBox$Log" "whos" "[I", Cond.fieldLink RX0 18 "KeyBox$Log" "amounts" "[I", Cond.fieldLink RX0 21 "KeyBox$Log" "starts" "[I", Cond.fieldLink RX0 24 "KeyBox$Log" "memberCount" "I", Cond.instanceMethod yX2_init, Cond.code yX2_init cX2_init 1 none, Cond.methodLink RX2 3 objectInit, Cond.fieldLink RX2 9 "KeyBox$RuleSet" "UNTOLD" "[I", Cond.methodLink RX2 15 ⟨"[I", "clone", "()Ljava/lang/Object;"⟩, Cond.sameMethod "[I" "java/lang/Object" "clone" "()Ljava/lang/Object;", Cond.native ⟨"java/lang/Object", "clone", "()Ljava/lang/Object;"⟩, Cond.instanceMethod ⟨"java/lang/Object", "clone", "()Ljava/lang/Object;"⟩]
def wsX5_init_r3 : List Cond := [Cond.selects "[I" ⟨"[I", "clone", "()Ljava/lang/Object;"⟩ ⟨"java/lang/Object", "clone", "()Ljava/lang/Object;"⟩, Cond.classLink RX2 16 "[I", Cond.fieldLink RX2 20 "KeyBox$RuleSet" "values" "[I", Cond.methodLink RX5 32 yX1_init, Cond.instanceMethod yX1_init, Cond.code yX1_init cX1_init 2 none, Cond.methodLink RX1 3 objectInit, Cond.classLink RX1 9 RX2, Cond.fieldLink RX1 12 "KeyBox$RuleReader" "draft" "LKeyBox$RuleSet;", Cond.arrayClass .boolean, Cond.fieldLink RX1 18 "KeyBox$RuleReader" "told" "[Z", Cond.fieldLink RX1 22 "KeyBox$RuleReader" "faultPlace" "I", Cond.fieldLink RX1 26 "KeyBox$RuleReader" "tape" "LKeyBox$Tape;", Cond.methodLink RX5 41 yX4_init, Cond.instanceMethod yX4_init, Cond.code yX4_init cX4_init 3 none, Cond.methodLink RX4 3 objectInit, Cond.classLink RX4 13 "[[I", Cond.fieldLink RX4 15 "KeyBox$Year" "ofMember" "[[I", Cond.fieldLink RX4 18 "KeyBox$Year" "ofMeeting" "[[I", Cond.fieldLink RX4 21 "KeyBox$Year" "sums" "[I", Cond.fieldLink RX4 25 "KeyBox$Year" "keys" "[I", Cond.fieldLink RX4 28 "KeyBox$Year" "givenInWeek" "[I", Cond.fieldLink RX4 31 "KeyBox$Year" "reckonedToWeek" "[I"]
def wsX5_init_r4 : List Cond := [Cond.fieldLink RX4 34 "KeyBox$Year" "boughtToday" "[I", Cond.fieldLink RX4 37 "KeyBox$Year" "asked" "[I", Cond.fieldLink RX4 40 "KeyBox$Year" "queue" "[I", Cond.fieldLink RX4 43 "KeyBox$Year" "servingOrder" "[I", Cond.fieldLink RX4 46 "KeyBox$Year" "log" "LKeyBox$Log;", Cond.fieldLink RX4 50 "KeyBox$Year" "ruleSet" "LKeyBox$RuleSet;"]
def wsX5_init : List Cond := .code yX5_init cX5_init 2 none :: ((wsX5_init_r1 ++ (wsX5_init_r2 ++ (wsX5_init_r3 ++ wsX5_init_r4))) ++ wsX30 ++ wsX50 ++ wsX00 ++ wsX20 ++ wsX10 ++ wsX40)
def wsX5_feed : List Cond := .code yX5_feed cX5_feed 6 (some .int) :: ([.fieldLink RX5 10 "KeyBox" "tape" "LKeyBox$Tape;", .methodLink RX5 58 yX3_hasRoomFor, .instanceMethod yX3_hasRoomFor, .selects RX3 yX3_hasRoomFor yX3_hasRoomFor, .initialized RX3, .code yX3_hasRoomFor cX3_hasRoomFor 2 (some .boolean), .fieldLink RX3 15 "KeyBox$Tape" "length" "I", .methodLink RX5 62 yX3_append, .instanceMethod yX3_append, .selects RX3 yX3_append yX3_append, .code yX3_append cX3_append 3 none, .fieldLink RX3 11 "KeyBox$Tape" "bytes" "[B", .methodLink RX3 19 yX3_hasRoomFor] ++ wsX50 ++ wsX30)
def wsX5_end : List Cond := .code yX5_end cX5_end 2 (some .int) :: ([.fieldLink RX5 10 "KeyBox" "tape" "LKeyBox$Tape;"] ++ wsX50 ++ wsX30)
def wsX5_members : List Cond := .code yX5_members cX5_members 2 (some .int) :: ([.fieldLink RX5 19 "KeyBox" "log" "LKeyBox$Log;", .methodLink RX5 69 yX0_setMembers, .instanceMethod yX0_setMembers, .selects RX0 yX0_setMembers yX0_setMembers, .initialized RX0, .code yX0_setMembers cX0_setMembers 2 (some .int), .fieldLink RX0 31 "KeyBox$Log" "size" "I", .fieldLink RX0 24 "KeyBox$Log" "memberCount" "I"] ++ wsX50 ++ wsX00)
def wsX5_logChanged : List Cond := .code yX5_logChanged cX5_logChanged 2 (some .int) :: ([.fieldLink RX5 54 "KeyBox" "playedLatest" "I"] ++ wsX50)
def wsX5_meet_r1 : List Cond := [Cond.fieldLink RX5 19 "KeyBox" "log" "LKeyBox$Log;", Cond.methodLink RX5 73 yX0_addMeeting, Cond.instanceMethod yX0_addMeeting, Cond.selects RX0 yX0_addMeeting yX0_addMeeting, Cond.initialized RX0, Cond.code yX0_addMeeting cX0_addMeeting 3 (some .int), Cond.fieldLink RX0 24 "KeyBox$Log" "memberCount" "I", Cond.fieldLink RX0 31 "KeyBox$Log" "size" "I", Cond.fieldLink RX0 28 "KeyBox$Log" "meetingCount" "I", Cond.fieldLink RX0 21 "KeyBox$Log" "starts" "[I", Cond.methodLink RX0 34 yX0_latestWeek, Cond.instanceMethod yX0_latestWeek, Cond.selects RX0 yX0_latestWeek yX0_latestWeek, Cond.code yX0_latestWeek cX0_latestWeek 1 (some .int), Cond.fieldLink RX0 15 "KeyBox$Log" "whos" "[I", Cond.methodLink RX0 38 yX0_add, Cond.instanceMethod yX0_add, Cond.selects RX0 yX0_add yX0_add, Cond.code yX0_add cX0_add 4 (some .int), Cond.fieldLink RX0 11 "KeyBox$Log" "kinds" "[I", Cond.fieldLink RX0 18 "KeyBox$Log" "amounts" "[I", Cond.methodLink RX5 77 yX5_logChanged, Cond.instanceMethod yX5_logChanged, Cond.selects RX5 yX5_logChanged yX5_logChanged]
def wsX5_meet_r2 : List Cond := [Cond.initialized RX5, Cond.code yX5_logChanged cX5_logChanged 2 (some .int), Cond.fieldLink RX5 54 "KeyBox" "playedLatest" "I"]
def wsX5_meet : List Cond := .code yX5_meet cX5_meet 3 (some .int) :: ((wsX5_meet_r1 ++ wsX5_meet_r2) ++ wsX50 ++ wsX00)
def wsX5_enter_r1 : List Cond := [Cond.fieldLink RX5 19 "KeyBox" "log" "LKeyBox$Log;", Cond.methodLink RX5 80 yX0_addEntry, Cond.instanceMethod yX0_addEntry, Cond.selects RX0 yX0_addEntry yX0_addEntry, Cond.initialized RX0, Cond.code yX0_addEntry cX0_addEntry 4 (some .int), Cond.fieldLink RX0 28 "KeyBox$Log" "meetingCount" "I", Cond.fieldLink RX0 31 "KeyBox$Log" "size" "I", Cond.methodLink RX0 42 yX0_canBe, Cond.instanceMethod yX0_canBe, Cond.selects RX0 yX0_canBe yX0_canBe, Cond.code yX0_canBe cX0_canBe 4 (some .boolean), Cond.fieldLink RX0 50 "KeyBox$Log" "LEAST_N" "[I", Cond.fieldLink RX0 53 "KeyBox$Log" "MOST_N" "[I", Cond.methodLink RX0 56 yX0_isMember, Cond.instanceMethod yX0_isMember, Cond.selects RX0 yX0_isMember yX0_isMember, Cond.code yX0_isMember cX0_isMember 2 (some .boolean), Cond.fieldLink RX0 24 "KeyBox$Log" "memberCount" "I", Cond.methodLink RX0 38 yX0_add, Cond.instanceMethod yX0_add, Cond.selects RX0 yX0_add yX0_add, Cond.code yX0_add cX0_add 4 (some .int), Cond.fieldLink RX0 11 "KeyBox$Log" "kinds" "[I"]
def wsX5_enter_r2 : List Cond := [Cond.fieldLink RX0 15 "KeyBox$Log" "whos" "[I", Cond.fieldLink RX0 18 "KeyBox$Log" "amounts" "[I", Cond.methodLink RX5 77 yX5_logChanged, Cond.instanceMethod yX5_logChanged, Cond.selects RX5 yX5_logChanged yX5_logChanged, Cond.initialized RX5, Cond.code yX5_logChanged cX5_logChanged 2 (some .int), Cond.fieldLink RX5 54 "KeyBox" "playedLatest" "I"]
def wsX5_enter : List Cond := .code yX5_enter cX5_enter 4 (some .int) :: ((wsX5_enter_r1 ++ wsX5_enter_r2) ++ wsX50 ++ wsX00)
def wsX5_entry : List Cond := .code yX5_entry cX5_entry 3 (some .int) :: ([.fieldLink RX5 19 "KeyBox" "log" "LKeyBox$Log;", .methodLink RX5 84 yX0_read, .instanceMethod yX0_read, .selects RX0 yX0_read yX0_read, .initialized RX0, .code yX0_read cX0_read 3 (some .int), .fieldLink RX0 31 "KeyBox$Log" "size" "I", .fieldLink RX0 11 "KeyBox$Log" "kinds" "[I", .fieldLink RX0 15 "KeyBox$Log" "whos" "[I", .fieldLink RX0 18 "KeyBox$Log" "amounts" "[I"] ++ wsX50 ++ wsX00)
def wsX5_back : List Cond := .code yX5_back cX5_back 1 (some .int) :: ([.fieldLink RX5 19 "KeyBox" "log" "LKeyBox$Log;", .methodLink RX5 87 yX0_takeBack, .instanceMethod yX0_takeBack, .selects RX0 yX0_takeBack yX0_takeBack, .initialized RX0, .code yX0_takeBack cX0_takeBack 1 (some .int), .fieldLink RX0 31 "KeyBox$Log" "size" "I", .fieldLink RX0 11 "KeyBox$Log" "kinds" "[I", .fieldLink RX0 28 "KeyBox$Log" "meetingCount" "I", .methodLink RX5 77 yX5_logChanged, .instanceMethod yX5_logChanged, .selects RX5 yX5_logChanged yX5_logChanged, .initialized RX5, .code yX5_logChanged cX5_logChanged 2 (some .int), .fieldLink RX5 54 "KeyBox" "playedLatest" "I"] ++ wsX50 ++ wsX00)
def wsX5_isRuleSet : List Cond := .code yX5_isRuleSet cX5_isRuleSet 1 (some .boolean) :: ([])
def wsX5_rules_r1 : List Cond := [Cond.fieldLink RX5 35 "KeyBox" "reader" "LKeyBox$RuleReader;", Cond.fieldLink RX5 25 "KeyBox" "ruleSets" "[LKeyBox$RuleSet;", Cond.fieldLink RX5 10 "KeyBox" "tape" "LKeyBox$Tape;", Cond.fieldLink RX5 54 "KeyBox" "playedLatest" "I", Cond.methodLink RX5 91 yX5_isRuleSet, Cond.static yX5_isRuleSet, Cond.initialized RX5, Cond.code yX5_isRuleSet cX5_isRuleSet 1 (some .boolean), Cond.methodLink RX5 94 yX1_read, Cond.instanceMethod yX1_read, Cond.selects RX1 yX1_read yX1_read, Cond.initialized RX1, Cond.code yX1_read cX1_read 3 (some .int), Cond.fieldLink RX1 38 "KeyBox$RuleReader" "tokenKind" "I", Cond.fieldLink RX1 12 "KeyBox$RuleReader" "draft" "LKeyBox$RuleSet;", Cond.methodLink RX1 30 yX1_startAnew, Cond.instanceMethod yX1_startAnew, Cond.selects RX1 yX1_startAnew yX1_startAnew, Cond.code yX1_startAnew cX1_startAnew 2 none, Cond.fieldLink RX1 18 "KeyBox$RuleReader" "told" "[Z", Cond.fieldLink RX1 52 "KeyBox$RuleReader" "tokenEnd" "I", Cond.fieldLink RX1 55 "KeyBox$RuleReader" "faultKind" "I", Cond.fieldLink RX1 22 "KeyBox$RuleReader" "faultPlace" "I", Cond.methodLink RX1 49 yX2_forget]
def wsX5_rules_r2 : List Cond := [Cond.instanceMethod yX2_forget, Cond.selects RX2 yX2_forget yX2_forget, Cond.initialized RX2, Cond.code yX2_forget cX2_forget 1 none, Cond.fieldLink RX2 9 "KeyBox$RuleSet" "UNTOLD" "[I", Cond.fieldLink RX2 20 "KeyBox$RuleSet" "values" "[I", Cond.methodLink RX2 23 arraycopyName, Cond.native arraycopyName, Cond.static arraycopyName, Cond.initialized "java/lang/System", Cond.methodLink RX1 35 yX1_nextToken, Cond.instanceMethod yX1_nextToken, Cond.selects RX1 yX1_nextToken yX1_nextToken, Cond.code yX1_nextToken cX1_nextToken 1 none, Cond.fieldLink RX1 83 "KeyBox$RuleReader" "tokenStart" "I", Cond.methodLink RX1 110 yX1_behindRun, Cond.instanceMethod yX1_behindRun, Cond.selects RX1 yX1_behindRun yX1_behindRun, Cond.code yX1_behindRun cX1_behindRun 4 (some .int), Cond.fieldLink RX1 26 "KeyBox$RuleReader" "tape" "LKeyBox$Tape;", Cond.methodLink RX1 114 yX1_kindAt, Cond.instanceMethod yX1_kindAt, Cond.selects RX1 yX1_kindAt yX1_kindAt, Cond.code yX1_kindAt cX1_kindAt 3 (some .int)]
def wsX5_rules_r3 : List Cond := [Cond.methodLink RX1 97 yX3_at, Cond.instanceMethod yX3_at, Cond.selects RX3 yX3_at yX3_at, Cond.initialized RX3, Cond.code yX3_at cX3_at 2 (some .int), Cond.fieldLink RX3 15 "KeyBox$Tape" "length" "I", Cond.fieldLink RX3 11 "KeyBox$Tape" "bytes" "[B", Cond.methodLink RX1 41 yX2_copy, Cond.instanceMethod yX2_copy, Cond.selects RX2 yX2_copy yX2_copy, Cond.code yX2_copy cX2_copy 2 none, Cond.methodLink RX1 45 yX1_readLine, Cond.instanceMethod yX1_readLine, Cond.selects RX1 yX1_readLine yX1_readLine, Cond.code yX1_readLine cX1_readLine 3 (some .boolean), Cond.methodLink RX1 58 yX1_tokenAsTopic, Cond.instanceMethod yX1_tokenAsTopic, Cond.selects RX1 yX1_tokenAsTopic yX1_tokenAsTopic, Cond.code yX1_tokenAsTopic cX1_tokenAsTopic 2 (some .int), Cond.methodLink RX1 86 yX2_topicWord, Cond.static yX2_topicWord, Cond.code yX2_topicWord cX2_topicWord 1 (some (.object "java/lang/String")), Cond.methodLink RX1 90 yX1_tokenIs, Cond.instanceMethod yX1_tokenIs]
def wsX5_rules_r4 : List Cond := [Cond.selects RX1 yX1_tokenIs yX1_tokenIs, Cond.code yX1_tokenIs cX1_tokenIs 3 (some .boolean), Cond.methodLink RX1 101 yJ0_length_8abf5, Cond.instanceMethod yJ0_length_8abf5, Cond.selects RJ0 yJ0_length_8abf5 yJ0_length_8abf5, Cond.initialized RJ0, Cond.code yJ0_length_8abf5 cJ0_length_8abf5 1 (some .int), Cond.fieldLink RJ0 9 "java/lang/String" "value" "[B", Cond.methodLink RJ0 335 yJ0_coder_7d493, Cond.instanceMethod yJ0_coder_7d493, Cond.selects RJ0 yJ0_coder_7d493 yJ0_coder_7d493, Cond.code yJ0_coder_7d493 cJ0_coder_7d493 1 (some .byte), Cond.fieldLink RJ0 38 "java/lang/String" "COMPACT_STRINGS" "Z", Cond.fieldLink RJ0 15 "java/lang/String" "coder" "B", Cond.methodLink RX1 106 yJ0_charAt_5068e, Cond.instanceMethod yJ0_charAt_5068e, Cond.selects RJ0 yJ0_charAt_5068e yJ0_charAt_5068e, Cond.code yJ0_charAt_5068e cJ0_charAt_5068e 2 (some .char), Cond.methodLink RJ0 492 yJ0_isLatin1_aae02, Cond.instanceMethod yJ0_isLatin1_aae02, Cond.selects RJ0 yJ0_isLatin1_aae02 yJ0_isLatin1_aae02, Cond.code yJ0_isLatin1_aae02 cJ0_isLatin1_aae02 1 (some .boolean), Cond.methodLink RJ0 495 yJ1_charAt_3b067, Cond.static yJ1_charAt_3b067]
def wsX5_rules_r5 : List Cond := [Cond.initialized RJ1, Cond.code yJ1_charAt_3b067 cJ1_charAt_3b067 2 (some .char), Cond.methodLink RJ1 9 yJ0_checkIndex_df160, Cond.static yJ0_checkIndex_df160, Cond.code yJ0_checkIndex_df160 cJ0_checkIndex_df160 2 none, Cond.fieldLink RJ0 1053 "jdk/internal/util/Preconditions" "SIOOBE_FORMATTER" "Ljava/util/function/BiFunction;", Cond.methodLink RJ0 1059 yJ3_checkIndex_8e157, Cond.static yJ3_checkIndex_8e157, Cond.initialized RJ3, Cond.code yJ3_checkIndex_8e157 cJ3_checkIndex_8e157 3 (some .int), Cond.methodLink RJ0 498 yJ2_charAt_3b067, Cond.static yJ2_charAt_3b067, Cond.initialized RJ2, Cond.code yJ2_charAt_3b067 cJ2_charAt_3b067 2 (some .char), Cond.methodLink RJ2 67 yJ2_checkIndex_2214a, Cond.static yJ2_checkIndex_2214a, Cond.code yJ2_checkIndex_2214a cJ2_checkIndex_2214a 2 none, Cond.methodLink RJ2 48 yJ2_length_9d52b, Cond.static yJ2_length_9d52b, Cond.code yJ2_length_9d52b cJ2_length_9d52b 1 (some .int), Cond.methodLink RJ2 414 yJ0_checkIndex_df160, Cond.methodLink RJ2 71 yJ2_getChar_3b067, Cond.static yJ2_getChar_3b067, Cond.code yJ2_getChar_3b067 cJ2_getChar_3b067 2 (some .char)]
def wsX5_rules_r6 : List Cond := [Cond.fieldLink RJ2 44 "java/lang/StringUTF16" "$assertionsDisabled" "Z", Cond.fieldLink RJ2 59 "java/lang/StringUTF16" "HI_BYTE_SHIFT" "I", Cond.fieldLink RJ2 63 "java/lang/StringUTF16" "LO_BYTE_SHIFT" "I", Cond.methodLink RX1 62 yX1_failed, Cond.instanceMethod yX1_failed, Cond.selects RX1 yX1_failed yX1_failed, Cond.code yX1_failed cX1_failed 2 (some .boolean), Cond.methodLink RX1 66 yX1_isToldAlready, Cond.instanceMethod yX1_isToldAlready, Cond.selects RX1 yX1_isToldAlready yX1_isToldAlready, Cond.code yX1_isToldAlready cX1_isToldAlready 2 (some .boolean), Cond.methodLink RX1 69 yX1_tokenAsOrder, Cond.instanceMethod yX1_tokenAsOrder, Cond.selects RX1 yX1_tokenAsOrder yX1_tokenAsOrder, Cond.code yX1_tokenAsOrder cX1_tokenAsOrder 2 (some .int), Cond.methodLink RX1 94 yX2_orderWord, Cond.static yX2_orderWord, Cond.code yX2_orderWord cX2_orderWord 1 (some (.object "java/lang/String")), Cond.methodLink RX1 72 yX1_tokenAsNumber, Cond.instanceMethod yX1_tokenAsNumber, Cond.selects RX1 yX1_tokenAsNumber yX1_tokenAsNumber, Cond.code yX1_tokenAsNumber cX1_tokenAsNumber 3 (some .int), Cond.methodLink RX1 75 yX2_isInBounds, Cond.static yX2_isInBounds]
def wsX5_rules_r7 : List Cond := [Cond.code yX2_isInBounds cX2_isInBounds 2 (some .boolean), Cond.fieldLink RX2 29 "KeyBox$RuleSet" "LOWEST" "[I", Cond.fieldLink RX2 32 "KeyBox$RuleSet" "HIGHEST" "[I", Cond.methodLink RX1 79 yX2_tell, Cond.instanceMethod yX2_tell, Cond.selects RX2 yX2_tell yX2_tell, Cond.code yX2_tell cX2_tell 3 none]
def wsX5_rules : List Cond := .code yX5_rules cX5_rules 3 (some .int) :: ((wsX5_rules_r1 ++ (wsX5_rules_r2 ++ (wsX5_rules_r3 ++ (wsX5_rules_r4 ++ (wsX5_rules_r5 ++ (wsX5_rules_r6 ++ wsX5_rules_r7)))))) ++ wsX50 ++ wsX30 ++ wsX10 ++ wsX20)
def wsX5_fault : List Cond := .code yX5_fault cX5_fault 2 (some .int) :: ([.fieldLink RX5 35 "KeyBox" "reader" "LKeyBox$RuleReader;"] ++ wsX50 ++ wsX10)
def wsX5_rule : List Cond := .code yX5_rule cX5_rule 3 (some .int) :: ([.fieldLink RX5 25 "KeyBox" "ruleSets" "[LKeyBox$RuleSet;", .methodLink RX5 91 yX5_isRuleSet, .static yX5_isRuleSet, .initialized RX5, .code yX5_isRuleSet cX5_isRuleSet 1 (some .boolean), .methodLink RX5 103 yX2_of, .instanceMethod yX2_of, .selects RX2 yX2_of yX2_of, .initialized RX2, .code yX2_of cX2_of 2 (some .int), .fieldLink RX2 20 "KeyBox$RuleSet" "values" "[I"] ++ wsX50 ++ wsX20)
def wsX5_play_r1 : List Cond := [Cond.fieldLink RX5 44 "KeyBox" "latest" "LKeyBox$Year;", Cond.fieldLink RX5 25 "KeyBox" "ruleSets" "[LKeyBox$RuleSet;", Cond.fieldLink RX5 54 "KeyBox" "playedLatest" "I", Cond.methodLink RX5 91 yX5_isRuleSet, Cond.static yX5_isRuleSet, Cond.initialized RX5, Cond.code yX5_isRuleSet cX5_isRuleSet 1 (some .boolean), Cond.methodLink RX5 106 yX4_playAll, Cond.instanceMethod yX4_playAll, Cond.selects RX4 yX4_playAll yX4_playAll, Cond.initialized RX4, Cond.code yX4_playAll cX4_playAll 3 none, Cond.fieldLink RX4 46 "KeyBox$Year" "log" "LKeyBox$Log;", Cond.methodLink RX4 54 yX4_begin, Cond.instanceMethod yX4_begin, Cond.selects RX4 yX4_begin yX4_begin, Cond.code yX4_begin cX4_begin 3 none, Cond.fieldLink RX4 50 "KeyBox$Year" "ruleSet" "LKeyBox$RuleSet;", Cond.fieldLink RX4 15 "KeyBox$Year" "ofMember" "[[I", Cond.fieldLink RX4 21 "KeyBox$Year" "sums" "[I", Cond.fieldLink RX4 37 "KeyBox$Year" "asked" "[I", Cond.fieldLink RX4 75 "KeyBox$Year" "queued" "I", Cond.methodLink RX4 69 yJ7_fill_53178, Cond.static yJ7_fill_53178]
def wsX5_play_r2 : List Cond := [Cond.initialized RJ7, Cond.code yJ7_fill_53178 cJ7_fill_53178 4 none, Cond.methodLink RX4 62 yX4_playMeeting, Cond.instanceMethod yX4_playMeeting, Cond.selects RX4 yX4_playMeeting yX4_playMeeting, Cond.code yX4_playMeeting cX4_playMeeting 6 none, Cond.fieldLink RX4 89 "KeyBox$Year" "week" "I", Cond.fieldLink RX4 95 "KeyBox$Year" "there" "I", Cond.fieldLink RX4 34 "KeyBox$Year" "boughtToday" "[I", Cond.methodLink RX4 78 yX0_isMeeting, Cond.instanceMethod yX0_isMeeting, Cond.selects RX0 yX0_isMeeting yX0_isMeeting, Cond.initialized RX0, Cond.code yX0_isMeeting cX0_isMeeting 2 (some .boolean), Cond.fieldLink RX0 28 "KeyBox$Log" "meetingCount" "I", Cond.methodLink RX4 82 yX0_startOf, Cond.instanceMethod yX0_startOf, Cond.selects RX0 yX0_startOf yX0_startOf, Cond.code yX0_startOf cX0_startOf 2 (some .int), Cond.fieldLink RX0 21 "KeyBox$Log" "starts" "[I", Cond.methodLink RX0 46 yX0_isMeeting, Cond.methodLink RX4 98 yX4_handOutKeys, Cond.instanceMethod yX4_handOutKeys, Cond.selects RX4 yX4_handOutKeys yX4_handOutKeys]
def wsX5_play_r3 : List Cond := [Cond.code yX4_handOutKeys cX4_handOutKeys 4 none, Cond.fieldLink RX4 25 "KeyBox$Year" "keys" "[I", Cond.methodLink RX4 142 Lib.Math.max.name, Cond.static Lib.Math.max.name, Cond.initialized "java/lang/Math", Cond.code Lib.Math.max.name Lib.Math.max.code 2 (some .int), Cond.methodLink RX4 139 yX2_of, Cond.instanceMethod yX2_of, Cond.selects RX2 yX2_of yX2_of, Cond.initialized RX2, Cond.code yX2_of cX2_of 2 (some .int), Cond.fieldLink RX2 20 "KeyBox$RuleSet" "values" "[I", Cond.methodLink RX4 148 yX4_isGone, Cond.instanceMethod yX4_isGone, Cond.selects RX4 yX4_isGone yX4_isGone, Cond.code yX4_isGone cX4_isGone 2 (some .boolean), Cond.methodLink RX4 151 yX4_nextWithoutKey, Cond.instanceMethod yX4_nextWithoutKey, Cond.selects RX4 yX4_nextWithoutKey yX4_nextWithoutKey, Cond.code yX4_nextWithoutKey cX4_nextWithoutKey 4 (some .int), Cond.methodLink RX4 154 yX4_hasKey, Cond.instanceMethod yX4_hasKey, Cond.selects RX4 yX4_hasKey yX4_hasKey, Cond.code yX4_hasKey cX4_hasKey 2 (some .boolean)]
def wsX5_play_r4 : List Cond := [Cond.methodLink RX4 101 yX4_isOpen, Cond.instanceMethod yX4_isOpen, Cond.selects RX4 yX4_isOpen yX4_isOpen, Cond.code yX4_isOpen cX4_isOpen 3 (some .boolean), Cond.methodLink RX4 157 yX4_isThere, Cond.instanceMethod yX4_isThere, Cond.selects RX4 yX4_isThere yX4_isThere, Cond.code yX4_isThere cX4_isThere 2 (some .boolean), Cond.methodLink RX4 105 yX4_collectDues, Cond.instanceMethod yX4_collectDues, Cond.selects RX4 yX4_collectDues yX4_collectDues, Cond.code yX4_collectDues cX4_collectDues 2 none, Cond.methodLink RX4 160 yX4_payDue, Cond.instanceMethod yX4_payDue, Cond.selects RX4 yX4_payDue yX4_payDue, Cond.code yX4_payDue cX4_payDue 4 none, Cond.methodLink RX4 108 yX4_growFallingLoans, Cond.instanceMethod yX4_growFallingLoans, Cond.selects RX4 yX4_growFallingLoans yX4_growFallingLoans, Cond.code yX4_growFallingLoans cX4_growFallingLoans 3 none, Cond.methodLink RX4 164 yX4_growFallingLoan, Cond.instanceMethod yX4_growFallingLoan, Cond.selects RX4 yX4_growFallingLoan yX4_growFallingLoan, Cond.code yX4_growFallingLoan cX4_growFallingLoan 4 none]
def wsX5_play_r5 : List Cond := [Cond.fieldLink RX4 31 "KeyBox$Year" "reckonedToWeek" "[I", Cond.methodLink RX4 168 yX4_hundredths, Cond.static yX4_hundredths, Cond.code yX4_hundredths cX4_hundredths 2 (some .int), Cond.constantLong RX4 225 (100), Cond.methodLink RX4 171 yX4_putInterest, Cond.instanceMethod yX4_putInterest, Cond.selects RX4 yX4_putInterest yX4_putInterest, Cond.code yX4_putInterest cX4_putInterest 3 none, Cond.methodLink RX4 111 yX4_collectLateDues, Cond.instanceMethod yX4_collectLateDues, Cond.selects RX4 yX4_collectLateDues yX4_collectLateDues, Cond.code yX4_collectLateDues cX4_collectLateDues 2 none, Cond.fieldLink RX4 28 "KeyBox$Year" "givenInWeek" "[I", Cond.methodLink RX4 114 yX0_endOf, Cond.instanceMethod yX0_endOf, Cond.selects RX0 yX0_endOf yX0_endOf, Cond.code yX0_endOf cX0_endOf 2 (some .int), Cond.fieldLink RX0 31 "KeyBox$Log" "size" "I", Cond.methodLink RX4 120 yX4_doEntry, Cond.instanceMethod yX4_doEntry, Cond.selects RX4 yX4_doEntry yX4_doEntry, Cond.code yX4_doEntry cX4_doEntry 5 none, Cond.methodLink RX4 174 yX4_takeFrom]
def wsX5_play_r6 : List Cond := [Cond.instanceMethod yX4_takeFrom, Cond.selects RX4 yX4_takeFrom yX4_takeFrom, Cond.code yX4_takeFrom cX4_takeFrom 4 (some .int), Cond.methodLink RX4 192 Lib.Math.min.name, Cond.static Lib.Math.min.name, Cond.code Lib.Math.min.name Lib.Math.min.code 2 (some .int), Cond.methodLink RX4 177 yX4_leave, Cond.instanceMethod yX4_leave, Cond.selects RX4 yX4_leave yX4_leave, Cond.code yX4_leave cX4_leave 4 none, Cond.methodLink RX4 195 yX4_total, Cond.instanceMethod yX4_total, Cond.selects RX4 yX4_total yX4_total, Cond.code yX4_total cX4_total 4 (some .int), Cond.methodLink RX4 198 yX4_partOf, Cond.static yX4_partOf, Cond.code yX4_partOf cX4_partOf 3 (some .int), Cond.methodLink RX4 202 yX4_closeQueue, Cond.instanceMethod yX4_closeQueue, Cond.selects RX4 yX4_closeQueue yX4_closeQueue, Cond.code yX4_closeQueue cX4_closeQueue 3 none, Cond.fieldLink RX4 40 "KeyBox$Year" "queue" "[I", Cond.methodLink RX4 180 yX4_doEntryOfOneThere, Cond.instanceMethod yX4_doEntryOfOneThere]
def wsX5_play_r7 : List Cond := [Cond.selects RX4 yX4_doEntryOfOneThere yX4_doEntryOfOneThere, Cond.code yX4_doEntryOfOneThere cX4_doEntryOfOneThere 4 none, Cond.methodLink RX4 183 yX4_buy, Cond.instanceMethod yX4_buy, Cond.selects RX4 yX4_buy yX4_buy, Cond.code yX4_buy cX4_buy 4 none, Cond.methodLink RX4 186 yX4_ask, Cond.instanceMethod yX4_ask, Cond.selects RX4 yX4_ask yX4_ask, Cond.code yX4_ask cX4_ask 5 none, Cond.methodLink RX4 189 yX4_payBack, Cond.instanceMethod yX4_payBack, Cond.selects RX4 yX4_payBack yX4_payBack, Cond.code yX4_payBack cX4_payBack 4 none, Cond.methodLink RX4 124 yX4_serveQueue, Cond.instanceMethod yX4_serveQueue, Cond.selects RX4 yX4_serveQueue yX4_serveQueue, Cond.code yX4_serveQueue cX4_serveQueue 3 none, Cond.fieldLink RX4 43 "KeyBox$Year" "servingOrder" "[I", Cond.methodLink RX4 205 yX4_lineUp, Cond.instanceMethod yX4_lineUp, Cond.selects RX4 yX4_lineUp yX4_lineUp, Cond.code yX4_lineUp cX4_lineUp 4 none, Cond.methodLink RX4 211 yX4_goesAhead]
def wsX5_play_r8 : List Cond := [Cond.instanceMethod yX4_goesAhead, Cond.selects RX4 yX4_goesAhead yX4_goesAhead, Cond.code yX4_goesAhead cX4_goesAhead 3 (some .boolean), Cond.methodLink RX4 208 yX4_lend, Cond.instanceMethod yX4_lend, Cond.selects RX4 yX4_lend yX4_lend, Cond.code yX4_lend cX4_lend 4 none, Cond.methodLink RX4 127 yX4_writeDown, Cond.instanceMethod yX4_writeDown, Cond.selects RX4 yX4_writeDown yX4_writeDown, Cond.code yX4_writeDown cX4_writeDown 4 none, Cond.fieldLink RX4 18 "KeyBox$Year" "ofMeeting" "[[I", Cond.methodLink RX4 66 yX4_part, Cond.instanceMethod yX4_part, Cond.selects RX4 yX4_part yX4_part, Cond.code yX4_part cX4_part 4 none, Cond.methodLink RX4 215 yX4_reckonShares, Cond.instanceMethod yX4_reckonShares, Cond.selects RX4 yX4_reckonShares yX4_reckonShares, Cond.code yX4_reckonShares cX4_reckonShares 4 none, Cond.methodLink RX4 218 yX4_lowestOverShare, Cond.instanceMethod yX4_lowestOverShare, Cond.selects RX4 yX4_lowestOverShare yX4_lowestOverShare, Cond.code yX4_lowestOverShare cX4_lowestOverShare 2 (some .int)]
def wsX5_play_r9 : List Cond := [Cond.methodLink RX4 222 yX4_payOut, Cond.instanceMethod yX4_payOut, Cond.selects RX4 yX4_payOut yX4_payOut, Cond.code yX4_payOut cX4_payOut 2 none]
def wsX5_play : List Cond := .code yX5_play cX5_play 2 (some .int) :: ((wsX5_play_r1 ++ (wsX5_play_r2 ++ (wsX5_play_r3 ++ (wsX5_play_r4 ++ (wsX5_play_r5 ++ (wsX5_play_r6 ++ (wsX5_play_r7 ++ (wsX5_play_r8 ++ wsX5_play_r9)))))))) ++ wsX50 ++ wsX40 ++ wsX00 ++ wsX20)
def wsX5_member : List Cond := .code yX5_member cX5_member 3 (some .int) :: ([.fieldLink RX5 54 "KeyBox" "playedLatest" "I", .fieldLink RX5 19 "KeyBox" "log" "LKeyBox$Log;", .fieldLink RX5 44 "KeyBox" "latest" "LKeyBox$Year;", .methodLink RX5 114 yX0_isMember, .instanceMethod yX0_isMember, .selects RX0 yX0_isMember yX0_isMember, .initialized RX0, .code yX0_isMember cX0_isMember 2 (some .boolean), .fieldLink RX0 24 "KeyBox$Log" "memberCount" "I"] ++ wsX50 ++ wsX40 ++ wsX00)
def wsX5_meeting : List Cond := .code yX5_meeting cX5_meeting 3 (some .int) :: ([.fieldLink RX5 54 "KeyBox" "playedLatest" "I", .fieldLink RX5 19 "KeyBox" "log" "LKeyBox$Log;", .fieldLink RX5 44 "KeyBox" "latest" "LKeyBox$Year;", .methodLink RX5 121 yX0_isMeeting, .instanceMethod yX0_isMeeting, .selects RX0 yX0_isMeeting yX0_isMeeting, .initialized RX0, .code yX0_isMeeting cX0_isMeeting 2 (some .boolean), .fieldLink RX0 28 "KeyBox$Log" "meetingCount" "I"] ++ wsX50 ++ wsX40 ++ wsX00)
def wsX5_sum : List Cond := .code yX5_sum cX5_sum 2 (some .int) :: ([.fieldLink RX5 54 "KeyBox" "playedLatest" "I", .fieldLink RX5 44 "KeyBox" "latest" "LKeyBox$Year;"] ++ wsX50 ++ wsX40)
def wsX5_parts_r1 : List Cond := [Cond.fieldLink RX5 48 "KeyBox" "oneYear" "LKeyBox$Year;", Cond.fieldLink RX5 25 "KeyBox" "ruleSets" "[LKeyBox$RuleSet;", Cond.fieldLink RX5 51 "KeyBox" "otherYear" "LKeyBox$Year;", Cond.fieldLink RX5 19 "KeyBox" "log" "LKeyBox$Log;", Cond.methodLink RX5 91 yX5_isRuleSet, Cond.static yX5_isRuleSet, Cond.initialized RX5, Cond.code yX5_isRuleSet cX5_isRuleSet 1 (some .boolean), Cond.methodLink RX5 127 yX4_begin, Cond.instanceMethod yX4_begin, Cond.selects RX4 yX4_begin yX4_begin, Cond.initialized RX4, Cond.code yX4_begin cX4_begin 3 none, Cond.fieldLink RX4 50 "KeyBox$Year" "ruleSet" "LKeyBox$RuleSet;", Cond.fieldLink RX4 15 "KeyBox$Year" "ofMember" "[[I", Cond.fieldLink RX4 21 "KeyBox$Year" "sums" "[I", Cond.fieldLink RX4 37 "KeyBox$Year" "asked" "[I", Cond.fieldLink RX4 75 "KeyBox$Year" "queued" "I", Cond.methodLink RX4 69 yJ7_fill_53178, Cond.static yJ7_fill_53178, Cond.initialized RJ7, Cond.code yJ7_fill_53178 cJ7_fill_53178 4 none, Cond.methodLink RX5 133 yX4_playMeeting, Cond.instanceMethod yX4_playMeeting]
def wsX5_parts_r2 : List Cond := [Cond.selects RX4 yX4_playMeeting yX4_playMeeting, Cond.code yX4_playMeeting cX4_playMeeting 6 none, Cond.fieldLink RX4 46 "KeyBox$Year" "log" "LKeyBox$Log;", Cond.fieldLink RX4 89 "KeyBox$Year" "week" "I", Cond.fieldLink RX4 95 "KeyBox$Year" "there" "I", Cond.fieldLink RX4 34 "KeyBox$Year" "boughtToday" "[I", Cond.methodLink RX4 78 yX0_isMeeting, Cond.instanceMethod yX0_isMeeting, Cond.selects RX0 yX0_isMeeting yX0_isMeeting, Cond.initialized RX0, Cond.code yX0_isMeeting cX0_isMeeting 2 (some .boolean), Cond.fieldLink RX0 28 "KeyBox$Log" "meetingCount" "I", Cond.methodLink RX4 82 yX0_startOf, Cond.instanceMethod yX0_startOf, Cond.selects RX0 yX0_startOf yX0_startOf, Cond.code yX0_startOf cX0_startOf 2 (some .int), Cond.fieldLink RX0 21 "KeyBox$Log" "starts" "[I", Cond.methodLink RX0 46 yX0_isMeeting, Cond.methodLink RX4 98 yX4_handOutKeys, Cond.instanceMethod yX4_handOutKeys, Cond.selects RX4 yX4_handOutKeys yX4_handOutKeys, Cond.code yX4_handOutKeys cX4_handOutKeys 4 none, Cond.fieldLink RX4 25 "KeyBox$Year" "keys" "[I", Cond.methodLink RX4 142 Lib.Math.max.name]
def wsX5_parts_r3 : List Cond := [Cond.static Lib.Math.max.name, Cond.initialized "java/lang/Math", Cond.code Lib.Math.max.name Lib.Math.max.code 2 (some .int), Cond.methodLink RX4 139 yX2_of, Cond.instanceMethod yX2_of, Cond.selects RX2 yX2_of yX2_of, Cond.initialized RX2, Cond.code yX2_of cX2_of 2 (some .int), Cond.fieldLink RX2 20 "KeyBox$RuleSet" "values" "[I", Cond.methodLink RX4 148 yX4_isGone, Cond.instanceMethod yX4_isGone, Cond.selects RX4 yX4_isGone yX4_isGone, Cond.code yX4_isGone cX4_isGone 2 (some .boolean), Cond.methodLink RX4 151 yX4_nextWithoutKey, Cond.instanceMethod yX4_nextWithoutKey, Cond.selects RX4 yX4_nextWithoutKey yX4_nextWithoutKey, Cond.code yX4_nextWithoutKey cX4_nextWithoutKey 4 (some .int), Cond.methodLink RX4 154 yX4_hasKey, Cond.instanceMethod yX4_hasKey, Cond.selects RX4 yX4_hasKey yX4_hasKey, Cond.code yX4_hasKey cX4_hasKey 2 (some .boolean), Cond.methodLink RX4 101 yX4_isOpen, Cond.instanceMethod yX4_isOpen, Cond.selects RX4 yX4_isOpen yX4_isOpen]
def wsX5_parts_r4 : List Cond := [Cond.code yX4_isOpen cX4_isOpen 3 (some .boolean), Cond.methodLink RX4 157 yX4_isThere, Cond.instanceMethod yX4_isThere, Cond.selects RX4 yX4_isThere yX4_isThere, Cond.code yX4_isThere cX4_isThere 2 (some .boolean), Cond.methodLink RX4 105 yX4_collectDues, Cond.instanceMethod yX4_collectDues, Cond.selects RX4 yX4_collectDues yX4_collectDues, Cond.code yX4_collectDues cX4_collectDues 2 none, Cond.methodLink RX4 160 yX4_payDue, Cond.instanceMethod yX4_payDue, Cond.selects RX4 yX4_payDue yX4_payDue, Cond.code yX4_payDue cX4_payDue 4 none, Cond.methodLink RX4 108 yX4_growFallingLoans, Cond.instanceMethod yX4_growFallingLoans, Cond.selects RX4 yX4_growFallingLoans yX4_growFallingLoans, Cond.code yX4_growFallingLoans cX4_growFallingLoans 3 none, Cond.methodLink RX4 164 yX4_growFallingLoan, Cond.instanceMethod yX4_growFallingLoan, Cond.selects RX4 yX4_growFallingLoan yX4_growFallingLoan, Cond.code yX4_growFallingLoan cX4_growFallingLoan 4 none, Cond.fieldLink RX4 31 "KeyBox$Year" "reckonedToWeek" "[I", Cond.methodLink RX4 168 yX4_hundredths, Cond.static yX4_hundredths]
def wsX5_parts_r5 : List Cond := [Cond.code yX4_hundredths cX4_hundredths 2 (some .int), Cond.constantLong RX4 225 (100), Cond.methodLink RX4 171 yX4_putInterest, Cond.instanceMethod yX4_putInterest, Cond.selects RX4 yX4_putInterest yX4_putInterest, Cond.code yX4_putInterest cX4_putInterest 3 none, Cond.methodLink RX4 111 yX4_collectLateDues, Cond.instanceMethod yX4_collectLateDues, Cond.selects RX4 yX4_collectLateDues yX4_collectLateDues, Cond.code yX4_collectLateDues cX4_collectLateDues 2 none, Cond.fieldLink RX4 28 "KeyBox$Year" "givenInWeek" "[I", Cond.methodLink RX4 114 yX0_endOf, Cond.instanceMethod yX0_endOf, Cond.selects RX0 yX0_endOf yX0_endOf, Cond.code yX0_endOf cX0_endOf 2 (some .int), Cond.fieldLink RX0 31 "KeyBox$Log" "size" "I", Cond.methodLink RX4 120 yX4_doEntry, Cond.instanceMethod yX4_doEntry, Cond.selects RX4 yX4_doEntry yX4_doEntry, Cond.code yX4_doEntry cX4_doEntry 5 none, Cond.methodLink RX4 174 yX4_takeFrom, Cond.instanceMethod yX4_takeFrom, Cond.selects RX4 yX4_takeFrom yX4_takeFrom, Cond.code yX4_takeFrom cX4_takeFrom 4 (some .int)]
def wsX5_parts_r6 : List Cond := [Cond.methodLink RX4 192 Lib.Math.min.name, Cond.static Lib.Math.min.name, Cond.code Lib.Math.min.name Lib.Math.min.code 2 (some .int), Cond.methodLink RX4 177 yX4_leave, Cond.instanceMethod yX4_leave, Cond.selects RX4 yX4_leave yX4_leave, Cond.code yX4_leave cX4_leave 4 none, Cond.methodLink RX4 195 yX4_total, Cond.instanceMethod yX4_total, Cond.selects RX4 yX4_total yX4_total, Cond.code yX4_total cX4_total 4 (some .int), Cond.methodLink RX4 198 yX4_partOf, Cond.static yX4_partOf, Cond.code yX4_partOf cX4_partOf 3 (some .int), Cond.methodLink RX4 202 yX4_closeQueue, Cond.instanceMethod yX4_closeQueue, Cond.selects RX4 yX4_closeQueue yX4_closeQueue, Cond.code yX4_closeQueue cX4_closeQueue 3 none, Cond.fieldLink RX4 40 "KeyBox$Year" "queue" "[I", Cond.methodLink RX4 180 yX4_doEntryOfOneThere, Cond.instanceMethod yX4_doEntryOfOneThere, Cond.selects RX4 yX4_doEntryOfOneThere yX4_doEntryOfOneThere, Cond.code yX4_doEntryOfOneThere cX4_doEntryOfOneThere 4 none, Cond.methodLink RX4 183 yX4_buy]
def wsX5_parts_r7 : List Cond := [Cond.instanceMethod yX4_buy, Cond.selects RX4 yX4_buy yX4_buy, Cond.code yX4_buy cX4_buy 4 none, Cond.methodLink RX4 186 yX4_ask, Cond.instanceMethod yX4_ask, Cond.selects RX4 yX4_ask yX4_ask, Cond.code yX4_ask cX4_ask 5 none, Cond.methodLink RX4 189 yX4_payBack, Cond.instanceMethod yX4_payBack, Cond.selects RX4 yX4_payBack yX4_payBack, Cond.code yX4_payBack cX4_payBack 4 none, Cond.methodLink RX4 124 yX4_serveQueue, Cond.instanceMethod yX4_serveQueue, Cond.selects RX4 yX4_serveQueue yX4_serveQueue, Cond.code yX4_serveQueue cX4_serveQueue 3 none, Cond.fieldLink RX4 43 "KeyBox$Year" "servingOrder" "[I", Cond.methodLink RX4 205 yX4_lineUp, Cond.instanceMethod yX4_lineUp, Cond.selects RX4 yX4_lineUp yX4_lineUp, Cond.code yX4_lineUp cX4_lineUp 4 none, Cond.methodLink RX4 211 yX4_goesAhead, Cond.instanceMethod yX4_goesAhead, Cond.selects RX4 yX4_goesAhead yX4_goesAhead, Cond.code yX4_goesAhead cX4_goesAhead 3 (some .boolean)]
def wsX5_parts_r8 : List Cond := [Cond.methodLink RX4 208 yX4_lend, Cond.instanceMethod yX4_lend, Cond.selects RX4 yX4_lend yX4_lend, Cond.code yX4_lend cX4_lend 4 none, Cond.methodLink RX4 127 yX4_writeDown, Cond.instanceMethod yX4_writeDown, Cond.selects RX4 yX4_writeDown yX4_writeDown, Cond.code yX4_writeDown cX4_writeDown 4 none, Cond.fieldLink RX4 18 "KeyBox$Year" "ofMeeting" "[[I", Cond.methodLink RX5 136 yX4_differsFrom, Cond.instanceMethod yX4_differsFrom, Cond.selects RX4 yX4_differsFrom yX4_differsFrom, Cond.code yX4_differsFrom cX4_differsFrom 3 (some .boolean)]
def wsX5_parts : List Cond := .code yX5_parts cX5_parts 4 (some .int) :: ((wsX5_parts_r1 ++ (wsX5_parts_r2 ++ (wsX5_parts_r3 ++ (wsX5_parts_r4 ++ (wsX5_parts_r5 ++ (wsX5_parts_r6 ++ (wsX5_parts_r7 ++ wsX5_parts_r8))))))) ++ wsX50 ++ wsX00 ++ wsX40 ++ wsX20)
def wsX5_gains_r1 : List Cond := [Cond.fieldLink RX5 19 "KeyBox" "log" "LKeyBox$Log;", Cond.constant RX5 140 (-2000000000), Cond.fieldLink RX5 48 "KeyBox" "oneYear" "LKeyBox$Year;", Cond.fieldLink RX5 25 "KeyBox" "ruleSets" "[LKeyBox$RuleSet;", Cond.fieldLink RX5 51 "KeyBox" "otherYear" "LKeyBox$Year;", Cond.methodLink RX5 91 yX5_isRuleSet, Cond.static yX5_isRuleSet, Cond.initialized RX5, Cond.code yX5_isRuleSet cX5_isRuleSet 1 (some .boolean), Cond.methodLink RX5 114 yX0_isMember, Cond.instanceMethod yX0_isMember, Cond.selects RX0 yX0_isMember yX0_isMember, Cond.initialized RX0, Cond.code yX0_isMember cX0_isMember 2 (some .boolean), Cond.fieldLink RX0 24 "KeyBox$Log" "memberCount" "I", Cond.methodLink RX5 106 yX4_playAll, Cond.instanceMethod yX4_playAll, Cond.selects RX4 yX4_playAll yX4_playAll, Cond.initialized RX4, Cond.code yX4_playAll cX4_playAll 3 none, Cond.fieldLink RX4 46 "KeyBox$Year" "log" "LKeyBox$Log;", Cond.methodLink RX4 54 yX4_begin, Cond.instanceMethod yX4_begin, Cond.selects RX4 yX4_begin yX4_begin]
def wsX5_gains_r2 : List Cond := [Cond.code yX4_begin cX4_begin 3 none, Cond.fieldLink RX4 50 "KeyBox$Year" "ruleSet" "LKeyBox$RuleSet;", Cond.fieldLink RX4 15 "KeyBox$Year" "ofMember" "[[I", Cond.fieldLink RX4 21 "KeyBox$Year" "sums" "[I", Cond.fieldLink RX4 37 "KeyBox$Year" "asked" "[I", Cond.fieldLink RX4 75 "KeyBox$Year" "queued" "I", Cond.methodLink RX4 69 yJ7_fill_53178, Cond.static yJ7_fill_53178, Cond.initialized RJ7, Cond.code yJ7_fill_53178 cJ7_fill_53178 4 none, Cond.methodLink RX4 62 yX4_playMeeting, Cond.instanceMethod yX4_playMeeting, Cond.selects RX4 yX4_playMeeting yX4_playMeeting, Cond.code yX4_playMeeting cX4_playMeeting 6 none, Cond.fieldLink RX4 89 "KeyBox$Year" "week" "I", Cond.fieldLink RX4 95 "KeyBox$Year" "there" "I", Cond.fieldLink RX4 34 "KeyBox$Year" "boughtToday" "[I", Cond.methodLink RX4 78 yX0_isMeeting, Cond.instanceMethod yX0_isMeeting, Cond.selects RX0 yX0_isMeeting yX0_isMeeting, Cond.code yX0_isMeeting cX0_isMeeting 2 (some .boolean), Cond.fieldLink RX0 28 "KeyBox$Log" "meetingCount" "I", Cond.methodLink RX4 82 yX0_startOf, Cond.instanceMethod yX0_startOf]
def wsX5_gains_r3 : List Cond := [Cond.selects RX0 yX0_startOf yX0_startOf, Cond.code yX0_startOf cX0_startOf 2 (some .int), Cond.fieldLink RX0 21 "KeyBox$Log" "starts" "[I", Cond.methodLink RX0 46 yX0_isMeeting, Cond.methodLink RX4 98 yX4_handOutKeys, Cond.instanceMethod yX4_handOutKeys, Cond.selects RX4 yX4_handOutKeys yX4_handOutKeys, Cond.code yX4_handOutKeys cX4_handOutKeys 4 none, Cond.fieldLink RX4 25 "KeyBox$Year" "keys" "[I", Cond.methodLink RX4 142 Lib.Math.max.name, Cond.static Lib.Math.max.name, Cond.initialized "java/lang/Math", Cond.code Lib.Math.max.name Lib.Math.max.code 2 (some .int), Cond.methodLink RX4 139 yX2_of, Cond.instanceMethod yX2_of, Cond.selects RX2 yX2_of yX2_of, Cond.initialized RX2, Cond.code yX2_of cX2_of 2 (some .int), Cond.fieldLink RX2 20 "KeyBox$RuleSet" "values" "[I", Cond.methodLink RX4 148 yX4_isGone, Cond.instanceMethod yX4_isGone, Cond.selects RX4 yX4_isGone yX4_isGone, Cond.code yX4_isGone cX4_isGone 2 (some .boolean), Cond.methodLink RX4 151 yX4_nextWithoutKey]
def wsX5_gains_r4 : List Cond := [Cond.instanceMethod yX4_nextWithoutKey, Cond.selects RX4 yX4_nextWithoutKey yX4_nextWithoutKey, Cond.code yX4_nextWithoutKey cX4_nextWithoutKey 4 (some .int), Cond.methodLink RX4 154 yX4_hasKey, Cond.instanceMethod yX4_hasKey, Cond.selects RX4 yX4_hasKey yX4_hasKey, Cond.code yX4_hasKey cX4_hasKey 2 (some .boolean), Cond.methodLink RX4 101 yX4_isOpen, Cond.instanceMethod yX4_isOpen, Cond.selects RX4 yX4_isOpen yX4_isOpen, Cond.code yX4_isOpen cX4_isOpen 3 (some .boolean), Cond.methodLink RX4 157 yX4_isThere, Cond.instanceMethod yX4_isThere, Cond.selects RX4 yX4_isThere yX4_isThere, Cond.code yX4_isThere cX4_isThere 2 (some .boolean), Cond.methodLink RX4 105 yX4_collectDues, Cond.instanceMethod yX4_collectDues, Cond.selects RX4 yX4_collectDues yX4_collectDues, Cond.code yX4_collectDues cX4_collectDues 2 none, Cond.methodLink RX4 160 yX4_payDue, Cond.instanceMethod yX4_payDue, Cond.selects RX4 yX4_payDue yX4_payDue, Cond.code yX4_payDue cX4_payDue 4 none, Cond.methodLink RX4 108 yX4_growFallingLoans]
def wsX5_gains_r5 : List Cond := [Cond.instanceMethod yX4_growFallingLoans, Cond.selects RX4 yX4_growFallingLoans yX4_growFallingLoans, Cond.code yX4_growFallingLoans cX4_growFallingLoans 3 none, Cond.methodLink RX4 164 yX4_growFallingLoan, Cond.instanceMethod yX4_growFallingLoan, Cond.selects RX4 yX4_growFallingLoan yX4_growFallingLoan, Cond.code yX4_growFallingLoan cX4_growFallingLoan 4 none, Cond.fieldLink RX4 31 "KeyBox$Year" "reckonedToWeek" "[I", Cond.methodLink RX4 168 yX4_hundredths, Cond.static yX4_hundredths, Cond.code yX4_hundredths cX4_hundredths 2 (some .int), Cond.constantLong RX4 225 (100), Cond.methodLink RX4 171 yX4_putInterest, Cond.instanceMethod yX4_putInterest, Cond.selects RX4 yX4_putInterest yX4_putInterest, Cond.code yX4_putInterest cX4_putInterest 3 none, Cond.methodLink RX4 111 yX4_collectLateDues, Cond.instanceMethod yX4_collectLateDues, Cond.selects RX4 yX4_collectLateDues yX4_collectLateDues, Cond.code yX4_collectLateDues cX4_collectLateDues 2 none, Cond.fieldLink RX4 28 "KeyBox$Year" "givenInWeek" "[I", Cond.methodLink RX4 114 yX0_endOf, Cond.instanceMethod yX0_endOf, Cond.selects RX0 yX0_endOf yX0_endOf]
def wsX5_gains_r6 : List Cond := [Cond.code yX0_endOf cX0_endOf 2 (some .int), Cond.fieldLink RX0 31 "KeyBox$Log" "size" "I", Cond.methodLink RX4 120 yX4_doEntry, Cond.instanceMethod yX4_doEntry, Cond.selects RX4 yX4_doEntry yX4_doEntry, Cond.code yX4_doEntry cX4_doEntry 5 none, Cond.methodLink RX4 174 yX4_takeFrom, Cond.instanceMethod yX4_takeFrom, Cond.selects RX4 yX4_takeFrom yX4_takeFrom, Cond.code yX4_takeFrom cX4_takeFrom 4 (some .int), Cond.methodLink RX4 192 Lib.Math.min.name, Cond.static Lib.Math.min.name, Cond.code Lib.Math.min.name Lib.Math.min.code 2 (some .int), Cond.methodLink RX4 177 yX4_leave, Cond.instanceMethod yX4_leave, Cond.selects RX4 yX4_leave yX4_leave, Cond.code yX4_leave cX4_leave 4 none, Cond.methodLink RX4 195 yX4_total, Cond.instanceMethod yX4_total, Cond.selects RX4 yX4_total yX4_total, Cond.code yX4_total cX4_total 4 (some .int), Cond.methodLink RX4 198 yX4_partOf, Cond.static yX4_partOf, Cond.code yX4_partOf cX4_partOf 3 (some .int)]
def wsX5_gains_r7 : List Cond := [Cond.methodLink RX4 202 yX4_closeQueue, Cond.instanceMethod yX4_closeQueue, Cond.selects RX4 yX4_closeQueue yX4_closeQueue, Cond.code yX4_closeQueue cX4_closeQueue 3 none, Cond.fieldLink RX4 40 "KeyBox$Year" "queue" "[I", Cond.methodLink RX4 180 yX4_doEntryOfOneThere, Cond.instanceMethod yX4_doEntryOfOneThere, Cond.selects RX4 yX4_doEntryOfOneThere yX4_doEntryOfOneThere, Cond.code yX4_doEntryOfOneThere cX4_doEntryOfOneThere 4 none, Cond.methodLink RX4 183 yX4_buy, Cond.instanceMethod yX4_buy, Cond.selects RX4 yX4_buy yX4_buy, Cond.code yX4_buy cX4_buy 4 none, Cond.methodLink RX4 186 yX4_ask, Cond.instanceMethod yX4_ask, Cond.selects RX4 yX4_ask yX4_ask, Cond.code yX4_ask cX4_ask 5 none, Cond.methodLink RX4 189 yX4_payBack, Cond.instanceMethod yX4_payBack, Cond.selects RX4 yX4_payBack yX4_payBack, Cond.code yX4_payBack cX4_payBack 4 none, Cond.methodLink RX4 124 yX4_serveQueue, Cond.instanceMethod yX4_serveQueue, Cond.selects RX4 yX4_serveQueue yX4_serveQueue]
def wsX5_gains_r8 : List Cond := [Cond.code yX4_serveQueue cX4_serveQueue 3 none, Cond.fieldLink RX4 43 "KeyBox$Year" "servingOrder" "[I", Cond.methodLink RX4 205 yX4_lineUp, Cond.instanceMethod yX4_lineUp, Cond.selects RX4 yX4_lineUp yX4_lineUp, Cond.code yX4_lineUp cX4_lineUp 4 none, Cond.methodLink RX4 211 yX4_goesAhead, Cond.instanceMethod yX4_goesAhead, Cond.selects RX4 yX4_goesAhead yX4_goesAhead, Cond.code yX4_goesAhead cX4_goesAhead 3 (some .boolean), Cond.methodLink RX4 208 yX4_lend, Cond.instanceMethod yX4_lend, Cond.selects RX4 yX4_lend yX4_lend, Cond.code yX4_lend cX4_lend 4 none, Cond.methodLink RX4 127 yX4_writeDown, Cond.instanceMethod yX4_writeDown, Cond.selects RX4 yX4_writeDown yX4_writeDown, Cond.code yX4_writeDown cX4_writeDown 4 none, Cond.fieldLink RX4 18 "KeyBox$Year" "ofMeeting" "[[I", Cond.methodLink RX4 66 yX4_part, Cond.instanceMethod yX4_part, Cond.selects RX4 yX4_part yX4_part, Cond.code yX4_part cX4_part 4 none, Cond.methodLink RX4 215 yX4_reckonShares]
def wsX5_gains_r9 : List Cond := [Cond.instanceMethod yX4_reckonShares, Cond.selects RX4 yX4_reckonShares yX4_reckonShares, Cond.code yX4_reckonShares cX4_reckonShares 4 none, Cond.methodLink RX4 218 yX4_lowestOverShare, Cond.instanceMethod yX4_lowestOverShare, Cond.selects RX4 yX4_lowestOverShare yX4_lowestOverShare, Cond.code yX4_lowestOverShare cX4_lowestOverShare 2 (some .int), Cond.methodLink RX4 222 yX4_payOut, Cond.instanceMethod yX4_payOut, Cond.selects RX4 yX4_payOut yX4_payOut, Cond.code yX4_payOut cX4_payOut 2 none, Cond.methodLink RX5 141 yX4_hasOfTheYear, Cond.instanceMethod yX4_hasOfTheYear, Cond.selects RX4 yX4_hasOfTheYear yX4_hasOfTheYear, Cond.code yX4_hasOfTheYear cX4_hasOfTheYear 4 (some .int), Cond.methodLink RX4 134 yX0_isMember]
def wsX5_gains : List Cond := .code yX5_gains cX5_gains 4 (some .int) :: ((wsX5_gains_r1 ++ (wsX5_gains_r2 ++ (wsX5_gains_r3 ++ (wsX5_gains_r4 ++ (wsX5_gains_r5 ++ (wsX5_gains_r6 ++ (wsX5_gains_r7 ++ (wsX5_gains_r8 ++ wsX5_gains_r9)))))))) ++ wsX50 ++ wsX00 ++ wsX40 ++ wsX20)
def wsX5_count : List Cond := .code yX5_count cX5_count 2 (some .int) :: ([.fieldLink RX5 19 "KeyBox" "log" "LKeyBox$Log;", .fieldLink RX5 10 "KeyBox" "tape" "LKeyBox$Tape;", .fieldLink RX5 54 "KeyBox" "playedLatest" "I"] ++ wsX50 ++ wsX00 ++ wsX30)
def wsX6_plain : List Cond := .code yX6_plain cX6_plain 1 (some .int) :: ([])
def wsX6_init_r1 : List Cond := [Cond.methodLink RX6 1 objectInit, Cond.instanceMethod objectInit, Cond.code objectInit ⟨#[0xb1]⟩ 1 none, Cond.arrayClass .byte, Cond.fieldLink RX6 7 "KeyBoxModel" "tape" "[B", Cond.fieldLink RX6 13 "KeyBoxModel" "faultPlace" "I", Cond.arrayClass .int, Cond.fieldLink RX6 17 "KeyBoxModel" "rules" "[I", Cond.fieldLink RX6 21 "KeyBoxModel" "members" "I", Cond.fieldLink RX6 24 "KeyBoxModel" "kind" "[I", Cond.fieldLink RX6 27 "KeyBoxModel" "who" "[I", Cond.fieldLink RX6 30 "KeyBoxModel" "much" "[I", Cond.fieldLink RX6 33 "KeyBoxModel" "by" "[I", Cond.fieldLink RX6 36 "KeyBoxModel" "box" "[I", Cond.fieldLink RX6 39 "KeyBoxModel" "fund" "[I", Cond.fieldLink RX6 42 "KeyBoxModel" "stamps" "[I", Cond.fieldLink RX6 45 "KeyBoxModel" "bought" "[I", Cond.fieldLink RX6 48 "KeyBoxModel" "owes" "[I", Cond.fieldLink RX6 51 "KeyBoxModel" "since" "[I", Cond.fieldLink RX6 54 "KeyBoxModel" "grown" "[I", Cond.fieldLink RX6 57 "KeyBoxModel" "lent" "[I", Cond.fieldLink RX6 60 "KeyBoxModel" "paidBack" "[I", Cond.fieldLink RX6 63 "KeyBoxModel" "dues" "[I", Cond.fieldLink RX6 66 "KeyBoxModel" "waited" "[I"]
def wsX6_init_r2 : List Cond := [Cond.fieldLink RX6 69 "KeyBoxModel" "refused" "[I", Cond.arrayClass .boolean, Cond.fieldLink RX6 72 "KeyBoxModel" "gone" "[Z", Cond.fieldLink RX6 76 "KeyBoxModel" "gotGone" "[I", Cond.fieldLink RX6 79 "KeyBoxModel" "share" "[I", Cond.fieldLink RX6 82 "KeyBoxModel" "gets" "[I", Cond.fieldLink RX6 85 "KeyBoxModel" "isOut" "[Z", Cond.fieldLink RX6 88 "KeyBoxModel" "asks" "[I", Cond.fieldLink RX6 91 "KeyBoxModel" "askAt" "[I", Cond.fieldLink RX6 94 "KeyBoxModel" "today" "[I", Cond.fieldLink RX6 97 "KeyBoxModel" "opened" "[I", Cond.fieldLink RX6 100 "KeyBoxModel" "shut" "[I", Cond.fieldLink RX6 103 "KeyBoxModel" "total" "[I", Cond.fieldLink RX6 106 "KeyBoxModel" "rest" "[I", Cond.fieldLink RX6 109 "KeyBoxModel" "lostGone" "[I", Cond.fieldLink RX6 112 "KeyBoxModel" "lostOut" "[I", Cond.fieldLink RX6 115 "KeyBoxModel" "robbed" "[I", Cond.fieldLink RX6 118 "KeyBoxModel" "fundPaid" "[I", Cond.fieldLink RX6 121 "KeyBoxModel" "interest" "[I", Cond.fieldLink RX6 124 "KeyBoxModel" "key" "[I", Cond.fieldLink RX6 127 "KeyBoxModel" "told" "[I", Cond.fieldLink RX6 130 "KeyBoxModel" "played" "I", Cond.methodLink RX6 133 yX6_plain, Cond.static yX6_plain]
def wsX6_init_r3 : List Cond := [Cond.initialized RX6, Cond.code yX6_plain cX6_plain 1 (some .int)]
def wsX6_init : List Cond := .code yX6_init cX6_init 3 none :: ((wsX6_init_r1 ++ (wsX6_init_r2 ++ wsX6_init_r3)) ++ wsX60)
def wsX6_in : List Cond := .code yX6_in cX6_in 3 (some .boolean) :: ([])
def wsX6_feed : List Cond := .code yX6_feed cX6_feed 9 (some .int) :: ([.fieldLink RX6 137 "KeyBoxModel" "taped" "I", .fieldLink RX6 7 "KeyBoxModel" "tape" "[B"] ++ wsX60)
def wsX6_end : List Cond := .code yX6_end cX6_end 2 (some .int) :: ([.fieldLink RX6 137 "KeyBoxModel" "taped" "I"] ++ wsX60)
def wsX6_see : List Cond := .code yX6_see cX6_see 2 (some .int) :: ([.fieldLink RX6 140 "KeyBoxModel" "size" "I", .fieldLink RX6 7 "KeyBoxModel" "tape" "[B"] ++ wsX60)
def wsX6_isSmall : List Cond := .code yX6_isSmall cX6_isSmall 1 (some .boolean) :: ([])
def wsX6_isDigit : List Cond := .code yX6_isDigit cX6_isDigit 1 (some .boolean) :: ([])
def wsX6_keyAt_r1 : List Cond := [Cond.methodLink RX6 145 yJ0_length_8abf5, Cond.instanceMethod yJ0_length_8abf5, Cond.selects RJ0 yJ0_length_8abf5 yJ0_length_8abf5, Cond.initialized RJ0, Cond.code yJ0_length_8abf5 cJ0_length_8abf5 1 (some .int), Cond.fieldLink RJ0 9 "java/lang/String" "value" "[B", Cond.methodLink RJ0 335 yJ0_coder_7d493, Cond.instanceMethod yJ0_coder_7d493, Cond.selects RJ0 yJ0_coder_7d493 yJ0_coder_7d493, Cond.code yJ0_coder_7d493 cJ0_coder_7d493 1 (some .byte), Cond.fieldLink RJ0 38 "java/lang/String" "COMPACT_STRINGS" "Z", Cond.fieldLink RJ0 15 "java/lang/String" "coder" "B", Cond.methodLink RX6 151 yJ0_charAt_5068e, Cond.instanceMethod yJ0_charAt_5068e, Cond.selects RJ0 yJ0_charAt_5068e yJ0_charAt_5068e, Cond.code yJ0_charAt_5068e cJ0_charAt_5068e 2 (some .char), Cond.methodLink RJ0 492 yJ0_isLatin1_aae02, Cond.instanceMethod yJ0_isLatin1_aae02, Cond.selects RJ0 yJ0_isLatin1_aae02 yJ0_isLatin1_aae02, Cond.code yJ0_isLatin1_aae02 cJ0_isLatin1_aae02 1 (some .boolean), Cond.methodLink RJ0 495 yJ1_charAt_3b067, Cond.static yJ1_charAt_3b067, Cond.initialized RJ1, Cond.code yJ1_charAt_3b067 cJ1_charAt_3b067 2 (some .char)]
def wsX6_keyAt_r2 : List Cond := [Cond.methodLink RJ1 9 yJ0_checkIndex_df160, Cond.static yJ0_checkIndex_df160, Cond.code yJ0_checkIndex_df160 cJ0_checkIndex_df160 2 none, Cond.fieldLink RJ0 1053 "jdk/internal/util/Preconditions" "SIOOBE_FORMATTER" "Ljava/util/function/BiFunction;", Cond.methodLink RJ0 1059 yJ3_checkIndex_8e157, Cond.static yJ3_checkIndex_8e157, Cond.initialized RJ3, Cond.code yJ3_checkIndex_8e157 cJ3_checkIndex_8e157 3 (some .int), Cond.methodLink RJ0 498 yJ2_charAt_3b067, Cond.static yJ2_charAt_3b067, Cond.initialized RJ2, Cond.code yJ2_charAt_3b067 cJ2_charAt_3b067 2 (some .char), Cond.methodLink RJ2 67 yJ2_checkIndex_2214a, Cond.static yJ2_checkIndex_2214a, Cond.code yJ2_checkIndex_2214a cJ2_checkIndex_2214a 2 none, Cond.methodLink RJ2 48 yJ2_length_9d52b, Cond.static yJ2_length_9d52b, Cond.code yJ2_length_9d52b cJ2_length_9d52b 1 (some .int), Cond.methodLink RJ2 414 yJ0_checkIndex_df160, Cond.methodLink RJ2 71 yJ2_getChar_3b067, Cond.static yJ2_getChar_3b067, Cond.code yJ2_getChar_3b067 cJ2_getChar_3b067 2 (some .char), Cond.fieldLink RJ2 44 "java/lang/StringUTF16" "$assertionsDisabled" "Z", Cond.fieldLink RJ2 59 "java/lang/StringUTF16" "HI_BYTE_SHIFT" "I"]
def wsX6_keyAt_r3 : List Cond := [Cond.fieldLink RJ2 63 "java/lang/StringUTF16" "LO_BYTE_SHIFT" "I", Cond.methodLink RX6 155 yX6_see, Cond.instanceMethod yX6_see, Cond.selects RX6 yX6_see yX6_see, Cond.initialized RX6, Cond.code yX6_see cX6_see 2 (some .int), Cond.fieldLink RX6 140 "KeyBoxModel" "size" "I", Cond.fieldLink RX6 7 "KeyBoxModel" "tape" "[B"]
def wsX6_keyAt : List Cond := .code yX6_keyAt cX6_keyAt 8 (some .int) :: ((wsX6_keyAt_r1 ++ (wsX6_keyAt_r2 ++ wsX6_keyAt_r3)) ++ wsX60)
def wsX6_scan_r1 : List Cond := [Cond.fieldLink RX6 158 "KeyBoxModel" "end" "I", Cond.fieldLink RX6 161 "KeyBoxModel" "at" "I", Cond.fieldLink RX6 164 "KeyBoxModel" "sort" "I", Cond.fieldLink RX6 175 "KeyBoxModel" "what" "I", Cond.fieldLink RX6 181 "KeyBoxModel" "worth" "I", Cond.methodLink RX6 155 yX6_see, Cond.instanceMethod yX6_see, Cond.selects RX6 yX6_see yX6_see, Cond.initialized RX6, Cond.code yX6_see cX6_see 2 (some .int), Cond.fieldLink RX6 140 "KeyBoxModel" "size" "I", Cond.fieldLink RX6 7 "KeyBoxModel" "tape" "[B", Cond.methodLink RX6 167 yX6_isSmall, Cond.static yX6_isSmall, Cond.code yX6_isSmall cX6_isSmall 1 (some .boolean), Cond.methodLink RX6 171 yX6_keyAt, Cond.instanceMethod yX6_keyAt, Cond.selects RX6 yX6_keyAt yX6_keyAt, Cond.code yX6_keyAt cX6_keyAt 8 (some .int), Cond.methodLink RX6 145 yJ0_length_8abf5, Cond.instanceMethod yJ0_length_8abf5, Cond.selects RJ0 yJ0_length_8abf5 yJ0_length_8abf5, Cond.initialized RJ0, Cond.code yJ0_length_8abf5 cJ0_length_8abf5 1 (some .int)]
def wsX6_scan_r2 : List Cond := [Cond.fieldLink RJ0 9 "java/lang/String" "value" "[B", Cond.methodLink RJ0 335 yJ0_coder_7d493, Cond.instanceMethod yJ0_coder_7d493, Cond.selects RJ0 yJ0_coder_7d493 yJ0_coder_7d493, Cond.code yJ0_coder_7d493 cJ0_coder_7d493 1 (some .byte), Cond.fieldLink RJ0 38 "java/lang/String" "COMPACT_STRINGS" "Z", Cond.fieldLink RJ0 15 "java/lang/String" "coder" "B", Cond.methodLink RX6 151 yJ0_charAt_5068e, Cond.instanceMethod yJ0_charAt_5068e, Cond.selects RJ0 yJ0_charAt_5068e yJ0_charAt_5068e, Cond.code yJ0_charAt_5068e cJ0_charAt_5068e 2 (some .char), Cond.methodLink RJ0 492 yJ0_isLatin1_aae02, Cond.instanceMethod yJ0_isLatin1_aae02, Cond.selects RJ0 yJ0_isLatin1_aae02 yJ0_isLatin1_aae02, Cond.code yJ0_isLatin1_aae02 cJ0_isLatin1_aae02 1 (some .boolean), Cond.methodLink RJ0 495 yJ1_charAt_3b067, Cond.static yJ1_charAt_3b067, Cond.initialized RJ1, Cond.code yJ1_charAt_3b067 cJ1_charAt_3b067 2 (some .char), Cond.methodLink RJ1 9 yJ0_checkIndex_df160, Cond.static yJ0_checkIndex_df160, Cond.code yJ0_checkIndex_df160 cJ0_checkIndex_df160 2 none, Cond.fieldLink RJ0 1053 "jdk/internal/util/Preconditions" "SIOOBE_FORMATTER" "Ljava/util/function/BiFunction;", Cond.methodLink RJ0 1059 yJ3_checkIndex_8e157]
def wsX6_scan_r3 : List Cond := [Cond.static yJ3_checkIndex_8e157, Cond.initialized RJ3, Cond.code yJ3_checkIndex_8e157 cJ3_checkIndex_8e157 3 (some .int), Cond.methodLink RJ0 498 yJ2_charAt_3b067, Cond.static yJ2_charAt_3b067, Cond.initialized RJ2, Cond.code yJ2_charAt_3b067 cJ2_charAt_3b067 2 (some .char), Cond.methodLink RJ2 67 yJ2_checkIndex_2214a, Cond.static yJ2_checkIndex_2214a, Cond.code yJ2_checkIndex_2214a cJ2_checkIndex_2214a 2 none, Cond.methodLink RJ2 48 yJ2_length_9d52b, Cond.static yJ2_length_9d52b, Cond.code yJ2_length_9d52b cJ2_length_9d52b 1 (some .int), Cond.methodLink RJ2 414 yJ0_checkIndex_df160, Cond.methodLink RJ2 71 yJ2_getChar_3b067, Cond.static yJ2_getChar_3b067, Cond.code yJ2_getChar_3b067 cJ2_getChar_3b067 2 (some .char), Cond.fieldLink RJ2 44 "java/lang/StringUTF16" "$assertionsDisabled" "Z", Cond.fieldLink RJ2 59 "java/lang/StringUTF16" "HI_BYTE_SHIFT" "I", Cond.fieldLink RJ2 63 "java/lang/StringUTF16" "LO_BYTE_SHIFT" "I", Cond.methodLink RX6 178 yX6_isDigit, Cond.static yX6_isDigit, Cond.code yX6_isDigit cX6_isDigit 1 (some .boolean)]
def wsX6_scan : List Cond := .code yX6_scan cX6_scan 4 none :: ((wsX6_scan_r1 ++ (wsX6_scan_r2 ++ wsX6_scan_r3)) ++ wsX60)
def wsX6_wrong : List Cond := .code yX6_wrong cX6_wrong 2 (some .boolean) :: ([.fieldLink RX6 184 "KeyBoxModel" "faultKind" "I", .fieldLink RX6 161 "KeyBoxModel" "at" "I", .fieldLink RX6 13 "KeyBoxModel" "faultPlace" "I"] ++ wsX60)
def wsX6_low : List Cond := .code yX6_low cX6_low 1 (some .int) :: ([])
def wsX6_high : List Cond := .code yX6_high cX6_high 1 (some .int) :: ([.constant RX6 187 (50000)])
def wsX6_readLine_r1 : List Cond := [Cond.fieldLink RX6 164 "KeyBoxModel" "sort" "I", Cond.fieldLink RX6 175 "KeyBoxModel" "what" "I", Cond.fieldLink RX6 17 "KeyBoxModel" "rules" "[I", Cond.fieldLink RX6 181 "KeyBoxModel" "worth" "I", Cond.methodLink RX6 188 yX6_wrong, Cond.instanceMethod yX6_wrong, Cond.selects RX6 yX6_wrong yX6_wrong, Cond.initialized RX6, Cond.code yX6_wrong cX6_wrong 2 (some .boolean), Cond.fieldLink RX6 184 "KeyBoxModel" "faultKind" "I", Cond.fieldLink RX6 161 "KeyBoxModel" "at" "I", Cond.fieldLink RX6 13 "KeyBoxModel" "faultPlace" "I", Cond.methodLink RX6 191 yX6_scan, Cond.instanceMethod yX6_scan, Cond.selects RX6 yX6_scan yX6_scan, Cond.code yX6_scan cX6_scan 4 none, Cond.fieldLink RX6 158 "KeyBoxModel" "end" "I", Cond.methodLink RX6 155 yX6_see, Cond.instanceMethod yX6_see, Cond.selects RX6 yX6_see yX6_see, Cond.code yX6_see cX6_see 2 (some .int), Cond.fieldLink RX6 140 "KeyBoxModel" "size" "I", Cond.fieldLink RX6 7 "KeyBoxModel" "tape" "[B", Cond.methodLink RX6 167 yX6_isSmall]
def wsX6_readLine_r2 : List Cond := [Cond.static yX6_isSmall, Cond.code yX6_isSmall cX6_isSmall 1 (some .boolean), Cond.methodLink RX6 171 yX6_keyAt, Cond.instanceMethod yX6_keyAt, Cond.selects RX6 yX6_keyAt yX6_keyAt, Cond.code yX6_keyAt cX6_keyAt 8 (some .int), Cond.methodLink RX6 145 yJ0_length_8abf5, Cond.instanceMethod yJ0_length_8abf5, Cond.selects RJ0 yJ0_length_8abf5 yJ0_length_8abf5, Cond.initialized RJ0, Cond.code yJ0_length_8abf5 cJ0_length_8abf5 1 (some .int), Cond.fieldLink RJ0 9 "java/lang/String" "value" "[B", Cond.methodLink RJ0 335 yJ0_coder_7d493, Cond.instanceMethod yJ0_coder_7d493, Cond.selects RJ0 yJ0_coder_7d493 yJ0_coder_7d493, Cond.code yJ0_coder_7d493 cJ0_coder_7d493 1 (some .byte), Cond.fieldLink RJ0 38 "java/lang/String" "COMPACT_STRINGS" "Z", Cond.fieldLink RJ0 15 "java/lang/String" "coder" "B", Cond.methodLink RX6 151 yJ0_charAt_5068e, Cond.instanceMethod yJ0_charAt_5068e, Cond.selects RJ0 yJ0_charAt_5068e yJ0_charAt_5068e, Cond.code yJ0_charAt_5068e cJ0_charAt_5068e 2 (some .char), Cond.methodLink RJ0 492 yJ0_isLatin1_aae02, Cond.instanceMethod yJ0_isLatin1_aae02]
def wsX6_readLine_r3 : List Cond := [Cond.selects RJ0 yJ0_isLatin1_aae02 yJ0_isLatin1_aae02, Cond.code yJ0_isLatin1_aae02 cJ0_isLatin1_aae02 1 (some .boolean), Cond.methodLink RJ0 495 yJ1_charAt_3b067, Cond.static yJ1_charAt_3b067, Cond.initialized RJ1, Cond.code yJ1_charAt_3b067 cJ1_charAt_3b067 2 (some .char), Cond.methodLink RJ1 9 yJ0_checkIndex_df160, Cond.static yJ0_checkIndex_df160, Cond.code yJ0_checkIndex_df160 cJ0_checkIndex_df160 2 none, Cond.fieldLink RJ0 1053 "jdk/internal/util/Preconditions" "SIOOBE_FORMATTER" "Ljava/util/function/BiFunction;", Cond.methodLink RJ0 1059 yJ3_checkIndex_8e157, Cond.static yJ3_checkIndex_8e157, Cond.initialized RJ3, Cond.code yJ3_checkIndex_8e157 cJ3_checkIndex_8e157 3 (some .int), Cond.methodLink RJ0 498 yJ2_charAt_3b067, Cond.static yJ2_charAt_3b067, Cond.initialized RJ2, Cond.code yJ2_charAt_3b067 cJ2_charAt_3b067 2 (some .char), Cond.methodLink RJ2 67 yJ2_checkIndex_2214a, Cond.static yJ2_checkIndex_2214a, Cond.code yJ2_checkIndex_2214a cJ2_checkIndex_2214a 2 none, Cond.methodLink RJ2 48 yJ2_length_9d52b, Cond.static yJ2_length_9d52b, Cond.code yJ2_length_9d52b cJ2_length_9d52b 1 (some .int)]
def wsX6_readLine_r4 : List Cond := [Cond.methodLink RJ2 414 yJ0_checkIndex_df160, Cond.methodLink RJ2 71 yJ2_getChar_3b067, Cond.static yJ2_getChar_3b067, Cond.code yJ2_getChar_3b067 cJ2_getChar_3b067 2 (some .char), Cond.fieldLink RJ2 44 "java/lang/StringUTF16" "$assertionsDisabled" "Z", Cond.fieldLink RJ2 59 "java/lang/StringUTF16" "HI_BYTE_SHIFT" "I", Cond.fieldLink RJ2 63 "java/lang/StringUTF16" "LO_BYTE_SHIFT" "I", Cond.methodLink RX6 178 yX6_isDigit, Cond.static yX6_isDigit, Cond.code yX6_isDigit cX6_isDigit 1 (some .boolean), Cond.methodLink RX6 194 yX6_low, Cond.static yX6_low, Cond.code yX6_low cX6_low 1 (some .int), Cond.methodLink RX6 197 yX6_high, Cond.static yX6_high, Cond.code yX6_high cX6_high 1 (some .int), Cond.constant RX6 187 (50000), Cond.methodLink RX6 200 yX6_in, Cond.static yX6_in, Cond.code yX6_in cX6_in 3 (some .boolean)]
def wsX6_readLine : List Cond := .code yX6_readLine cX6_readLine 4 (some .boolean) :: ((wsX6_readLine_r1 ++ (wsX6_readLine_r2 ++ (wsX6_readLine_r3 ++ wsX6_readLine_r4))) ++ wsX60)
def wsX6_rules_r1 : List Cond := [Cond.fieldLink RX6 137 "KeyBoxModel" "taped" "I", Cond.fieldLink RX6 140 "KeyBoxModel" "size" "I", Cond.fieldLink RX6 184 "KeyBoxModel" "faultKind" "I", Cond.fieldLink RX6 13 "KeyBoxModel" "faultPlace" "I", Cond.fieldLink RX6 17 "KeyBoxModel" "rules" "[I", Cond.fieldLink RX6 158 "KeyBoxModel" "end" "I", Cond.fieldLink RX6 164 "KeyBoxModel" "sort" "I", Cond.fieldLink RX6 175 "KeyBoxModel" "what" "I", Cond.fieldLink RX6 130 "KeyBoxModel" "played" "I", Cond.methodLink RX6 200 yX6_in, Cond.static yX6_in, Cond.initialized RX6, Cond.code yX6_in cX6_in 3 (some .boolean), Cond.methodLink RX6 133 yX6_plain, Cond.static yX6_plain, Cond.code yX6_plain cX6_plain 1 (some .int), Cond.methodLink RX6 191 yX6_scan, Cond.instanceMethod yX6_scan, Cond.selects RX6 yX6_scan yX6_scan, Cond.code yX6_scan cX6_scan 4 none, Cond.fieldLink RX6 161 "KeyBoxModel" "at" "I", Cond.fieldLink RX6 181 "KeyBoxModel" "worth" "I", Cond.methodLink RX6 155 yX6_see, Cond.instanceMethod yX6_see]
def wsX6_rules_r2 : List Cond := [Cond.selects RX6 yX6_see yX6_see, Cond.code yX6_see cX6_see 2 (some .int), Cond.fieldLink RX6 7 "KeyBoxModel" "tape" "[B", Cond.methodLink RX6 167 yX6_isSmall, Cond.static yX6_isSmall, Cond.code yX6_isSmall cX6_isSmall 1 (some .boolean), Cond.methodLink RX6 171 yX6_keyAt, Cond.instanceMethod yX6_keyAt, Cond.selects RX6 yX6_keyAt yX6_keyAt, Cond.code yX6_keyAt cX6_keyAt 8 (some .int), Cond.methodLink RX6 145 yJ0_length_8abf5, Cond.instanceMethod yJ0_length_8abf5, Cond.selects RJ0 yJ0_length_8abf5 yJ0_length_8abf5, Cond.initialized RJ0, Cond.code yJ0_length_8abf5 cJ0_length_8abf5 1 (some .int), Cond.fieldLink RJ0 9 "java/lang/String" "value" "[B", Cond.methodLink RJ0 335 yJ0_coder_7d493, Cond.instanceMethod yJ0_coder_7d493, Cond.selects RJ0 yJ0_coder_7d493 yJ0_coder_7d493, Cond.code yJ0_coder_7d493 cJ0_coder_7d493 1 (some .byte), Cond.fieldLink RJ0 38 "java/lang/String" "COMPACT_STRINGS" "Z", Cond.fieldLink RJ0 15 "java/lang/String" "coder" "B", Cond.methodLink RX6 151 yJ0_charAt_5068e, Cond.instanceMethod yJ0_charAt_5068e]
def wsX6_rules_r3 : List Cond := [Cond.selects RJ0 yJ0_charAt_5068e yJ0_charAt_5068e, Cond.code yJ0_charAt_5068e cJ0_charAt_5068e 2 (some .char), Cond.methodLink RJ0 492 yJ0_isLatin1_aae02, Cond.instanceMethod yJ0_isLatin1_aae02, Cond.selects RJ0 yJ0_isLatin1_aae02 yJ0_isLatin1_aae02, Cond.code yJ0_isLatin1_aae02 cJ0_isLatin1_aae02 1 (some .boolean), Cond.methodLink RJ0 495 yJ1_charAt_3b067, Cond.static yJ1_charAt_3b067, Cond.initialized RJ1, Cond.code yJ1_charAt_3b067 cJ1_charAt_3b067 2 (some .char), Cond.methodLink RJ1 9 yJ0_checkIndex_df160, Cond.static yJ0_checkIndex_df160, Cond.code yJ0_checkIndex_df160 cJ0_checkIndex_df160 2 none, Cond.fieldLink RJ0 1053 "jdk/internal/util/Preconditions" "SIOOBE_FORMATTER" "Ljava/util/function/BiFunction;", Cond.methodLink RJ0 1059 yJ3_checkIndex_8e157, Cond.static yJ3_checkIndex_8e157, Cond.initialized RJ3, Cond.code yJ3_checkIndex_8e157 cJ3_checkIndex_8e157 3 (some .int), Cond.methodLink RJ0 498 yJ2_charAt_3b067, Cond.static yJ2_charAt_3b067, Cond.initialized RJ2, Cond.code yJ2_charAt_3b067 cJ2_charAt_3b067 2 (some .char), Cond.methodLink RJ2 67 yJ2_checkIndex_2214a, Cond.static yJ2_checkIndex_2214a]
def wsX6_rules_r4 : List Cond := [Cond.code yJ2_checkIndex_2214a cJ2_checkIndex_2214a 2 none, Cond.methodLink RJ2 48 yJ2_length_9d52b, Cond.static yJ2_length_9d52b, Cond.code yJ2_length_9d52b cJ2_length_9d52b 1 (some .int), Cond.methodLink RJ2 414 yJ0_checkIndex_df160, Cond.methodLink RJ2 71 yJ2_getChar_3b067, Cond.static yJ2_getChar_3b067, Cond.code yJ2_getChar_3b067 cJ2_getChar_3b067 2 (some .char), Cond.fieldLink RJ2 44 "java/lang/StringUTF16" "$assertionsDisabled" "Z", Cond.fieldLink RJ2 59 "java/lang/StringUTF16" "HI_BYTE_SHIFT" "I", Cond.fieldLink RJ2 63 "java/lang/StringUTF16" "LO_BYTE_SHIFT" "I", Cond.methodLink RX6 178 yX6_isDigit, Cond.static yX6_isDigit, Cond.code yX6_isDigit cX6_isDigit 1 (some .boolean), Cond.methodLink RX6 204 yX6_readLine, Cond.instanceMethod yX6_readLine, Cond.selects RX6 yX6_readLine yX6_readLine, Cond.code yX6_readLine cX6_readLine 4 (some .boolean), Cond.methodLink RX6 188 yX6_wrong, Cond.instanceMethod yX6_wrong, Cond.selects RX6 yX6_wrong yX6_wrong, Cond.code yX6_wrong cX6_wrong 2 (some .boolean), Cond.methodLink RX6 194 yX6_low, Cond.static yX6_low]
def wsX6_rules_r5 : List Cond := [Cond.code yX6_low cX6_low 1 (some .int), Cond.methodLink RX6 197 yX6_high, Cond.static yX6_high, Cond.code yX6_high cX6_high 1 (some .int), Cond.constant RX6 187 (50000)]
def wsX6_rules : List Cond := .code yX6_rules cX6_rules 5 (some .int) :: ((wsX6_rules_r1 ++ (wsX6_rules_r2 ++ (wsX6_rules_r3 ++ (wsX6_rules_r4 ++ wsX6_rules_r5)))) ++ wsX60)
def wsX6_fault : List Cond := .code yX6_fault cX6_fault 2 (some .int) :: ([.fieldLink RX6 184 "KeyBoxModel" "faultKind" "I", .fieldLink RX6 13 "KeyBoxModel" "faultPlace" "I"] ++ wsX60)
def wsX6_rule : List Cond := .code yX6_rule cX6_rule 3 (some .int) :: ([.fieldLink RX6 17 "KeyBoxModel" "rules" "[I", .methodLink RX6 200 yX6_in, .static yX6_in, .initialized RX6, .code yX6_in cX6_in 3 (some .boolean)] ++ wsX60)
def wsX6_members : List Cond := .code yX6_members cX6_members 2 (some .int) :: ([.fieldLink RX6 207 "KeyBoxModel" "entries" "I", .fieldLink RX6 21 "KeyBoxModel" "members" "I", .fieldLink RX6 130 "KeyBoxModel" "played" "I", .methodLink RX6 200 yX6_in, .static yX6_in, .initialized RX6, .code yX6_in cX6_in 3 (some .boolean)] ++ wsX60)
def wsX6_lastWeek : List Cond := .code yX6_lastWeek cX6_lastWeek 2 (some .int) :: ([.fieldLink RX6 207 "KeyBoxModel" "entries" "I", .fieldLink RX6 24 "KeyBoxModel" "kind" "[I", .fieldLink RX6 27 "KeyBoxModel" "who" "[I"] ++ wsX60)
def wsX6_add : List Cond := .code yX6_add cX6_add 4 (some .int) :: ([.fieldLink RX6 207 "KeyBoxModel" "entries" "I", .fieldLink RX6 24 "KeyBoxModel" "kind" "[I", .fieldLink RX6 27 "KeyBoxModel" "who" "[I", .fieldLink RX6 30 "KeyBoxModel" "much" "[I", .fieldLink RX6 130 "KeyBoxModel" "played" "I"] ++ wsX60)
def wsX6_meet : List Cond := .code yX6_meet cX6_meet 3 (some .int) :: ([.fieldLink RX6 21 "KeyBoxModel" "members" "I", .methodLink RX6 210 yX6_lastWeek, .instanceMethod yX6_lastWeek, .selects RX6 yX6_lastWeek yX6_lastWeek, .initialized RX6, .code yX6_lastWeek cX6_lastWeek 2 (some .int), .fieldLink RX6 207 "KeyBoxModel" "entries" "I", .fieldLink RX6 24 "KeyBoxModel" "kind" "[I", .fieldLink RX6 27 "KeyBoxModel" "who" "[I", .methodLink RX6 200 yX6_in, .static yX6_in, .code yX6_in cX6_in 3 (some .boolean), .methodLink RX6 213 yX6_add, .instanceMethod yX6_add, .selects RX6 yX6_add yX6_add, .code yX6_add cX6_add 4 (some .int), .fieldLink RX6 30 "KeyBoxModel" "much" "[I", .fieldLink RX6 130 "KeyBoxModel" "played" "I"] ++ wsX60)
def wsX6_enter : List Cond := .code yX6_enter cX6_enter 5 (some .int) :: ([.fieldLink RX6 21 "KeyBoxModel" "members" "I", .constant RX6 217 (100000), .constant RX6 218 (1000000), .methodLink RX6 200 yX6_in, .static yX6_in, .initialized RX6, .code yX6_in cX6_in 3 (some .boolean), .methodLink RX6 210 yX6_lastWeek, .instanceMethod yX6_lastWeek, .selects RX6 yX6_lastWeek yX6_lastWeek, .code yX6_lastWeek cX6_lastWeek 2 (some .int), .fieldLink RX6 207 "KeyBoxModel" "entries" "I", .fieldLink RX6 24 "KeyBoxModel" "kind" "[I", .fieldLink RX6 27 "KeyBoxModel" "who" "[I", .methodLink RX6 213 yX6_add, .instanceMethod yX6_add, .selects RX6 yX6_add yX6_add, .code yX6_add cX6_add 4 (some .int), .fieldLink RX6 30 "KeyBoxModel" "much" "[I", .fieldLink RX6 130 "KeyBoxModel" "played" "I"] ++ wsX60)
def wsX6_entry : List Cond := .code yX6_entry cX6_entry 3 (some .int) :: ([.fieldLink RX6 207 "KeyBoxModel" "entries" "I", .fieldLink RX6 24 "KeyBoxModel" "kind" "[I", .fieldLink RX6 27 "KeyBoxModel" "who" "[I", .fieldLink RX6 30 "KeyBoxModel" "much" "[I", .methodLink RX6 200 yX6_in, .static yX6_in, .initialized RX6, .code yX6_in cX6_in 3 (some .boolean)] ++ wsX60)
def wsX6_back : List Cond := .code yX6_back cX6_back 1 (some .int) :: ([.fieldLink RX6 207 "KeyBoxModel" "entries" "I", .fieldLink RX6 130 "KeyBoxModel" "played" "I"] ++ wsX60)
def wsX6_ruleOf : List Cond := .code yX6_ruleOf cX6_ruleOf 3 (some .int) :: ([.fieldLink RX6 17 "KeyBoxModel" "rules" "[I", .fieldLink RX6 33 "KeyBoxModel" "by" "[I"] ++ wsX60)
def wsX6_begin : List Cond := .code yX6_begin cX6_begin 4 none :: ([.fieldLink RX6 33 "KeyBoxModel" "by" "[I", .fieldLink RX6 36 "KeyBoxModel" "box" "[I", .fieldLink RX6 39 "KeyBoxModel" "fund" "[I", .fieldLink RX6 97 "KeyBoxModel" "opened" "[I", .fieldLink RX6 100 "KeyBoxModel" "shut" "[I", .fieldLink RX6 109 "KeyBoxModel" "lostGone" "[I", .fieldLink RX6 112 "KeyBoxModel" "lostOut" "[I", .fieldLink RX6 115 "KeyBoxModel" "robbed" "[I", .fieldLink RX6 118 "KeyBoxModel" "fundPaid" "[I", .fieldLink RX6 121 "KeyBoxModel" "interest" "[I", .fieldLink RX6 42 "KeyBoxModel" "stamps" "[I", .fieldLink RX6 45 "KeyBoxModel" "bought" "[I", .fieldLink RX6 48 "KeyBoxModel" "owes" "[I", .fieldLink RX6 57 "KeyBoxModel" "lent" "[I", .fieldLink RX6 60 "KeyBoxModel" "paidBack" "[I", .fieldLink RX6 63 "KeyBoxModel" "dues" "[I", .fieldLink RX6 66 "KeyBoxModel" "waited" "[I", .fieldLink RX6 69 "KeyBoxModel" "refused" "[I", .fieldLink RX6 72 "KeyBoxModel" "gone" "[Z", .fieldLink RX6 76 "KeyBoxModel" "gotGone" "[I", .fieldLink RX6 88 "KeyBoxModel" "asks" "[I", .fieldLink RX6 219 "KeyBoxModel" "toldMany" "I"] ++ wsX60)
def wsX6_hasKey : List Cond := .code yX6_hasKey cX6_hasKey 3 (some .boolean) :: ([.fieldLink RX6 124 "KeyBoxModel" "key" "[I"] ++ wsX60)
def wsX6_giveKeys : List Cond := .code yX6_giveKeys cX6_giveKeys 7 none :: ([.fieldLink RX6 21 "KeyBoxModel" "members" "I", .fieldLink RX6 124 "KeyBoxModel" "key" "[I", .fieldLink RX6 72 "KeyBoxModel" "gone" "[Z", .methodLink RX6 222 yX6_ruleOf, .instanceMethod yX6_ruleOf, .selects RX6 yX6_ruleOf yX6_ruleOf, .initialized RX6, .code yX6_ruleOf cX6_ruleOf 3 (some .int), .fieldLink RX6 17 "KeyBoxModel" "rules" "[I", .fieldLink RX6 33 "KeyBoxModel" "by" "[I", .methodLink RX6 225 yX6_hasKey, .instanceMethod yX6_hasKey, .selects RX6 yX6_hasKey yX6_hasKey, .code yX6_hasKey cX6_hasKey 3 (some .boolean)] ++ wsX60)
def wsX6_isOpen : List Cond := .code yX6_isOpen cX6_isOpen 5 (some .boolean) :: ([.fieldLink RX6 124 "KeyBoxModel" "key" "[I"] ++ wsX60)
def wsX6_owed : List Cond := .code yX6_owed cX6_owed 4 (some .int) :: ([.fieldLink RX6 21 "KeyBoxModel" "members" "I", .fieldLink RX6 48 "KeyBoxModel" "owes" "[I"] ++ wsX60)
def wsX6_allStamps : List Cond := .code yX6_allStamps cX6_allStamps 4 (some .int) :: ([.fieldLink RX6 21 "KeyBoxModel" "members" "I", .fieldLink RX6 42 "KeyBoxModel" "stamps" "[I"] ++ wsX60)
def wsX6_part : List Cond := .code yX6_part cX6_part 3 (some .int) :: ([])
def wsX6_opens : List Cond := .code yX6_opens cX6_opens 8 none :: ([.fieldLink RX6 21 "KeyBoxModel" "members" "I", .fieldLink RX6 94 "KeyBoxModel" "today" "[I", .fieldLink RX6 72 "KeyBoxModel" "gone" "[Z", .fieldLink RX6 63 "KeyBoxModel" "dues" "[I", .fieldLink RX6 39 "KeyBoxModel" "fund" "[I", .fieldLink RX6 36 "KeyBoxModel" "box" "[I", .fieldLink RX6 48 "KeyBoxModel" "owes" "[I", .fieldLink RX6 54 "KeyBoxModel" "grown" "[I", .fieldLink RX6 121 "KeyBoxModel" "interest" "[I", .fieldLink RX6 51 "KeyBoxModel" "since" "[I", .methodLink RX6 222 yX6_ruleOf, .instanceMethod yX6_ruleOf, .selects RX6 yX6_ruleOf yX6_ruleOf, .initialized RX6, .code yX6_ruleOf cX6_ruleOf 3 (some .int), .fieldLink RX6 17 "KeyBoxModel" "rules" "[I", .fieldLink RX6 33 "KeyBoxModel" "by" "[I", .methodLink RX6 229 yX6_part, .static yX6_part, .code yX6_part cX6_part 3 (some .int)] ++ wsX60)
def wsX6_leaves : List Cond := .code yX6_leaves cX6_leaves 5 none :: ([.fieldLink RX6 36 "KeyBoxModel" "box" "[I", .fieldLink RX6 42 "KeyBoxModel" "stamps" "[I", .fieldLink RX6 48 "KeyBoxModel" "owes" "[I", .fieldLink RX6 76 "KeyBoxModel" "gotGone" "[I", .fieldLink RX6 109 "KeyBoxModel" "lostGone" "[I", .fieldLink RX6 88 "KeyBoxModel" "asks" "[I", .fieldLink RX6 72 "KeyBoxModel" "gone" "[Z", .methodLink RX6 232 yX6_owed, .instanceMethod yX6_owed, .selects RX6 yX6_owed yX6_owed, .initialized RX6, .code yX6_owed cX6_owed 4 (some .int), .fieldLink RX6 21 "KeyBoxModel" "members" "I", .methodLink RX6 235 yX6_allStamps, .instanceMethod yX6_allStamps, .selects RX6 yX6_allStamps yX6_allStamps, .code yX6_allStamps cX6_allStamps 4 (some .int), .methodLink RX6 229 yX6_part, .static yX6_part, .code yX6_part cX6_part 3 (some .int)] ++ wsX60)
def wsX6_does_r1 : List Cond := [Cond.fieldLink RX6 27 "KeyBoxModel" "who" "[I", Cond.fieldLink RX6 30 "KeyBoxModel" "much" "[I", Cond.fieldLink RX6 72 "KeyBoxModel" "gone" "[Z", Cond.fieldLink RX6 24 "KeyBoxModel" "kind" "[I", Cond.fieldLink RX6 39 "KeyBoxModel" "fund" "[I", Cond.fieldLink RX6 118 "KeyBoxModel" "fundPaid" "[I", Cond.fieldLink RX6 94 "KeyBoxModel" "today" "[I", Cond.fieldLink RX6 42 "KeyBoxModel" "stamps" "[I", Cond.fieldLink RX6 45 "KeyBoxModel" "bought" "[I", Cond.fieldLink RX6 36 "KeyBoxModel" "box" "[I", Cond.fieldLink RX6 48 "KeyBoxModel" "owes" "[I", Cond.fieldLink RX6 60 "KeyBoxModel" "paidBack" "[I", Cond.fieldLink RX6 63 "KeyBoxModel" "dues" "[I", Cond.fieldLink RX6 88 "KeyBoxModel" "asks" "[I", Cond.fieldLink RX6 69 "KeyBoxModel" "refused" "[I", Cond.fieldLink RX6 91 "KeyBoxModel" "askAt" "[I", Cond.methodLink RX6 222 yX6_ruleOf, Cond.instanceMethod yX6_ruleOf, Cond.selects RX6 yX6_ruleOf yX6_ruleOf, Cond.initialized RX6, Cond.code yX6_ruleOf cX6_ruleOf 3 (some .int), Cond.fieldLink RX6 17 "KeyBoxModel" "rules" "[I", Cond.fieldLink RX6 33 "KeyBoxModel" "by" "[I", Cond.methodLink RX6 238 yX6_leaves]
def wsX6_does_r2 : List Cond := [Cond.instanceMethod yX6_leaves, Cond.selects RX6 yX6_leaves yX6_leaves, Cond.code yX6_leaves cX6_leaves 5 none, Cond.fieldLink RX6 76 "KeyBoxModel" "gotGone" "[I", Cond.fieldLink RX6 109 "KeyBoxModel" "lostGone" "[I", Cond.methodLink RX6 232 yX6_owed, Cond.instanceMethod yX6_owed, Cond.selects RX6 yX6_owed yX6_owed, Cond.code yX6_owed cX6_owed 4 (some .int), Cond.fieldLink RX6 21 "KeyBoxModel" "members" "I", Cond.methodLink RX6 235 yX6_allStamps, Cond.instanceMethod yX6_allStamps, Cond.selects RX6 yX6_allStamps yX6_allStamps, Cond.code yX6_allStamps cX6_allStamps 4 (some .int), Cond.methodLink RX6 229 yX6_part, Cond.static yX6_part, Cond.code yX6_part cX6_part 3 (some .int)]
def wsX6_does : List Cond := .code yX6_does cX6_does 8 none :: ((wsX6_does_r1 ++ wsX6_does_r2) ++ wsX60)
def wsX6_isAhead : List Cond := .code yX6_isAhead cX6_isAhead 6 (some .boolean) :: ([.fieldLink RX6 88 "KeyBoxModel" "asks" "[I", .fieldLink RX6 42 "KeyBoxModel" "stamps" "[I", .fieldLink RX6 91 "KeyBoxModel" "askAt" "[I", .methodLink RX6 222 yX6_ruleOf, .instanceMethod yX6_ruleOf, .selects RX6 yX6_ruleOf yX6_ruleOf, .initialized RX6, .code yX6_ruleOf cX6_ruleOf 3 (some .int), .fieldLink RX6 17 "KeyBoxModel" "rules" "[I", .fieldLink RX6 33 "KeyBoxModel" "by" "[I"] ++ wsX60)
def wsX6_lends_r1 : List Cond := [Cond.fieldLink RX6 21 "KeyBoxModel" "members" "I", Cond.fieldLink RX6 88 "KeyBoxModel" "asks" "[I", Cond.fieldLink RX6 36 "KeyBoxModel" "box" "[I", Cond.fieldLink RX6 66 "KeyBoxModel" "waited" "[I", Cond.fieldLink RX6 57 "KeyBoxModel" "lent" "[I", Cond.fieldLink RX6 121 "KeyBoxModel" "interest" "[I", Cond.fieldLink RX6 48 "KeyBoxModel" "owes" "[I", Cond.fieldLink RX6 51 "KeyBoxModel" "since" "[I", Cond.fieldLink RX6 54 "KeyBoxModel" "grown" "[I", Cond.methodLink RX6 242 yX6_isAhead, Cond.instanceMethod yX6_isAhead, Cond.selects RX6 yX6_isAhead yX6_isAhead, Cond.initialized RX6, Cond.code yX6_isAhead cX6_isAhead 6 (some .boolean), Cond.fieldLink RX6 42 "KeyBoxModel" "stamps" "[I", Cond.fieldLink RX6 91 "KeyBoxModel" "askAt" "[I", Cond.methodLink RX6 222 yX6_ruleOf, Cond.instanceMethod yX6_ruleOf, Cond.selects RX6 yX6_ruleOf yX6_ruleOf, Cond.code yX6_ruleOf cX6_ruleOf 3 (some .int), Cond.fieldLink RX6 17 "KeyBoxModel" "rules" "[I", Cond.fieldLink RX6 33 "KeyBoxModel" "by" "[I", Cond.methodLink RX6 229 yX6_part, Cond.static yX6_part]
def wsX6_lends_r2 : List Cond := [Cond.code yX6_part cX6_part 3 (some .int)]
def wsX6_lends : List Cond := .code yX6_lends cX6_lends 8 none :: ((wsX6_lends_r1 ++ wsX6_lends_r2) ++ wsX60)
def wsX6_keep : List Cond := .code yX6_keep cX6_keep 6 none :: ([.fieldLink RX6 219 "KeyBoxModel" "toldMany" "I", .fieldLink RX6 21 "KeyBoxModel" "members" "I", .fieldLink RX6 88 "KeyBoxModel" "asks" "[I", .fieldLink RX6 127 "KeyBoxModel" "told" "[I", .fieldLink RX6 36 "KeyBoxModel" "box" "[I", .fieldLink RX6 39 "KeyBoxModel" "fund" "[I", .fieldLink RX6 124 "KeyBoxModel" "key" "[I", .methodLink RX6 232 yX6_owed, .instanceMethod yX6_owed, .selects RX6 yX6_owed yX6_owed, .initialized RX6, .code yX6_owed cX6_owed 4 (some .int), .fieldLink RX6 48 "KeyBoxModel" "owes" "[I", .methodLink RX6 235 yX6_allStamps, .instanceMethod yX6_allStamps, .selects RX6 yX6_allStamps yX6_allStamps, .code yX6_allStamps cX6_allStamps 4 (some .int), .fieldLink RX6 42 "KeyBoxModel" "stamps" "[I"] ++ wsX60)
def wsX6_meets_r1 : List Cond := [Cond.fieldLink RX6 27 "KeyBoxModel" "who" "[I", Cond.fieldLink RX6 30 "KeyBoxModel" "much" "[I", Cond.fieldLink RX6 97 "KeyBoxModel" "opened" "[I", Cond.fieldLink RX6 100 "KeyBoxModel" "shut" "[I", Cond.fieldLink RX6 207 "KeyBoxModel" "entries" "I", Cond.fieldLink RX6 24 "KeyBoxModel" "kind" "[I", Cond.fieldLink RX6 36 "KeyBoxModel" "box" "[I", Cond.fieldLink RX6 115 "KeyBoxModel" "robbed" "[I", Cond.methodLink RX6 245 yX6_giveKeys, Cond.instanceMethod yX6_giveKeys, Cond.selects RX6 yX6_giveKeys yX6_giveKeys, Cond.initialized RX6, Cond.code yX6_giveKeys cX6_giveKeys 7 none, Cond.fieldLink RX6 21 "KeyBoxModel" "members" "I", Cond.fieldLink RX6 124 "KeyBoxModel" "key" "[I", Cond.fieldLink RX6 72 "KeyBoxModel" "gone" "[Z", Cond.methodLink RX6 222 yX6_ruleOf, Cond.instanceMethod yX6_ruleOf, Cond.selects RX6 yX6_ruleOf yX6_ruleOf, Cond.code yX6_ruleOf cX6_ruleOf 3 (some .int), Cond.fieldLink RX6 17 "KeyBoxModel" "rules" "[I", Cond.fieldLink RX6 33 "KeyBoxModel" "by" "[I", Cond.methodLink RX6 225 yX6_hasKey, Cond.instanceMethod yX6_hasKey]
def wsX6_meets_r2 : List Cond := [Cond.selects RX6 yX6_hasKey yX6_hasKey, Cond.code yX6_hasKey cX6_hasKey 3 (some .boolean), Cond.methodLink RX6 248 yX6_isOpen, Cond.instanceMethod yX6_isOpen, Cond.selects RX6 yX6_isOpen yX6_isOpen, Cond.code yX6_isOpen cX6_isOpen 5 (some .boolean), Cond.methodLink RX6 251 yX6_opens, Cond.instanceMethod yX6_opens, Cond.selects RX6 yX6_opens yX6_opens, Cond.code yX6_opens cX6_opens 8 none, Cond.fieldLink RX6 94 "KeyBoxModel" "today" "[I", Cond.fieldLink RX6 63 "KeyBoxModel" "dues" "[I", Cond.fieldLink RX6 39 "KeyBoxModel" "fund" "[I", Cond.fieldLink RX6 48 "KeyBoxModel" "owes" "[I", Cond.fieldLink RX6 54 "KeyBoxModel" "grown" "[I", Cond.fieldLink RX6 121 "KeyBoxModel" "interest" "[I", Cond.fieldLink RX6 51 "KeyBoxModel" "since" "[I", Cond.methodLink RX6 229 yX6_part, Cond.static yX6_part, Cond.code yX6_part cX6_part 3 (some .int), Cond.methodLink RX6 255 yX6_does, Cond.instanceMethod yX6_does, Cond.selects RX6 yX6_does yX6_does, Cond.code yX6_does cX6_does 8 none]
def wsX6_meets_r3 : List Cond := [Cond.fieldLink RX6 118 "KeyBoxModel" "fundPaid" "[I", Cond.fieldLink RX6 42 "KeyBoxModel" "stamps" "[I", Cond.fieldLink RX6 45 "KeyBoxModel" "bought" "[I", Cond.fieldLink RX6 60 "KeyBoxModel" "paidBack" "[I", Cond.fieldLink RX6 88 "KeyBoxModel" "asks" "[I", Cond.fieldLink RX6 69 "KeyBoxModel" "refused" "[I", Cond.fieldLink RX6 91 "KeyBoxModel" "askAt" "[I", Cond.methodLink RX6 238 yX6_leaves, Cond.instanceMethod yX6_leaves, Cond.selects RX6 yX6_leaves yX6_leaves, Cond.code yX6_leaves cX6_leaves 5 none, Cond.fieldLink RX6 76 "KeyBoxModel" "gotGone" "[I", Cond.fieldLink RX6 109 "KeyBoxModel" "lostGone" "[I", Cond.methodLink RX6 232 yX6_owed, Cond.instanceMethod yX6_owed, Cond.selects RX6 yX6_owed yX6_owed, Cond.code yX6_owed cX6_owed 4 (some .int), Cond.methodLink RX6 235 yX6_allStamps, Cond.instanceMethod yX6_allStamps, Cond.selects RX6 yX6_allStamps yX6_allStamps, Cond.code yX6_allStamps cX6_allStamps 4 (some .int), Cond.methodLink RX6 258 yX6_lends, Cond.instanceMethod yX6_lends, Cond.selects RX6 yX6_lends yX6_lends]
def wsX6_meets_r4 : List Cond := [Cond.code yX6_lends cX6_lends 8 none, Cond.fieldLink RX6 66 "KeyBoxModel" "waited" "[I", Cond.fieldLink RX6 57 "KeyBoxModel" "lent" "[I", Cond.methodLink RX6 242 yX6_isAhead, Cond.instanceMethod yX6_isAhead, Cond.selects RX6 yX6_isAhead yX6_isAhead, Cond.code yX6_isAhead cX6_isAhead 6 (some .boolean), Cond.methodLink RX6 261 yX6_keep, Cond.instanceMethod yX6_keep, Cond.selects RX6 yX6_keep yX6_keep, Cond.code yX6_keep cX6_keep 6 none, Cond.fieldLink RX6 219 "KeyBoxModel" "toldMany" "I", Cond.fieldLink RX6 127 "KeyBoxModel" "told" "[I"]
def wsX6_meets : List Cond := .code yX6_meets cX6_meets 8 (some .int) :: ((wsX6_meets_r1 ++ (wsX6_meets_r2 ++ (wsX6_meets_r3 ++ wsX6_meets_r4))) ++ wsX60)
def wsX6_parting : List Cond := .code yX6_parting cX6_parting 6 none :: ([.fieldLink RX6 103 "KeyBoxModel" "total" "[I", .fieldLink RX6 36 "KeyBoxModel" "box" "[I", .fieldLink RX6 21 "KeyBoxModel" "members" "I", .fieldLink RX6 85 "KeyBoxModel" "isOut" "[Z", .fieldLink RX6 42 "KeyBoxModel" "stamps" "[I", .fieldLink RX6 72 "KeyBoxModel" "gone" "[Z", .fieldLink RX6 48 "KeyBoxModel" "owes" "[I", .fieldLink RX6 112 "KeyBoxModel" "lostOut" "[I", .fieldLink RX6 106 "KeyBoxModel" "rest" "[I", .fieldLink RX6 79 "KeyBoxModel" "share" "[I", .fieldLink RX6 82 "KeyBoxModel" "gets" "[I", .methodLink RX6 232 yX6_owed, .instanceMethod yX6_owed, .selects RX6 yX6_owed yX6_owed, .initialized RX6, .code yX6_owed cX6_owed 4 (some .int), .methodLink RX6 235 yX6_allStamps, .instanceMethod yX6_allStamps, .selects RX6 yX6_allStamps yX6_allStamps, .code yX6_allStamps cX6_allStamps 4 (some .int), .methodLink RX6 229 yX6_part, .static yX6_part, .code yX6_part cX6_part 3 (some .int)] ++ wsX60)
def wsX6_run_r1 : List Cond := [Cond.fieldLink RX6 207 "KeyBoxModel" "entries" "I", Cond.methodLink RX6 265 yX6_begin, Cond.instanceMethod yX6_begin, Cond.selects RX6 yX6_begin yX6_begin, Cond.initialized RX6, Cond.code yX6_begin cX6_begin 4 none, Cond.fieldLink RX6 33 "KeyBoxModel" "by" "[I", Cond.fieldLink RX6 36 "KeyBoxModel" "box" "[I", Cond.fieldLink RX6 39 "KeyBoxModel" "fund" "[I", Cond.fieldLink RX6 97 "KeyBoxModel" "opened" "[I", Cond.fieldLink RX6 100 "KeyBoxModel" "shut" "[I", Cond.fieldLink RX6 109 "KeyBoxModel" "lostGone" "[I", Cond.fieldLink RX6 112 "KeyBoxModel" "lostOut" "[I", Cond.fieldLink RX6 115 "KeyBoxModel" "robbed" "[I", Cond.fieldLink RX6 118 "KeyBoxModel" "fundPaid" "[I", Cond.fieldLink RX6 121 "KeyBoxModel" "interest" "[I", Cond.fieldLink RX6 42 "KeyBoxModel" "stamps" "[I", Cond.fieldLink RX6 45 "KeyBoxModel" "bought" "[I", Cond.fieldLink RX6 48 "KeyBoxModel" "owes" "[I", Cond.fieldLink RX6 57 "KeyBoxModel" "lent" "[I", Cond.fieldLink RX6 60 "KeyBoxModel" "paidBack" "[I", Cond.fieldLink RX6 63 "KeyBoxModel" "dues" "[I", Cond.fieldLink RX6 66 "KeyBoxModel" "waited" "[I", Cond.fieldLink RX6 69 "KeyBoxModel" "refused" "[I"]
def wsX6_run_r2 : List Cond := [Cond.fieldLink RX6 72 "KeyBoxModel" "gone" "[Z", Cond.fieldLink RX6 76 "KeyBoxModel" "gotGone" "[I", Cond.fieldLink RX6 88 "KeyBoxModel" "asks" "[I", Cond.fieldLink RX6 219 "KeyBoxModel" "toldMany" "I", Cond.methodLink RX6 268 yX6_meets, Cond.instanceMethod yX6_meets, Cond.selects RX6 yX6_meets yX6_meets, Cond.code yX6_meets cX6_meets 8 (some .int), Cond.fieldLink RX6 27 "KeyBoxModel" "who" "[I", Cond.fieldLink RX6 30 "KeyBoxModel" "much" "[I", Cond.fieldLink RX6 24 "KeyBoxModel" "kind" "[I", Cond.methodLink RX6 245 yX6_giveKeys, Cond.instanceMethod yX6_giveKeys, Cond.selects RX6 yX6_giveKeys yX6_giveKeys, Cond.code yX6_giveKeys cX6_giveKeys 7 none, Cond.fieldLink RX6 21 "KeyBoxModel" "members" "I", Cond.fieldLink RX6 124 "KeyBoxModel" "key" "[I", Cond.methodLink RX6 222 yX6_ruleOf, Cond.instanceMethod yX6_ruleOf, Cond.selects RX6 yX6_ruleOf yX6_ruleOf, Cond.code yX6_ruleOf cX6_ruleOf 3 (some .int), Cond.fieldLink RX6 17 "KeyBoxModel" "rules" "[I", Cond.methodLink RX6 225 yX6_hasKey, Cond.instanceMethod yX6_hasKey]
def wsX6_run_r3 : List Cond := [Cond.selects RX6 yX6_hasKey yX6_hasKey, Cond.code yX6_hasKey cX6_hasKey 3 (some .boolean), Cond.methodLink RX6 248 yX6_isOpen, Cond.instanceMethod yX6_isOpen, Cond.selects RX6 yX6_isOpen yX6_isOpen, Cond.code yX6_isOpen cX6_isOpen 5 (some .boolean), Cond.methodLink RX6 251 yX6_opens, Cond.instanceMethod yX6_opens, Cond.selects RX6 yX6_opens yX6_opens, Cond.code yX6_opens cX6_opens 8 none, Cond.fieldLink RX6 94 "KeyBoxModel" "today" "[I", Cond.fieldLink RX6 54 "KeyBoxModel" "grown" "[I", Cond.fieldLink RX6 51 "KeyBoxModel" "since" "[I", Cond.methodLink RX6 229 yX6_part, Cond.static yX6_part, Cond.code yX6_part cX6_part 3 (some .int), Cond.methodLink RX6 255 yX6_does, Cond.instanceMethod yX6_does, Cond.selects RX6 yX6_does yX6_does, Cond.code yX6_does cX6_does 8 none, Cond.fieldLink RX6 91 "KeyBoxModel" "askAt" "[I", Cond.methodLink RX6 238 yX6_leaves, Cond.instanceMethod yX6_leaves, Cond.selects RX6 yX6_leaves yX6_leaves]
def wsX6_run_r4 : List Cond := [Cond.code yX6_leaves cX6_leaves 5 none, Cond.methodLink RX6 232 yX6_owed, Cond.instanceMethod yX6_owed, Cond.selects RX6 yX6_owed yX6_owed, Cond.code yX6_owed cX6_owed 4 (some .int), Cond.methodLink RX6 235 yX6_allStamps, Cond.instanceMethod yX6_allStamps, Cond.selects RX6 yX6_allStamps yX6_allStamps, Cond.code yX6_allStamps cX6_allStamps 4 (some .int), Cond.methodLink RX6 258 yX6_lends, Cond.instanceMethod yX6_lends, Cond.selects RX6 yX6_lends yX6_lends, Cond.code yX6_lends cX6_lends 8 none, Cond.methodLink RX6 242 yX6_isAhead, Cond.instanceMethod yX6_isAhead, Cond.selects RX6 yX6_isAhead yX6_isAhead, Cond.code yX6_isAhead cX6_isAhead 6 (some .boolean), Cond.methodLink RX6 261 yX6_keep, Cond.instanceMethod yX6_keep, Cond.selects RX6 yX6_keep yX6_keep, Cond.code yX6_keep cX6_keep 6 none, Cond.fieldLink RX6 127 "KeyBoxModel" "told" "[I", Cond.methodLink RX6 271 yX6_parting, Cond.instanceMethod yX6_parting]
def wsX6_run_r5 : List Cond := [Cond.selects RX6 yX6_parting yX6_parting, Cond.code yX6_parting cX6_parting 6 none, Cond.fieldLink RX6 103 "KeyBoxModel" "total" "[I", Cond.fieldLink RX6 85 "KeyBoxModel" "isOut" "[Z", Cond.fieldLink RX6 106 "KeyBoxModel" "rest" "[I", Cond.fieldLink RX6 79 "KeyBoxModel" "share" "[I", Cond.fieldLink RX6 82 "KeyBoxModel" "gets" "[I"]
def wsX6_run : List Cond := .code yX6_run cX6_run 4 none :: ((wsX6_run_r1 ++ (wsX6_run_r2 ++ (wsX6_run_r3 ++ (wsX6_run_r4 ++ wsX6_run_r5)))) ++ wsX60)
def wsX6_play_r1 : List Cond := [Cond.fieldLink RX6 130 "KeyBoxModel" "played" "I", Cond.fieldLink RX6 97 "KeyBoxModel" "opened" "[I", Cond.methodLink RX6 200 yX6_in, Cond.static yX6_in, Cond.initialized RX6, Cond.code yX6_in cX6_in 3 (some .boolean), Cond.methodLink RX6 275 yX6_run, Cond.instanceMethod yX6_run, Cond.selects RX6 yX6_run yX6_run, Cond.code yX6_run cX6_run 4 none, Cond.fieldLink RX6 207 "KeyBoxModel" "entries" "I", Cond.methodLink RX6 265 yX6_begin, Cond.instanceMethod yX6_begin, Cond.selects RX6 yX6_begin yX6_begin, Cond.code yX6_begin cX6_begin 4 none, Cond.fieldLink RX6 33 "KeyBoxModel" "by" "[I", Cond.fieldLink RX6 36 "KeyBoxModel" "box" "[I", Cond.fieldLink RX6 39 "KeyBoxModel" "fund" "[I", Cond.fieldLink RX6 100 "KeyBoxModel" "shut" "[I", Cond.fieldLink RX6 109 "KeyBoxModel" "lostGone" "[I", Cond.fieldLink RX6 112 "KeyBoxModel" "lostOut" "[I", Cond.fieldLink RX6 115 "KeyBoxModel" "robbed" "[I", Cond.fieldLink RX6 118 "KeyBoxModel" "fundPaid" "[I", Cond.fieldLink RX6 121 "KeyBoxModel" "interest" "[I"]
def wsX6_play_r2 : List Cond := [Cond.fieldLink RX6 42 "KeyBoxModel" "stamps" "[I", Cond.fieldLink RX6 45 "KeyBoxModel" "bought" "[I", Cond.fieldLink RX6 48 "KeyBoxModel" "owes" "[I", Cond.fieldLink RX6 57 "KeyBoxModel" "lent" "[I", Cond.fieldLink RX6 60 "KeyBoxModel" "paidBack" "[I", Cond.fieldLink RX6 63 "KeyBoxModel" "dues" "[I", Cond.fieldLink RX6 66 "KeyBoxModel" "waited" "[I", Cond.fieldLink RX6 69 "KeyBoxModel" "refused" "[I", Cond.fieldLink RX6 72 "KeyBoxModel" "gone" "[Z", Cond.fieldLink RX6 76 "KeyBoxModel" "gotGone" "[I", Cond.fieldLink RX6 88 "KeyBoxModel" "asks" "[I", Cond.fieldLink RX6 219 "KeyBoxModel" "toldMany" "I", Cond.methodLink RX6 268 yX6_meets, Cond.instanceMethod yX6_meets, Cond.selects RX6 yX6_meets yX6_meets, Cond.code yX6_meets cX6_meets 8 (some .int), Cond.fieldLink RX6 27 "KeyBoxModel" "who" "[I", Cond.fieldLink RX6 30 "KeyBoxModel" "much" "[I", Cond.fieldLink RX6 24 "KeyBoxModel" "kind" "[I", Cond.methodLink RX6 245 yX6_giveKeys, Cond.instanceMethod yX6_giveKeys, Cond.selects RX6 yX6_giveKeys yX6_giveKeys, Cond.code yX6_giveKeys cX6_giveKeys 7 none, Cond.fieldLink RX6 21 "KeyBoxModel" "members" "I"]
def wsX6_play_r3 : List Cond := [Cond.fieldLink RX6 124 "KeyBoxModel" "key" "[I", Cond.methodLink RX6 222 yX6_ruleOf, Cond.instanceMethod yX6_ruleOf, Cond.selects RX6 yX6_ruleOf yX6_ruleOf, Cond.code yX6_ruleOf cX6_ruleOf 3 (some .int), Cond.fieldLink RX6 17 "KeyBoxModel" "rules" "[I", Cond.methodLink RX6 225 yX6_hasKey, Cond.instanceMethod yX6_hasKey, Cond.selects RX6 yX6_hasKey yX6_hasKey, Cond.code yX6_hasKey cX6_hasKey 3 (some .boolean), Cond.methodLink RX6 248 yX6_isOpen, Cond.instanceMethod yX6_isOpen, Cond.selects RX6 yX6_isOpen yX6_isOpen, Cond.code yX6_isOpen cX6_isOpen 5 (some .boolean), Cond.methodLink RX6 251 yX6_opens, Cond.instanceMethod yX6_opens, Cond.selects RX6 yX6_opens yX6_opens, Cond.code yX6_opens cX6_opens 8 none, Cond.fieldLink RX6 94 "KeyBoxModel" "today" "[I", Cond.fieldLink RX6 54 "KeyBoxModel" "grown" "[I", Cond.fieldLink RX6 51 "KeyBoxModel" "since" "[I", Cond.methodLink RX6 229 yX6_part, Cond.static yX6_part, Cond.code yX6_part cX6_part 3 (some .int)]
def wsX6_play_r4 : List Cond := [Cond.methodLink RX6 255 yX6_does, Cond.instanceMethod yX6_does, Cond.selects RX6 yX6_does yX6_does, Cond.code yX6_does cX6_does 8 none, Cond.fieldLink RX6 91 "KeyBoxModel" "askAt" "[I", Cond.methodLink RX6 238 yX6_leaves, Cond.instanceMethod yX6_leaves, Cond.selects RX6 yX6_leaves yX6_leaves, Cond.code yX6_leaves cX6_leaves 5 none, Cond.methodLink RX6 232 yX6_owed, Cond.instanceMethod yX6_owed, Cond.selects RX6 yX6_owed yX6_owed, Cond.code yX6_owed cX6_owed 4 (some .int), Cond.methodLink RX6 235 yX6_allStamps, Cond.instanceMethod yX6_allStamps, Cond.selects RX6 yX6_allStamps yX6_allStamps, Cond.code yX6_allStamps cX6_allStamps 4 (some .int), Cond.methodLink RX6 258 yX6_lends, Cond.instanceMethod yX6_lends, Cond.selects RX6 yX6_lends yX6_lends, Cond.code yX6_lends cX6_lends 8 none, Cond.methodLink RX6 242 yX6_isAhead, Cond.instanceMethod yX6_isAhead, Cond.selects RX6 yX6_isAhead yX6_isAhead]
def wsX6_play_r5 : List Cond := [Cond.code yX6_isAhead cX6_isAhead 6 (some .boolean), Cond.methodLink RX6 261 yX6_keep, Cond.instanceMethod yX6_keep, Cond.selects RX6 yX6_keep yX6_keep, Cond.code yX6_keep cX6_keep 6 none, Cond.fieldLink RX6 127 "KeyBoxModel" "told" "[I", Cond.methodLink RX6 271 yX6_parting, Cond.instanceMethod yX6_parting, Cond.selects RX6 yX6_parting yX6_parting, Cond.code yX6_parting cX6_parting 6 none, Cond.fieldLink RX6 103 "KeyBoxModel" "total" "[I", Cond.fieldLink RX6 85 "KeyBoxModel" "isOut" "[Z", Cond.fieldLink RX6 106 "KeyBoxModel" "rest" "[I", Cond.fieldLink RX6 79 "KeyBoxModel" "share" "[I", Cond.fieldLink RX6 82 "KeyBoxModel" "gets" "[I"]
def wsX6_play : List Cond := .code yX6_play cX6_play 2 (some .int) :: ((wsX6_play_r1 ++ (wsX6_play_r2 ++ (wsX6_play_r3 ++ (wsX6_play_r4 ++ wsX6_play_r5)))) ++ wsX60)
def wsX6_member : List Cond := .code yX6_member cX6_member 3 (some .int) :: ([.fieldLink RX6 130 "KeyBoxModel" "played" "I", .fieldLink RX6 21 "KeyBoxModel" "members" "I", .fieldLink RX6 42 "KeyBoxModel" "stamps" "[I", .fieldLink RX6 48 "KeyBoxModel" "owes" "[I", .fieldLink RX6 57 "KeyBoxModel" "lent" "[I", .fieldLink RX6 60 "KeyBoxModel" "paidBack" "[I", .fieldLink RX6 63 "KeyBoxModel" "dues" "[I", .fieldLink RX6 66 "KeyBoxModel" "waited" "[I", .fieldLink RX6 69 "KeyBoxModel" "refused" "[I", .fieldLink RX6 72 "KeyBoxModel" "gone" "[Z", .fieldLink RX6 76 "KeyBoxModel" "gotGone" "[I", .fieldLink RX6 79 "KeyBoxModel" "share" "[I", .fieldLink RX6 82 "KeyBoxModel" "gets" "[I", .fieldLink RX6 85 "KeyBoxModel" "isOut" "[Z", .fieldLink RX6 45 "KeyBoxModel" "bought" "[I", .methodLink RX6 200 yX6_in, .static yX6_in, .initialized RX6, .code yX6_in cX6_in 3 (some .boolean)] ++ wsX60)
def wsX6_meeting : List Cond := .code yX6_meeting cX6_meeting 3 (some .int) :: ([.fieldLink RX6 130 "KeyBoxModel" "played" "I", .fieldLink RX6 219 "KeyBoxModel" "toldMany" "I", .fieldLink RX6 127 "KeyBoxModel" "told" "[I", .methodLink RX6 200 yX6_in, .static yX6_in, .initialized RX6, .code yX6_in cX6_in 3 (some .boolean)] ++ wsX60)
def wsX6_sum : List Cond := .code yX6_sum cX6_sum 2 (some .int) :: ([.fieldLink RX6 130 "KeyBoxModel" "played" "I", .fieldLink RX6 97 "KeyBoxModel" "opened" "[I", .fieldLink RX6 100 "KeyBoxModel" "shut" "[I", .fieldLink RX6 36 "KeyBoxModel" "box" "[I", .fieldLink RX6 39 "KeyBoxModel" "fund" "[I", .fieldLink RX6 103 "KeyBoxModel" "total" "[I", .fieldLink RX6 106 "KeyBoxModel" "rest" "[I", .fieldLink RX6 109 "KeyBoxModel" "lostGone" "[I", .fieldLink RX6 112 "KeyBoxModel" "lostOut" "[I", .fieldLink RX6 115 "KeyBoxModel" "robbed" "[I", .fieldLink RX6 118 "KeyBoxModel" "fundPaid" "[I", .fieldLink RX6 121 "KeyBoxModel" "interest" "[I", .methodLink RX6 232 yX6_owed, .instanceMethod yX6_owed, .selects RX6 yX6_owed yX6_owed, .initialized RX6, .code yX6_owed cX6_owed 4 (some .int), .fieldLink RX6 21 "KeyBoxModel" "members" "I", .fieldLink RX6 48 "KeyBoxModel" "owes" "[I"] ++ wsX60)
def wsX6_parts_r1 : List Cond := [Cond.fieldLink RX6 207 "KeyBoxModel" "entries" "I", Cond.fieldLink RX6 36 "KeyBoxModel" "box" "[I", Cond.fieldLink RX6 39 "KeyBoxModel" "fund" "[I", Cond.fieldLink RX6 21 "KeyBoxModel" "members" "I", Cond.fieldLink RX6 48 "KeyBoxModel" "owes" "[I", Cond.methodLink RX6 200 yX6_in, Cond.static yX6_in, Cond.initialized RX6, Cond.code yX6_in cX6_in 3 (some .boolean), Cond.methodLink RX6 265 yX6_begin, Cond.instanceMethod yX6_begin, Cond.selects RX6 yX6_begin yX6_begin, Cond.code yX6_begin cX6_begin 4 none, Cond.fieldLink RX6 33 "KeyBoxModel" "by" "[I", Cond.fieldLink RX6 97 "KeyBoxModel" "opened" "[I", Cond.fieldLink RX6 100 "KeyBoxModel" "shut" "[I", Cond.fieldLink RX6 109 "KeyBoxModel" "lostGone" "[I", Cond.fieldLink RX6 112 "KeyBoxModel" "lostOut" "[I", Cond.fieldLink RX6 115 "KeyBoxModel" "robbed" "[I", Cond.fieldLink RX6 118 "KeyBoxModel" "fundPaid" "[I", Cond.fieldLink RX6 121 "KeyBoxModel" "interest" "[I", Cond.fieldLink RX6 42 "KeyBoxModel" "stamps" "[I", Cond.fieldLink RX6 45 "KeyBoxModel" "bought" "[I", Cond.fieldLink RX6 57 "KeyBoxModel" "lent" "[I"]
def wsX6_parts_r2 : List Cond := [Cond.fieldLink RX6 60 "KeyBoxModel" "paidBack" "[I", Cond.fieldLink RX6 63 "KeyBoxModel" "dues" "[I", Cond.fieldLink RX6 66 "KeyBoxModel" "waited" "[I", Cond.fieldLink RX6 69 "KeyBoxModel" "refused" "[I", Cond.fieldLink RX6 72 "KeyBoxModel" "gone" "[Z", Cond.fieldLink RX6 76 "KeyBoxModel" "gotGone" "[I", Cond.fieldLink RX6 88 "KeyBoxModel" "asks" "[I", Cond.fieldLink RX6 219 "KeyBoxModel" "toldMany" "I", Cond.methodLink RX6 268 yX6_meets, Cond.instanceMethod yX6_meets, Cond.selects RX6 yX6_meets yX6_meets, Cond.code yX6_meets cX6_meets 8 (some .int), Cond.fieldLink RX6 27 "KeyBoxModel" "who" "[I", Cond.fieldLink RX6 30 "KeyBoxModel" "much" "[I", Cond.fieldLink RX6 24 "KeyBoxModel" "kind" "[I", Cond.methodLink RX6 245 yX6_giveKeys, Cond.instanceMethod yX6_giveKeys, Cond.selects RX6 yX6_giveKeys yX6_giveKeys, Cond.code yX6_giveKeys cX6_giveKeys 7 none, Cond.fieldLink RX6 124 "KeyBoxModel" "key" "[I", Cond.methodLink RX6 222 yX6_ruleOf, Cond.instanceMethod yX6_ruleOf, Cond.selects RX6 yX6_ruleOf yX6_ruleOf, Cond.code yX6_ruleOf cX6_ruleOf 3 (some .int)]
def wsX6_parts_r3 : List Cond := [Cond.fieldLink RX6 17 "KeyBoxModel" "rules" "[I", Cond.methodLink RX6 225 yX6_hasKey, Cond.instanceMethod yX6_hasKey, Cond.selects RX6 yX6_hasKey yX6_hasKey, Cond.code yX6_hasKey cX6_hasKey 3 (some .boolean), Cond.methodLink RX6 248 yX6_isOpen, Cond.instanceMethod yX6_isOpen, Cond.selects RX6 yX6_isOpen yX6_isOpen, Cond.code yX6_isOpen cX6_isOpen 5 (some .boolean), Cond.methodLink RX6 251 yX6_opens, Cond.instanceMethod yX6_opens, Cond.selects RX6 yX6_opens yX6_opens, Cond.code yX6_opens cX6_opens 8 none, Cond.fieldLink RX6 94 "KeyBoxModel" "today" "[I", Cond.fieldLink RX6 54 "KeyBoxModel" "grown" "[I", Cond.fieldLink RX6 51 "KeyBoxModel" "since" "[I", Cond.methodLink RX6 229 yX6_part, Cond.static yX6_part, Cond.code yX6_part cX6_part 3 (some .int), Cond.methodLink RX6 255 yX6_does, Cond.instanceMethod yX6_does, Cond.selects RX6 yX6_does yX6_does, Cond.code yX6_does cX6_does 8 none, Cond.fieldLink RX6 91 "KeyBoxModel" "askAt" "[I"]
def wsX6_parts_r4 : List Cond := [Cond.methodLink RX6 238 yX6_leaves, Cond.instanceMethod yX6_leaves, Cond.selects RX6 yX6_leaves yX6_leaves, Cond.code yX6_leaves cX6_leaves 5 none, Cond.methodLink RX6 232 yX6_owed, Cond.instanceMethod yX6_owed, Cond.selects RX6 yX6_owed yX6_owed, Cond.code yX6_owed cX6_owed 4 (some .int), Cond.methodLink RX6 235 yX6_allStamps, Cond.instanceMethod yX6_allStamps, Cond.selects RX6 yX6_allStamps yX6_allStamps, Cond.code yX6_allStamps cX6_allStamps 4 (some .int), Cond.methodLink RX6 258 yX6_lends, Cond.instanceMethod yX6_lends, Cond.selects RX6 yX6_lends yX6_lends, Cond.code yX6_lends cX6_lends 8 none, Cond.methodLink RX6 242 yX6_isAhead, Cond.instanceMethod yX6_isAhead, Cond.selects RX6 yX6_isAhead yX6_isAhead, Cond.code yX6_isAhead cX6_isAhead 6 (some .boolean), Cond.methodLink RX6 261 yX6_keep, Cond.instanceMethod yX6_keep, Cond.selects RX6 yX6_keep yX6_keep, Cond.code yX6_keep cX6_keep 6 none]
def wsX6_parts_r5 : List Cond := [Cond.fieldLink RX6 127 "KeyBoxModel" "told" "[I"]
def wsX6_parts : List Cond := .code yX6_parts cX6_parts 8 (some .int) :: ((wsX6_parts_r1 ++ (wsX6_parts_r2 ++ (wsX6_parts_r3 ++ (wsX6_parts_r4 ++ wsX6_parts_r5)))) ++ wsX60)
def wsX6_has_r1 : List Cond := [Cond.fieldLink RX6 82 "KeyBoxModel" "gets" "[I", Cond.fieldLink RX6 76 "KeyBoxModel" "gotGone" "[I", Cond.fieldLink RX6 57 "KeyBoxModel" "lent" "[I", Cond.fieldLink RX6 60 "KeyBoxModel" "paidBack" "[I", Cond.fieldLink RX6 45 "KeyBoxModel" "bought" "[I", Cond.fieldLink RX6 63 "KeyBoxModel" "dues" "[I", Cond.methodLink RX6 275 yX6_run, Cond.instanceMethod yX6_run, Cond.selects RX6 yX6_run yX6_run, Cond.initialized RX6, Cond.code yX6_run cX6_run 4 none, Cond.fieldLink RX6 207 "KeyBoxModel" "entries" "I", Cond.methodLink RX6 265 yX6_begin, Cond.instanceMethod yX6_begin, Cond.selects RX6 yX6_begin yX6_begin, Cond.code yX6_begin cX6_begin 4 none, Cond.fieldLink RX6 33 "KeyBoxModel" "by" "[I", Cond.fieldLink RX6 36 "KeyBoxModel" "box" "[I", Cond.fieldLink RX6 39 "KeyBoxModel" "fund" "[I", Cond.fieldLink RX6 97 "KeyBoxModel" "opened" "[I", Cond.fieldLink RX6 100 "KeyBoxModel" "shut" "[I", Cond.fieldLink RX6 109 "KeyBoxModel" "lostGone" "[I", Cond.fieldLink RX6 112 "KeyBoxModel" "lostOut" "[I", Cond.fieldLink RX6 115 "KeyBoxModel" "robbed" "[I"]
def wsX6_has_r2 : List Cond := [Cond.fieldLink RX6 118 "KeyBoxModel" "fundPaid" "[I", Cond.fieldLink RX6 121 "KeyBoxModel" "interest" "[I", Cond.fieldLink RX6 42 "KeyBoxModel" "stamps" "[I", Cond.fieldLink RX6 48 "KeyBoxModel" "owes" "[I", Cond.fieldLink RX6 66 "KeyBoxModel" "waited" "[I", Cond.fieldLink RX6 69 "KeyBoxModel" "refused" "[I", Cond.fieldLink RX6 72 "KeyBoxModel" "gone" "[Z", Cond.fieldLink RX6 88 "KeyBoxModel" "asks" "[I", Cond.fieldLink RX6 219 "KeyBoxModel" "toldMany" "I", Cond.methodLink RX6 268 yX6_meets, Cond.instanceMethod yX6_meets, Cond.selects RX6 yX6_meets yX6_meets, Cond.code yX6_meets cX6_meets 8 (some .int), Cond.fieldLink RX6 27 "KeyBoxModel" "who" "[I", Cond.fieldLink RX6 30 "KeyBoxModel" "much" "[I", Cond.fieldLink RX6 24 "KeyBoxModel" "kind" "[I", Cond.methodLink RX6 245 yX6_giveKeys, Cond.instanceMethod yX6_giveKeys, Cond.selects RX6 yX6_giveKeys yX6_giveKeys, Cond.code yX6_giveKeys cX6_giveKeys 7 none, Cond.fieldLink RX6 21 "KeyBoxModel" "members" "I", Cond.fieldLink RX6 124 "KeyBoxModel" "key" "[I", Cond.methodLink RX6 222 yX6_ruleOf, Cond.instanceMethod yX6_ruleOf]
def wsX6_has_r3 : List Cond := [Cond.selects RX6 yX6_ruleOf yX6_ruleOf, Cond.code yX6_ruleOf cX6_ruleOf 3 (some .int), Cond.fieldLink RX6 17 "KeyBoxModel" "rules" "[I", Cond.methodLink RX6 225 yX6_hasKey, Cond.instanceMethod yX6_hasKey, Cond.selects RX6 yX6_hasKey yX6_hasKey, Cond.code yX6_hasKey cX6_hasKey 3 (some .boolean), Cond.methodLink RX6 248 yX6_isOpen, Cond.instanceMethod yX6_isOpen, Cond.selects RX6 yX6_isOpen yX6_isOpen, Cond.code yX6_isOpen cX6_isOpen 5 (some .boolean), Cond.methodLink RX6 251 yX6_opens, Cond.instanceMethod yX6_opens, Cond.selects RX6 yX6_opens yX6_opens, Cond.code yX6_opens cX6_opens 8 none, Cond.fieldLink RX6 94 "KeyBoxModel" "today" "[I", Cond.fieldLink RX6 54 "KeyBoxModel" "grown" "[I", Cond.fieldLink RX6 51 "KeyBoxModel" "since" "[I", Cond.methodLink RX6 229 yX6_part, Cond.static yX6_part, Cond.code yX6_part cX6_part 3 (some .int), Cond.methodLink RX6 255 yX6_does, Cond.instanceMethod yX6_does, Cond.selects RX6 yX6_does yX6_does]
def wsX6_has_r4 : List Cond := [Cond.code yX6_does cX6_does 8 none, Cond.fieldLink RX6 91 "KeyBoxModel" "askAt" "[I", Cond.methodLink RX6 238 yX6_leaves, Cond.instanceMethod yX6_leaves, Cond.selects RX6 yX6_leaves yX6_leaves, Cond.code yX6_leaves cX6_leaves 5 none, Cond.methodLink RX6 232 yX6_owed, Cond.instanceMethod yX6_owed, Cond.selects RX6 yX6_owed yX6_owed, Cond.code yX6_owed cX6_owed 4 (some .int), Cond.methodLink RX6 235 yX6_allStamps, Cond.instanceMethod yX6_allStamps, Cond.selects RX6 yX6_allStamps yX6_allStamps, Cond.code yX6_allStamps cX6_allStamps 4 (some .int), Cond.methodLink RX6 258 yX6_lends, Cond.instanceMethod yX6_lends, Cond.selects RX6 yX6_lends yX6_lends, Cond.code yX6_lends cX6_lends 8 none, Cond.methodLink RX6 242 yX6_isAhead, Cond.instanceMethod yX6_isAhead, Cond.selects RX6 yX6_isAhead yX6_isAhead, Cond.code yX6_isAhead cX6_isAhead 6 (some .boolean), Cond.methodLink RX6 261 yX6_keep, Cond.instanceMethod yX6_keep]
def wsX6_has_r5 : List Cond := [Cond.selects RX6 yX6_keep yX6_keep, Cond.code yX6_keep cX6_keep 6 none, Cond.fieldLink RX6 127 "KeyBoxModel" "told" "[I", Cond.methodLink RX6 271 yX6_parting, Cond.instanceMethod yX6_parting, Cond.selects RX6 yX6_parting yX6_parting, Cond.code yX6_parting cX6_parting 6 none, Cond.fieldLink RX6 103 "KeyBoxModel" "total" "[I", Cond.fieldLink RX6 85 "KeyBoxModel" "isOut" "[Z", Cond.fieldLink RX6 106 "KeyBoxModel" "rest" "[I", Cond.fieldLink RX6 79 "KeyBoxModel" "share" "[I"]
def wsX6_has : List Cond := .code yX6_has cX6_has 4 (some .int) :: ((wsX6_has_r1 ++ (wsX6_has_r2 ++ (wsX6_has_r3 ++ (wsX6_has_r4 ++ wsX6_has_r5)))) ++ wsX60)
def wsX6_gains_r1 : List Cond := [Cond.fieldLink RX6 21 "KeyBoxModel" "members" "I", Cond.constant RX6 281 (-2000000000), Cond.methodLink RX6 200 yX6_in, Cond.static yX6_in, Cond.initialized RX6, Cond.code yX6_in cX6_in 3 (some .boolean), Cond.methodLink RX6 278 yX6_has, Cond.instanceMethod yX6_has, Cond.selects RX6 yX6_has yX6_has, Cond.code yX6_has cX6_has 4 (some .int), Cond.fieldLink RX6 82 "KeyBoxModel" "gets" "[I", Cond.fieldLink RX6 76 "KeyBoxModel" "gotGone" "[I", Cond.fieldLink RX6 57 "KeyBoxModel" "lent" "[I", Cond.fieldLink RX6 60 "KeyBoxModel" "paidBack" "[I", Cond.fieldLink RX6 45 "KeyBoxModel" "bought" "[I", Cond.fieldLink RX6 63 "KeyBoxModel" "dues" "[I", Cond.methodLink RX6 275 yX6_run, Cond.instanceMethod yX6_run, Cond.selects RX6 yX6_run yX6_run, Cond.code yX6_run cX6_run 4 none, Cond.fieldLink RX6 207 "KeyBoxModel" "entries" "I", Cond.methodLink RX6 265 yX6_begin, Cond.instanceMethod yX6_begin, Cond.selects RX6 yX6_begin yX6_begin]
def wsX6_gains_r2 : List Cond := [Cond.code yX6_begin cX6_begin 4 none, Cond.fieldLink RX6 33 "KeyBoxModel" "by" "[I", Cond.fieldLink RX6 36 "KeyBoxModel" "box" "[I", Cond.fieldLink RX6 39 "KeyBoxModel" "fund" "[I", Cond.fieldLink RX6 97 "KeyBoxModel" "opened" "[I", Cond.fieldLink RX6 100 "KeyBoxModel" "shut" "[I", Cond.fieldLink RX6 109 "KeyBoxModel" "lostGone" "[I", Cond.fieldLink RX6 112 "KeyBoxModel" "lostOut" "[I", Cond.fieldLink RX6 115 "KeyBoxModel" "robbed" "[I", Cond.fieldLink RX6 118 "KeyBoxModel" "fundPaid" "[I", Cond.fieldLink RX6 121 "KeyBoxModel" "interest" "[I", Cond.fieldLink RX6 42 "KeyBoxModel" "stamps" "[I", Cond.fieldLink RX6 48 "KeyBoxModel" "owes" "[I", Cond.fieldLink RX6 66 "KeyBoxModel" "waited" "[I", Cond.fieldLink RX6 69 "KeyBoxModel" "refused" "[I", Cond.fieldLink RX6 72 "KeyBoxModel" "gone" "[Z", Cond.fieldLink RX6 88 "KeyBoxModel" "asks" "[I", Cond.fieldLink RX6 219 "KeyBoxModel" "toldMany" "I", Cond.methodLink RX6 268 yX6_meets, Cond.instanceMethod yX6_meets, Cond.selects RX6 yX6_meets yX6_meets, Cond.code yX6_meets cX6_meets 8 (some .int), Cond.fieldLink RX6 27 "KeyBoxModel" "who" "[I", Cond.fieldLink RX6 30 "KeyBoxModel" "much" "[I"]
def wsX6_gains_r3 : List Cond := [Cond.fieldLink RX6 24 "KeyBoxModel" "kind" "[I", Cond.methodLink RX6 245 yX6_giveKeys, Cond.instanceMethod yX6_giveKeys, Cond.selects RX6 yX6_giveKeys yX6_giveKeys, Cond.code yX6_giveKeys cX6_giveKeys 7 none, Cond.fieldLink RX6 124 "KeyBoxModel" "key" "[I", Cond.methodLink RX6 222 yX6_ruleOf, Cond.instanceMethod yX6_ruleOf, Cond.selects RX6 yX6_ruleOf yX6_ruleOf, Cond.code yX6_ruleOf cX6_ruleOf 3 (some .int), Cond.fieldLink RX6 17 "KeyBoxModel" "rules" "[I", Cond.methodLink RX6 225 yX6_hasKey, Cond.instanceMethod yX6_hasKey, Cond.selects RX6 yX6_hasKey yX6_hasKey, Cond.code yX6_hasKey cX6_hasKey 3 (some .boolean), Cond.methodLink RX6 248 yX6_isOpen, Cond.instanceMethod yX6_isOpen, Cond.selects RX6 yX6_isOpen yX6_isOpen, Cond.code yX6_isOpen cX6_isOpen 5 (some .boolean), Cond.methodLink RX6 251 yX6_opens, Cond.instanceMethod yX6_opens, Cond.selects RX6 yX6_opens yX6_opens, Cond.code yX6_opens cX6_opens 8 none, Cond.fieldLink RX6 94 "KeyBoxModel" "today" "[I"]
def wsX6_gains_r4 : List Cond := [Cond.fieldLink RX6 54 "KeyBoxModel" "grown" "[I", Cond.fieldLink RX6 51 "KeyBoxModel" "since" "[I", Cond.methodLink RX6 229 yX6_part, Cond.static yX6_part, Cond.code yX6_part cX6_part 3 (some .int), Cond.methodLink RX6 255 yX6_does, Cond.instanceMethod yX6_does, Cond.selects RX6 yX6_does yX6_does, Cond.code yX6_does cX6_does 8 none, Cond.fieldLink RX6 91 "KeyBoxModel" "askAt" "[I", Cond.methodLink RX6 238 yX6_leaves, Cond.instanceMethod yX6_leaves, Cond.selects RX6 yX6_leaves yX6_leaves, Cond.code yX6_leaves cX6_leaves 5 none, Cond.methodLink RX6 232 yX6_owed, Cond.instanceMethod yX6_owed, Cond.selects RX6 yX6_owed yX6_owed, Cond.code yX6_owed cX6_owed 4 (some .int), Cond.methodLink RX6 235 yX6_allStamps, Cond.instanceMethod yX6_allStamps, Cond.selects RX6 yX6_allStamps yX6_allStamps, Cond.code yX6_allStamps cX6_allStamps 4 (some .int), Cond.methodLink RX6 258 yX6_lends, Cond.instanceMethod yX6_lends]
def wsX6_gains_r5 : List Cond := [Cond.selects RX6 yX6_lends yX6_lends, Cond.code yX6_lends cX6_lends 8 none, Cond.methodLink RX6 242 yX6_isAhead, Cond.instanceMethod yX6_isAhead, Cond.selects RX6 yX6_isAhead yX6_isAhead, Cond.code yX6_isAhead cX6_isAhead 6 (some .boolean), Cond.methodLink RX6 261 yX6_keep, Cond.instanceMethod yX6_keep, Cond.selects RX6 yX6_keep yX6_keep, Cond.code yX6_keep cX6_keep 6 none, Cond.fieldLink RX6 127 "KeyBoxModel" "told" "[I", Cond.methodLink RX6 271 yX6_parting, Cond.instanceMethod yX6_parting, Cond.selects RX6 yX6_parting yX6_parting, Cond.code yX6_parting cX6_parting 6 none, Cond.fieldLink RX6 103 "KeyBoxModel" "total" "[I", Cond.fieldLink RX6 85 "KeyBoxModel" "isOut" "[Z", Cond.fieldLink RX6 106 "KeyBoxModel" "rest" "[I", Cond.fieldLink RX6 79 "KeyBoxModel" "share" "[I"]
def wsX6_gains : List Cond := .code yX6_gains cX6_gains 4 (some .int) :: ((wsX6_gains_r1 ++ (wsX6_gains_r2 ++ (wsX6_gains_r3 ++ (wsX6_gains_r4 ++ wsX6_gains_r5)))) ++ wsX60)
def wsX6_count : List Cond := .code yX6_count cX6_count 4 (some .int) :: ([.fieldLink RX6 21 "KeyBoxModel" "members" "I", .fieldLink RX6 207 "KeyBoxModel" "entries" "I", .fieldLink RX6 24 "KeyBoxModel" "kind" "[I", .fieldLink RX6 137 "KeyBoxModel" "taped" "I", .fieldLink RX6 130 "KeyBoxModel" "played" "I"] ++ wsX60)
def wsJ9_max_7cf53 : List Cond := .code yJ9_max_7cf53 cJ9_max_7cf53 2 (some .int) :: ([])
def wsJ9_min_7cf53 : List Cond := .code yJ9_min_7cf53 cJ9_min_7cf53 2 (some .int) :: ([])
def wsL_law_r1 : List Cond := [Cond.classLink RL 7 RX5, Cond.instantiable RX5 8, Cond.initialized RX5, Cond.classLink RL 10 RX6, Cond.instantiable RX6 50, Cond.initialized RX6, Cond.methodLink RL 9 yX5_init, Cond.instanceMethod yX5_init, Cond.code yX5_init cX5_init 2 none, Cond.methodLink RX5 1 objectInit, Cond.instanceMethod objectInit, Cond.code objectInit ⟨#[0xb1]⟩ 1 none, Cond.classLink RX5 7 RX3, Cond.instantiable RX3 2, Cond.initialized RX3, Cond.fieldLink RX5 10 "KeyBox" "tape" "LKeyBox$Tape;", Cond.classLink RX5 16 RX0, Cond.instantiable RX0 7, Cond.initialized RX0, Cond.fieldLink RX5 19 "KeyBox" "log" "LKeyBox$Log;", Cond.classLink RX5 23 RX2, Cond.fieldLink RX5 25 "KeyBox" "ruleSets" "[LKeyBox$RuleSet;", Cond.instantiable RX2 1, Cond.initialized RX2]
def wsL_law_r2 : List Cond := [Cond.classLink RX5 30 RX1, Cond.instantiable RX1 8, Cond.initialized RX1, Cond.fieldLink RX5 35 "KeyBox" "reader" "LKeyBox$RuleReader;", Cond.classLink RX5 39 RX4, Cond.instantiable RX4 15, Cond.initialized RX4, Cond.fieldLink RX5 44 "KeyBox" "latest" "LKeyBox$Year;", Cond.fieldLink RX5 48 "KeyBox" "oneYear" "LKeyBox$Year;", Cond.fieldLink RX5 51 "KeyBox" "otherYear" "LKeyBox$Year;", Cond.fieldLink RX5 54 "KeyBox" "playedLatest" "I", Cond.instanceMethod yX3_init, Cond.code yX3_init cX3_init 1 none, Cond.methodLink RX3 3 objectInit, Cond.arrayClass .byte, Cond.fieldLink RX3 11 "KeyBox$Tape" "bytes" "[B", Cond.instanceMethod yX0_init, Cond.code yX0_init cX0_init 1 none, Cond.methodLink RX0 3 objectInit, Cond.arrayClass .int, Cond.fieldLink RX0 11 "KeyBox$Log" "kinds" "[I", Cond.fieldLink RX0 15 "KeyBox$Log" "whos" "[I", Cond.fieldLink RX0 18 "KeyBox$Log" "amounts" "[I", Cond.fieldLink RX0 21 "KeyBox$Log" "starts" "[I"]
def wsL_law_r3 : List Cond := [Cond.fieldLink RX0 24 "KeyBox$Log" "memberCount" "I", Cond.instanceMethod yX2_init, Cond.code yX2_init cX2_init 1 none, Cond.methodLink RX2 3 objectInit, Cond.fieldLink RX2 9 "KeyBox$RuleSet" "UNTOLD" "[I", Cond.methodLink RX2 15 ⟨"[I", "clone", "()Ljava/lang/Object;"⟩, Cond.sameMethod "[I" "java/lang/Object" "clone" "()Ljava/lang/Object;", Cond.native ⟨"java/lang/Object", "clone", "()Ljava/lang/Object;"⟩, Cond.instanceMethod ⟨"java/lang/Object", "clone", "()Ljava/lang/Object;"⟩, Cond.selects "[I" ⟨"[I", "clone", "()Ljava/lang/Object;"⟩ ⟨"java/lang/Object", "clone", "()Ljava/lang/Object;"⟩, Cond.classLink RX2 16 "[I", Cond.fieldLink RX2 20 "KeyBox$RuleSet" "values" "[I", Cond.methodLink RX5 32 yX1_init, Cond.instanceMethod yX1_init, Cond.code yX1_init cX1_init 2 none, Cond.methodLink RX1 3 objectInit, Cond.classLink RX1 9 RX2, Cond.fieldLink RX1 12 "KeyBox$RuleReader" "draft" "LKeyBox$RuleSet;", Cond.arrayClass .boolean, Cond.fieldLink RX1 18 "KeyBox$RuleReader" "told" "[Z", Cond.fieldLink RX1 22 "KeyBox$RuleReader" "faultPlace" "I", Cond.fieldLink RX1 26 "KeyBox$RuleReader" "tape" "LKeyBox$Tape;", Cond.methodLink RX5 41 yX4_init, Cond.instanceMethod yX4_init]
def wsL_law_r4 : List Cond := [Cond.code yX4_init cX4_init 3 none, Cond.methodLink RX4 3 objectInit, Cond.classLink RX4 13 "[[I", Cond.fieldLink RX4 15 "KeyBox$Year" "ofMember" "[[I", Cond.fieldLink RX4 18 "KeyBox$Year" "ofMeeting" "[[I", Cond.fieldLink RX4 21 "KeyBox$Year" "sums" "[I", Cond.fieldLink RX4 25 "KeyBox$Year" "keys" "[I", Cond.fieldLink RX4 28 "KeyBox$Year" "givenInWeek" "[I", Cond.fieldLink RX4 31 "KeyBox$Year" "reckonedToWeek" "[I", Cond.fieldLink RX4 34 "KeyBox$Year" "boughtToday" "[I", Cond.fieldLink RX4 37 "KeyBox$Year" "asked" "[I", Cond.fieldLink RX4 40 "KeyBox$Year" "queue" "[I", Cond.fieldLink RX4 43 "KeyBox$Year" "servingOrder" "[I", Cond.fieldLink RX4 46 "KeyBox$Year" "log" "LKeyBox$Log;", Cond.fieldLink RX4 50 "KeyBox$Year" "ruleSet" "LKeyBox$RuleSet;", Cond.methodLink RL 12 yX6_init, Cond.instanceMethod yX6_init, Cond.code yX6_init cX6_init 3 none, Cond.methodLink RX6 1 objectInit, Cond.fieldLink RX6 7 "KeyBoxModel" "tape" "[B", Cond.fieldLink RX6 13 "KeyBoxModel" "faultPlace" "I", Cond.fieldLink RX6 17 "KeyBoxModel" "rules" "[I", Cond.fieldLink RX6 21 "KeyBoxModel" "members" "I", Cond.fieldLink RX6 24 "KeyBoxModel" "kind" "[I"]
def wsL_law_r5 : List Cond := [Cond.fieldLink RX6 27 "KeyBoxModel" "who" "[I", Cond.fieldLink RX6 30 "KeyBoxModel" "much" "[I", Cond.fieldLink RX6 33 "KeyBoxModel" "by" "[I", Cond.fieldLink RX6 36 "KeyBoxModel" "box" "[I", Cond.fieldLink RX6 39 "KeyBoxModel" "fund" "[I", Cond.fieldLink RX6 42 "KeyBoxModel" "stamps" "[I", Cond.fieldLink RX6 45 "KeyBoxModel" "bought" "[I", Cond.fieldLink RX6 48 "KeyBoxModel" "owes" "[I", Cond.fieldLink RX6 51 "KeyBoxModel" "since" "[I", Cond.fieldLink RX6 54 "KeyBoxModel" "grown" "[I", Cond.fieldLink RX6 57 "KeyBoxModel" "lent" "[I", Cond.fieldLink RX6 60 "KeyBoxModel" "paidBack" "[I", Cond.fieldLink RX6 63 "KeyBoxModel" "dues" "[I", Cond.fieldLink RX6 66 "KeyBoxModel" "waited" "[I", Cond.fieldLink RX6 69 "KeyBoxModel" "refused" "[I", Cond.fieldLink RX6 72 "KeyBoxModel" "gone" "[Z", Cond.fieldLink RX6 76 "KeyBoxModel" "gotGone" "[I", Cond.fieldLink RX6 79 "KeyBoxModel" "share" "[I", Cond.fieldLink RX6 82 "KeyBoxModel" "gets" "[I", Cond.fieldLink RX6 85 "KeyBoxModel" "isOut" "[Z", Cond.fieldLink RX6 88 "KeyBoxModel" "asks" "[I", Cond.fieldLink RX6 91 "KeyBoxModel" "askAt" "[I", Cond.fieldLink RX6 94 "KeyBoxModel" "today" "[I", Cond.fieldLink RX6 97 "KeyBoxModel" "opened" "[I"]
def wsL_law_r6 : List Cond := [Cond.fieldLink RX6 100 "KeyBoxModel" "shut" "[I", Cond.fieldLink RX6 103 "KeyBoxModel" "total" "[I", Cond.fieldLink RX6 106 "KeyBoxModel" "rest" "[I", Cond.fieldLink RX6 109 "KeyBoxModel" "lostGone" "[I", Cond.fieldLink RX6 112 "KeyBoxModel" "lostOut" "[I", Cond.fieldLink RX6 115 "KeyBoxModel" "robbed" "[I", Cond.fieldLink RX6 118 "KeyBoxModel" "fundPaid" "[I", Cond.fieldLink RX6 121 "KeyBoxModel" "interest" "[I", Cond.fieldLink RX6 124 "KeyBoxModel" "key" "[I", Cond.fieldLink RX6 127 "KeyBoxModel" "told" "[I", Cond.fieldLink RX6 130 "KeyBoxModel" "played" "I", Cond.methodLink RX6 133 yX6_plain, Cond.static yX6_plain, Cond.code yX6_plain cX6_plain 1 (some .int), Cond.methodLink RL 13 yX5_feed, Cond.instanceMethod yX5_feed, Cond.selects RX5 yX5_feed yX5_feed, Cond.code yX5_feed cX5_feed 6 (some .int), Cond.methodLink RX5 58 yX3_hasRoomFor, Cond.instanceMethod yX3_hasRoomFor, Cond.selects RX3 yX3_hasRoomFor yX3_hasRoomFor, Cond.code yX3_hasRoomFor cX3_hasRoomFor 2 (some .boolean), Cond.fieldLink RX3 15 "KeyBox$Tape" "length" "I", Cond.methodLink RX5 62 yX3_append]
def wsL_law_r7 : List Cond := [Cond.instanceMethod yX3_append, Cond.selects RX3 yX3_append yX3_append, Cond.code yX3_append cX3_append 3 none, Cond.methodLink RX3 19 yX3_hasRoomFor, Cond.methodLink RL 17 yX6_feed, Cond.instanceMethod yX6_feed, Cond.selects RX6 yX6_feed yX6_feed, Cond.code yX6_feed cX6_feed 9 (some .int), Cond.fieldLink RX6 137 "KeyBoxModel" "taped" "I", Cond.methodLink RL 18 yX5_end, Cond.instanceMethod yX5_end, Cond.selects RX5 yX5_end yX5_end, Cond.code yX5_end cX5_end 2 (some .int), Cond.methodLink RL 22 yX6_end, Cond.instanceMethod yX6_end, Cond.selects RX6 yX6_end yX6_end, Cond.code yX6_end cX6_end 2 (some .int), Cond.methodLink RL 23 yX5_members, Cond.instanceMethod yX5_members, Cond.selects RX5 yX5_members yX5_members, Cond.code yX5_members cX5_members 2 (some .int), Cond.methodLink RX5 69 yX0_setMembers, Cond.instanceMethod yX0_setMembers, Cond.selects RX0 yX0_setMembers yX0_setMembers]
def wsL_law_r8 : List Cond := [Cond.code yX0_setMembers cX0_setMembers 2 (some .int), Cond.fieldLink RX0 31 "KeyBox$Log" "size" "I", Cond.methodLink RL 26 yX6_members, Cond.instanceMethod yX6_members, Cond.selects RX6 yX6_members yX6_members, Cond.code yX6_members cX6_members 2 (some .int), Cond.fieldLink RX6 207 "KeyBoxModel" "entries" "I", Cond.methodLink RX6 200 yX6_in, Cond.static yX6_in, Cond.code yX6_in cX6_in 3 (some .boolean), Cond.methodLink RL 27 yX5_meet, Cond.instanceMethod yX5_meet, Cond.selects RX5 yX5_meet yX5_meet, Cond.code yX5_meet cX5_meet 3 (some .int), Cond.methodLink RX5 73 yX0_addMeeting, Cond.instanceMethod yX0_addMeeting, Cond.selects RX0 yX0_addMeeting yX0_addMeeting, Cond.code yX0_addMeeting cX0_addMeeting 3 (some .int), Cond.fieldLink RX0 28 "KeyBox$Log" "meetingCount" "I", Cond.methodLink RX0 34 yX0_latestWeek, Cond.instanceMethod yX0_latestWeek, Cond.selects RX0 yX0_latestWeek yX0_latestWeek, Cond.code yX0_latestWeek cX0_latestWeek 1 (some .int), Cond.methodLink RX0 38 yX0_add]
def wsL_law_r9 : List Cond := [Cond.instanceMethod yX0_add, Cond.selects RX0 yX0_add yX0_add, Cond.code yX0_add cX0_add 4 (some .int), Cond.methodLink RX5 77 yX5_logChanged, Cond.instanceMethod yX5_logChanged, Cond.selects RX5 yX5_logChanged yX5_logChanged, Cond.code yX5_logChanged cX5_logChanged 2 (some .int), Cond.methodLink RL 31 yX6_meet, Cond.instanceMethod yX6_meet, Cond.selects RX6 yX6_meet yX6_meet, Cond.code yX6_meet cX6_meet 3 (some .int), Cond.methodLink RX6 210 yX6_lastWeek, Cond.instanceMethod yX6_lastWeek, Cond.selects RX6 yX6_lastWeek yX6_lastWeek, Cond.code yX6_lastWeek cX6_lastWeek 2 (some .int), Cond.methodLink RX6 213 yX6_add, Cond.instanceMethod yX6_add, Cond.selects RX6 yX6_add yX6_add, Cond.code yX6_add cX6_add 4 (some .int), Cond.methodLink RL 32 yX5_enter, Cond.instanceMethod yX5_enter, Cond.selects RX5 yX5_enter yX5_enter, Cond.code yX5_enter cX5_enter 4 (some .int), Cond.methodLink RX5 80 yX0_addEntry]
def wsL_law_r10 : List Cond := [Cond.instanceMethod yX0_addEntry, Cond.selects RX0 yX0_addEntry yX0_addEntry, Cond.code yX0_addEntry cX0_addEntry 4 (some .int), Cond.methodLink RX0 42 yX0_canBe, Cond.instanceMethod yX0_canBe, Cond.selects RX0 yX0_canBe yX0_canBe, Cond.code yX0_canBe cX0_canBe 4 (some .boolean), Cond.fieldLink RX0 50 "KeyBox$Log" "LEAST_N" "[I", Cond.fieldLink RX0 53 "KeyBox$Log" "MOST_N" "[I", Cond.methodLink RX0 56 yX0_isMember, Cond.instanceMethod yX0_isMember, Cond.selects RX0 yX0_isMember yX0_isMember, Cond.code yX0_isMember cX0_isMember 2 (some .boolean), Cond.methodLink RL 36 yX6_enter, Cond.instanceMethod yX6_enter, Cond.selects RX6 yX6_enter yX6_enter, Cond.code yX6_enter cX6_enter 5 (some .int), Cond.constant RX6 217 (100000), Cond.constant RX6 218 (1000000), Cond.methodLink RL 37 yX5_entry, Cond.instanceMethod yX5_entry, Cond.selects RX5 yX5_entry yX5_entry, Cond.code yX5_entry cX5_entry 3 (some .int), Cond.methodLink RX5 84 yX0_read]
def wsL_law_r11 : List Cond := [Cond.instanceMethod yX0_read, Cond.selects RX0 yX0_read yX0_read, Cond.code yX0_read cX0_read 3 (some .int), Cond.methodLink RL 40 yX6_entry, Cond.instanceMethod yX6_entry, Cond.selects RX6 yX6_entry yX6_entry, Cond.code yX6_entry cX6_entry 3 (some .int), Cond.methodLink RL 41 yX5_back, Cond.instanceMethod yX5_back, Cond.selects RX5 yX5_back yX5_back, Cond.code yX5_back cX5_back 1 (some .int), Cond.methodLink RX5 87 yX0_takeBack, Cond.instanceMethod yX0_takeBack, Cond.selects RX0 yX0_takeBack yX0_takeBack, Cond.code yX0_takeBack cX0_takeBack 1 (some .int), Cond.methodLink RL 45 yX6_back, Cond.instanceMethod yX6_back, Cond.selects RX6 yX6_back yX6_back, Cond.code yX6_back cX6_back 1 (some .int), Cond.methodLink RL 46 yX5_rules, Cond.instanceMethod yX5_rules, Cond.selects RX5 yX5_rules yX5_rules, Cond.code yX5_rules cX5_rules 3 (some .int), Cond.methodLink RX5 91 yX5_isRuleSet]
def wsL_law_r12 : List Cond := [Cond.static yX5_isRuleSet, Cond.code yX5_isRuleSet cX5_isRuleSet 1 (some .boolean), Cond.methodLink RX5 94 yX1_read, Cond.instanceMethod yX1_read, Cond.selects RX1 yX1_read yX1_read, Cond.code yX1_read cX1_read 3 (some .int), Cond.fieldLink RX1 38 "KeyBox$RuleReader" "tokenKind" "I", Cond.methodLink RX1 30 yX1_startAnew, Cond.instanceMethod yX1_startAnew, Cond.selects RX1 yX1_startAnew yX1_startAnew, Cond.code yX1_startAnew cX1_startAnew 2 none, Cond.fieldLink RX1 52 "KeyBox$RuleReader" "tokenEnd" "I", Cond.fieldLink RX1 55 "KeyBox$RuleReader" "faultKind" "I", Cond.methodLink RX1 49 yX2_forget, Cond.instanceMethod yX2_forget, Cond.selects RX2 yX2_forget yX2_forget, Cond.code yX2_forget cX2_forget 1 none, Cond.methodLink RX2 23 arraycopyName, Cond.native arraycopyName, Cond.static arraycopyName, Cond.initialized "java/lang/System", Cond.methodLink RX1 35 yX1_nextToken, Cond.instanceMethod yX1_nextToken, Cond.selects RX1 yX1_nextToken yX1_nextToken]
def wsL_law_r13 : List Cond := [Cond.code yX1_nextToken cX1_nextToken 1 none, Cond.fieldLink RX1 83 "KeyBox$RuleReader" "tokenStart" "I", Cond.methodLink RX1 110 yX1_behindRun, Cond.instanceMethod yX1_behindRun, Cond.selects RX1 yX1_behindRun yX1_behindRun, Cond.code yX1_behindRun cX1_behindRun 4 (some .int), Cond.methodLink RX1 114 yX1_kindAt, Cond.instanceMethod yX1_kindAt, Cond.selects RX1 yX1_kindAt yX1_kindAt, Cond.code yX1_kindAt cX1_kindAt 3 (some .int), Cond.methodLink RX1 97 yX3_at, Cond.instanceMethod yX3_at, Cond.selects RX3 yX3_at yX3_at, Cond.code yX3_at cX3_at 2 (some .int), Cond.methodLink RX1 41 yX2_copy, Cond.instanceMethod yX2_copy, Cond.selects RX2 yX2_copy yX2_copy, Cond.code yX2_copy cX2_copy 2 none, Cond.methodLink RX1 45 yX1_readLine, Cond.instanceMethod yX1_readLine, Cond.selects RX1 yX1_readLine yX1_readLine, Cond.code yX1_readLine cX1_readLine 3 (some .boolean), Cond.methodLink RX1 58 yX1_tokenAsTopic, Cond.instanceMethod yX1_tokenAsTopic]
def wsL_law_r14 : List Cond := [Cond.selects RX1 yX1_tokenAsTopic yX1_tokenAsTopic, Cond.code yX1_tokenAsTopic cX1_tokenAsTopic 2 (some .int), Cond.methodLink RX1 86 yX2_topicWord, Cond.static yX2_topicWord, Cond.code yX2_topicWord cX2_topicWord 1 (some (.object "java/lang/String")), Cond.methodLink RX1 90 yX1_tokenIs, Cond.instanceMethod yX1_tokenIs, Cond.selects RX1 yX1_tokenIs yX1_tokenIs, Cond.code yX1_tokenIs cX1_tokenIs 3 (some .boolean), Cond.methodLink RX1 101 yJ0_length_8abf5, Cond.instanceMethod yJ0_length_8abf5, Cond.selects RJ0 yJ0_length_8abf5 yJ0_length_8abf5, Cond.initialized RJ0, Cond.code yJ0_length_8abf5 cJ0_length_8abf5 1 (some .int), Cond.fieldLink RJ0 9 "java/lang/String" "value" "[B", Cond.methodLink RJ0 335 yJ0_coder_7d493, Cond.instanceMethod yJ0_coder_7d493, Cond.selects RJ0 yJ0_coder_7d493 yJ0_coder_7d493, Cond.code yJ0_coder_7d493 cJ0_coder_7d493 1 (some .byte), Cond.fieldLink RJ0 38 "java/lang/String" "COMPACT_STRINGS" "Z", Cond.fieldLink RJ0 15 "java/lang/String" "coder" "B", Cond.methodLink RX1 106 yJ0_charAt_5068e, Cond.instanceMethod yJ0_charAt_5068e, Cond.selects RJ0 yJ0_charAt_5068e yJ0_charAt_5068e]
def wsL_law_r15 : List Cond := [Cond.code yJ0_charAt_5068e cJ0_charAt_5068e 2 (some .char), Cond.methodLink RJ0 492 yJ0_isLatin1_aae02, Cond.instanceMethod yJ0_isLatin1_aae02, Cond.selects RJ0 yJ0_isLatin1_aae02 yJ0_isLatin1_aae02, Cond.code yJ0_isLatin1_aae02 cJ0_isLatin1_aae02 1 (some .boolean), Cond.methodLink RJ0 495 yJ1_charAt_3b067, Cond.static yJ1_charAt_3b067, Cond.initialized RJ1, Cond.code yJ1_charAt_3b067 cJ1_charAt_3b067 2 (some .char), Cond.methodLink RJ1 9 yJ0_checkIndex_df160, Cond.static yJ0_checkIndex_df160, Cond.code yJ0_checkIndex_df160 cJ0_checkIndex_df160 2 none, Cond.fieldLink RJ0 1053 "jdk/internal/util/Preconditions" "SIOOBE_FORMATTER" "Ljava/util/function/BiFunction;", Cond.methodLink RJ0 1059 yJ3_checkIndex_8e157, Cond.static yJ3_checkIndex_8e157, Cond.initialized RJ3, Cond.code yJ3_checkIndex_8e157 cJ3_checkIndex_8e157 3 (some .int), Cond.methodLink RJ0 498 yJ2_charAt_3b067, Cond.static yJ2_charAt_3b067, Cond.initialized RJ2, Cond.code yJ2_charAt_3b067 cJ2_charAt_3b067 2 (some .char), Cond.methodLink RJ2 67 yJ2_checkIndex_2214a, Cond.static yJ2_checkIndex_2214a, Cond.code yJ2_checkIndex_2214a cJ2_checkIndex_2214a 2 none]
def wsL_law_r16 : List Cond := [Cond.methodLink RJ2 48 yJ2_length_9d52b, Cond.static yJ2_length_9d52b, Cond.code yJ2_length_9d52b cJ2_length_9d52b 1 (some .int), Cond.methodLink RJ2 414 yJ0_checkIndex_df160, Cond.methodLink RJ2 71 yJ2_getChar_3b067, Cond.static yJ2_getChar_3b067, Cond.code yJ2_getChar_3b067 cJ2_getChar_3b067 2 (some .char), Cond.fieldLink RJ2 44 "java/lang/StringUTF16" "$assertionsDisabled" "Z", Cond.fieldLink RJ2 59 "java/lang/StringUTF16" "HI_BYTE_SHIFT" "I", Cond.fieldLink RJ2 63 "java/lang/StringUTF16" "LO_BYTE_SHIFT" "I", Cond.methodLink RX1 62 yX1_failed, Cond.instanceMethod yX1_failed, Cond.selects RX1 yX1_failed yX1_failed, Cond.code yX1_failed cX1_failed 2 (some .boolean), Cond.methodLink RX1 66 yX1_isToldAlready, Cond.instanceMethod yX1_isToldAlready, Cond.selects RX1 yX1_isToldAlready yX1_isToldAlready, Cond.code yX1_isToldAlready cX1_isToldAlready 2 (some .boolean), Cond.methodLink RX1 69 yX1_tokenAsOrder, Cond.instanceMethod yX1_tokenAsOrder, Cond.selects RX1 yX1_tokenAsOrder yX1_tokenAsOrder, Cond.code yX1_tokenAsOrder cX1_tokenAsOrder 2 (some .int), Cond.methodLink RX1 94 yX2_orderWord, Cond.static yX2_orderWord]
def wsL_law_r17 : List Cond := [Cond.code yX2_orderWord cX2_orderWord 1 (some (.object "java/lang/String")), Cond.methodLink RX1 72 yX1_tokenAsNumber, Cond.instanceMethod yX1_tokenAsNumber, Cond.selects RX1 yX1_tokenAsNumber yX1_tokenAsNumber, Cond.code yX1_tokenAsNumber cX1_tokenAsNumber 3 (some .int), Cond.methodLink RX1 75 yX2_isInBounds, Cond.static yX2_isInBounds, Cond.code yX2_isInBounds cX2_isInBounds 2 (some .boolean), Cond.fieldLink RX2 29 "KeyBox$RuleSet" "LOWEST" "[I", Cond.fieldLink RX2 32 "KeyBox$RuleSet" "HIGHEST" "[I", Cond.methodLink RX1 79 yX2_tell, Cond.instanceMethod yX2_tell, Cond.selects RX2 yX2_tell yX2_tell, Cond.code yX2_tell cX2_tell 3 none, Cond.methodLink RL 49 yX6_rules, Cond.instanceMethod yX6_rules, Cond.selects RX6 yX6_rules yX6_rules, Cond.code yX6_rules cX6_rules 5 (some .int), Cond.fieldLink RX6 140 "KeyBoxModel" "size" "I", Cond.fieldLink RX6 184 "KeyBoxModel" "faultKind" "I", Cond.fieldLink RX6 158 "KeyBoxModel" "end" "I", Cond.fieldLink RX6 164 "KeyBoxModel" "sort" "I", Cond.fieldLink RX6 175 "KeyBoxModel" "what" "I", Cond.methodLink RX6 191 yX6_scan]
def wsL_law_r18 : List Cond := [Cond.instanceMethod yX6_scan, Cond.selects RX6 yX6_scan yX6_scan, Cond.code yX6_scan cX6_scan 4 none, Cond.fieldLink RX6 161 "KeyBoxModel" "at" "I", Cond.fieldLink RX6 181 "KeyBoxModel" "worth" "I", Cond.methodLink RX6 155 yX6_see, Cond.instanceMethod yX6_see, Cond.selects RX6 yX6_see yX6_see, Cond.code yX6_see cX6_see 2 (some .int), Cond.methodLink RX6 167 yX6_isSmall, Cond.static yX6_isSmall, Cond.code yX6_isSmall cX6_isSmall 1 (some .boolean), Cond.methodLink RX6 171 yX6_keyAt, Cond.instanceMethod yX6_keyAt, Cond.selects RX6 yX6_keyAt yX6_keyAt, Cond.code yX6_keyAt cX6_keyAt 8 (some .int), Cond.methodLink RX6 145 yJ0_length_8abf5, Cond.methodLink RX6 151 yJ0_charAt_5068e, Cond.methodLink RX6 178 yX6_isDigit, Cond.static yX6_isDigit, Cond.code yX6_isDigit cX6_isDigit 1 (some .boolean), Cond.methodLink RX6 204 yX6_readLine, Cond.instanceMethod yX6_readLine, Cond.selects RX6 yX6_readLine yX6_readLine]
def wsL_law_r19 : List Cond := [Cond.code yX6_readLine cX6_readLine 4 (some .boolean), Cond.methodLink RX6 188 yX6_wrong, Cond.instanceMethod yX6_wrong, Cond.selects RX6 yX6_wrong yX6_wrong, Cond.code yX6_wrong cX6_wrong 2 (some .boolean), Cond.methodLink RX6 194 yX6_low, Cond.static yX6_low, Cond.code yX6_low cX6_low 1 (some .int), Cond.methodLink RX6 197 yX6_high, Cond.static yX6_high, Cond.code yX6_high cX6_high 1 (some .int), Cond.constant RX6 187 (50000), Cond.methodLink RL 50 yX5_fault, Cond.instanceMethod yX5_fault, Cond.selects RX5 yX5_fault yX5_fault, Cond.code yX5_fault cX5_fault 2 (some .int), Cond.methodLink RL 53 yX6_fault, Cond.instanceMethod yX6_fault, Cond.selects RX6 yX6_fault yX6_fault, Cond.code yX6_fault cX6_fault 2 (some .int), Cond.methodLink RL 54 yX5_rule, Cond.instanceMethod yX5_rule, Cond.selects RX5 yX5_rule yX5_rule, Cond.code yX5_rule cX5_rule 3 (some .int)]
def wsL_law_r20 : List Cond := [Cond.methodLink RX5 103 yX2_of, Cond.instanceMethod yX2_of, Cond.selects RX2 yX2_of yX2_of, Cond.code yX2_of cX2_of 2 (some .int), Cond.methodLink RL 57 yX6_rule, Cond.instanceMethod yX6_rule, Cond.selects RX6 yX6_rule yX6_rule, Cond.code yX6_rule cX6_rule 3 (some .int), Cond.methodLink RL 58 yX5_play, Cond.instanceMethod yX5_play, Cond.selects RX5 yX5_play yX5_play, Cond.code yX5_play cX5_play 2 (some .int), Cond.methodLink RX5 106 yX4_playAll, Cond.instanceMethod yX4_playAll, Cond.selects RX4 yX4_playAll yX4_playAll, Cond.code yX4_playAll cX4_playAll 3 none, Cond.methodLink RX4 54 yX4_begin, Cond.instanceMethod yX4_begin, Cond.selects RX4 yX4_begin yX4_begin, Cond.code yX4_begin cX4_begin 3 none, Cond.fieldLink RX4 75 "KeyBox$Year" "queued" "I", Cond.methodLink RX4 69 yJ7_fill_53178, Cond.static yJ7_fill_53178, Cond.initialized RJ7]
def wsL_law_r21 : List Cond := [Cond.code yJ7_fill_53178 cJ7_fill_53178 4 none, Cond.methodLink RX4 62 yX4_playMeeting, Cond.instanceMethod yX4_playMeeting, Cond.selects RX4 yX4_playMeeting yX4_playMeeting, Cond.code yX4_playMeeting cX4_playMeeting 6 none, Cond.fieldLink RX4 89 "KeyBox$Year" "week" "I", Cond.fieldLink RX4 95 "KeyBox$Year" "there" "I", Cond.methodLink RX4 78 yX0_isMeeting, Cond.instanceMethod yX0_isMeeting, Cond.selects RX0 yX0_isMeeting yX0_isMeeting, Cond.code yX0_isMeeting cX0_isMeeting 2 (some .boolean), Cond.methodLink RX4 82 yX0_startOf, Cond.instanceMethod yX0_startOf, Cond.selects RX0 yX0_startOf yX0_startOf, Cond.code yX0_startOf cX0_startOf 2 (some .int), Cond.methodLink RX0 46 yX0_isMeeting, Cond.methodLink RX4 98 yX4_handOutKeys, Cond.instanceMethod yX4_handOutKeys, Cond.selects RX4 yX4_handOutKeys yX4_handOutKeys, Cond.code yX4_handOutKeys cX4_handOutKeys 4 none, Cond.methodLink RX4 142 Lib.Math.max.name, Cond.static Lib.Math.max.name, Cond.initialized "java/lang/Math", Cond.code Lib.Math.max.name Lib.Math.max.code 2 (some .int)]
def wsL_law_r22 : List Cond := [Cond.methodLink RX4 139 yX2_of, Cond.methodLink RX4 148 yX4_isGone, Cond.instanceMethod yX4_isGone, Cond.selects RX4 yX4_isGone yX4_isGone, Cond.code yX4_isGone cX4_isGone 2 (some .boolean), Cond.methodLink RX4 151 yX4_nextWithoutKey, Cond.instanceMethod yX4_nextWithoutKey, Cond.selects RX4 yX4_nextWithoutKey yX4_nextWithoutKey, Cond.code yX4_nextWithoutKey cX4_nextWithoutKey 4 (some .int), Cond.methodLink RX4 154 yX4_hasKey, Cond.instanceMethod yX4_hasKey, Cond.selects RX4 yX4_hasKey yX4_hasKey, Cond.code yX4_hasKey cX4_hasKey 2 (some .boolean), Cond.methodLink RX4 101 yX4_isOpen, Cond.instanceMethod yX4_isOpen, Cond.selects RX4 yX4_isOpen yX4_isOpen, Cond.code yX4_isOpen cX4_isOpen 3 (some .boolean), Cond.methodLink RX4 157 yX4_isThere, Cond.instanceMethod yX4_isThere, Cond.selects RX4 yX4_isThere yX4_isThere, Cond.code yX4_isThere cX4_isThere 2 (some .boolean), Cond.methodLink RX4 105 yX4_collectDues, Cond.instanceMethod yX4_collectDues, Cond.selects RX4 yX4_collectDues yX4_collectDues]
def wsL_law_r23 : List Cond := [Cond.code yX4_collectDues cX4_collectDues 2 none, Cond.methodLink RX4 160 yX4_payDue, Cond.instanceMethod yX4_payDue, Cond.selects RX4 yX4_payDue yX4_payDue, Cond.code yX4_payDue cX4_payDue 4 none, Cond.methodLink RX4 108 yX4_growFallingLoans, Cond.instanceMethod yX4_growFallingLoans, Cond.selects RX4 yX4_growFallingLoans yX4_growFallingLoans, Cond.code yX4_growFallingLoans cX4_growFallingLoans 3 none, Cond.methodLink RX4 164 yX4_growFallingLoan, Cond.instanceMethod yX4_growFallingLoan, Cond.selects RX4 yX4_growFallingLoan yX4_growFallingLoan, Cond.code yX4_growFallingLoan cX4_growFallingLoan 4 none, Cond.methodLink RX4 168 yX4_hundredths, Cond.static yX4_hundredths, Cond.code yX4_hundredths cX4_hundredths 2 (some .int), Cond.constantLong RX4 225 (100), Cond.methodLink RX4 171 yX4_putInterest, Cond.instanceMethod yX4_putInterest, Cond.selects RX4 yX4_putInterest yX4_putInterest, Cond.code yX4_putInterest cX4_putInterest 3 none, Cond.methodLink RX4 111 yX4_collectLateDues, Cond.instanceMethod yX4_collectLateDues, Cond.selects RX4 yX4_collectLateDues yX4_collectLateDues]
def wsL_law_r24 : List Cond := [Cond.code yX4_collectLateDues cX4_collectLateDues 2 none, Cond.methodLink RX4 114 yX0_endOf, Cond.instanceMethod yX0_endOf, Cond.selects RX0 yX0_endOf yX0_endOf, Cond.code yX0_endOf cX0_endOf 2 (some .int), Cond.methodLink RX4 120 yX4_doEntry, Cond.instanceMethod yX4_doEntry, Cond.selects RX4 yX4_doEntry yX4_doEntry, Cond.code yX4_doEntry cX4_doEntry 5 none, Cond.methodLink RX4 174 yX4_takeFrom, Cond.instanceMethod yX4_takeFrom, Cond.selects RX4 yX4_takeFrom yX4_takeFrom, Cond.code yX4_takeFrom cX4_takeFrom 4 (some .int), Cond.methodLink RX4 192 Lib.Math.min.name, Cond.static Lib.Math.min.name, Cond.code Lib.Math.min.name Lib.Math.min.code 2 (some .int), Cond.methodLink RX4 177 yX4_leave, Cond.instanceMethod yX4_leave, Cond.selects RX4 yX4_leave yX4_leave, Cond.code yX4_leave cX4_leave 4 none, Cond.methodLink RX4 195 yX4_total, Cond.instanceMethod yX4_total, Cond.selects RX4 yX4_total yX4_total, Cond.code yX4_total cX4_total 4 (some .int)]
def wsL_law_r25 : List Cond := [Cond.methodLink RX4 198 yX4_partOf, Cond.static yX4_partOf, Cond.code yX4_partOf cX4_partOf 3 (some .int), Cond.methodLink RX4 202 yX4_closeQueue, Cond.instanceMethod yX4_closeQueue, Cond.selects RX4 yX4_closeQueue yX4_closeQueue, Cond.code yX4_closeQueue cX4_closeQueue 3 none, Cond.methodLink RX4 180 yX4_doEntryOfOneThere, Cond.instanceMethod yX4_doEntryOfOneThere, Cond.selects RX4 yX4_doEntryOfOneThere yX4_doEntryOfOneThere, Cond.code yX4_doEntryOfOneThere cX4_doEntryOfOneThere 4 none, Cond.methodLink RX4 183 yX4_buy, Cond.instanceMethod yX4_buy, Cond.selects RX4 yX4_buy yX4_buy, Cond.code yX4_buy cX4_buy 4 none, Cond.methodLink RX4 186 yX4_ask, Cond.instanceMethod yX4_ask, Cond.selects RX4 yX4_ask yX4_ask, Cond.code yX4_ask cX4_ask 5 none, Cond.methodLink RX4 189 yX4_payBack, Cond.instanceMethod yX4_payBack, Cond.selects RX4 yX4_payBack yX4_payBack, Cond.code yX4_payBack cX4_payBack 4 none, Cond.methodLink RX4 124 yX4_serveQueue]
def wsL_law_r26 : List Cond := [Cond.instanceMethod yX4_serveQueue, Cond.selects RX4 yX4_serveQueue yX4_serveQueue, Cond.code yX4_serveQueue cX4_serveQueue 3 none, Cond.methodLink RX4 205 yX4_lineUp, Cond.instanceMethod yX4_lineUp, Cond.selects RX4 yX4_lineUp yX4_lineUp, Cond.code yX4_lineUp cX4_lineUp 4 none, Cond.methodLink RX4 211 yX4_goesAhead, Cond.instanceMethod yX4_goesAhead, Cond.selects RX4 yX4_goesAhead yX4_goesAhead, Cond.code yX4_goesAhead cX4_goesAhead 3 (some .boolean), Cond.methodLink RX4 208 yX4_lend, Cond.instanceMethod yX4_lend, Cond.selects RX4 yX4_lend yX4_lend, Cond.code yX4_lend cX4_lend 4 none, Cond.methodLink RX4 127 yX4_writeDown, Cond.instanceMethod yX4_writeDown, Cond.selects RX4 yX4_writeDown yX4_writeDown, Cond.code yX4_writeDown cX4_writeDown 4 none, Cond.methodLink RX4 66 yX4_part, Cond.instanceMethod yX4_part, Cond.selects RX4 yX4_part yX4_part, Cond.code yX4_part cX4_part 4 none, Cond.methodLink RX4 215 yX4_reckonShares]
def wsL_law_r27 : List Cond := [Cond.instanceMethod yX4_reckonShares, Cond.selects RX4 yX4_reckonShares yX4_reckonShares, Cond.code yX4_reckonShares cX4_reckonShares 4 none, Cond.methodLink RX4 218 yX4_lowestOverShare, Cond.instanceMethod yX4_lowestOverShare, Cond.selects RX4 yX4_lowestOverShare yX4_lowestOverShare, Cond.code yX4_lowestOverShare cX4_lowestOverShare 2 (some .int), Cond.methodLink RX4 222 yX4_payOut, Cond.instanceMethod yX4_payOut, Cond.selects RX4 yX4_payOut yX4_payOut, Cond.code yX4_payOut cX4_payOut 2 none, Cond.methodLink RL 61 yX6_play, Cond.instanceMethod yX6_play, Cond.selects RX6 yX6_play yX6_play, Cond.code yX6_play cX6_play 2 (some .int), Cond.methodLink RX6 275 yX6_run, Cond.instanceMethod yX6_run, Cond.selects RX6 yX6_run yX6_run, Cond.code yX6_run cX6_run 4 none, Cond.methodLink RX6 265 yX6_begin, Cond.instanceMethod yX6_begin, Cond.selects RX6 yX6_begin yX6_begin, Cond.code yX6_begin cX6_begin 4 none, Cond.fieldLink RX6 219 "KeyBoxModel" "toldMany" "I"]
def wsL_law_r28 : List Cond := [Cond.methodLink RX6 268 yX6_meets, Cond.instanceMethod yX6_meets, Cond.selects RX6 yX6_meets yX6_meets, Cond.code yX6_meets cX6_meets 8 (some .int), Cond.methodLink RX6 245 yX6_giveKeys, Cond.instanceMethod yX6_giveKeys, Cond.selects RX6 yX6_giveKeys yX6_giveKeys, Cond.code yX6_giveKeys cX6_giveKeys 7 none, Cond.methodLink RX6 222 yX6_ruleOf, Cond.instanceMethod yX6_ruleOf, Cond.selects RX6 yX6_ruleOf yX6_ruleOf, Cond.code yX6_ruleOf cX6_ruleOf 3 (some .int), Cond.methodLink RX6 225 yX6_hasKey, Cond.instanceMethod yX6_hasKey, Cond.selects RX6 yX6_hasKey yX6_hasKey, Cond.code yX6_hasKey cX6_hasKey 3 (some .boolean), Cond.methodLink RX6 248 yX6_isOpen, Cond.instanceMethod yX6_isOpen, Cond.selects RX6 yX6_isOpen yX6_isOpen, Cond.code yX6_isOpen cX6_isOpen 5 (some .boolean), Cond.methodLink RX6 251 yX6_opens, Cond.instanceMethod yX6_opens, Cond.selects RX6 yX6_opens yX6_opens, Cond.code yX6_opens cX6_opens 8 none]
def wsL_law_r29 : List Cond := [Cond.methodLink RX6 229 yX6_part, Cond.static yX6_part, Cond.code yX6_part cX6_part 3 (some .int), Cond.methodLink RX6 255 yX6_does, Cond.instanceMethod yX6_does, Cond.selects RX6 yX6_does yX6_does, Cond.code yX6_does cX6_does 8 none, Cond.methodLink RX6 238 yX6_leaves, Cond.instanceMethod yX6_leaves, Cond.selects RX6 yX6_leaves yX6_leaves, Cond.code yX6_leaves cX6_leaves 5 none, Cond.methodLink RX6 232 yX6_owed, Cond.instanceMethod yX6_owed, Cond.selects RX6 yX6_owed yX6_owed, Cond.code yX6_owed cX6_owed 4 (some .int), Cond.methodLink RX6 235 yX6_allStamps, Cond.instanceMethod yX6_allStamps, Cond.selects RX6 yX6_allStamps yX6_allStamps, Cond.code yX6_allStamps cX6_allStamps 4 (some .int), Cond.methodLink RX6 258 yX6_lends, Cond.instanceMethod yX6_lends, Cond.selects RX6 yX6_lends yX6_lends, Cond.code yX6_lends cX6_lends 8 none, Cond.methodLink RX6 242 yX6_isAhead]
def wsL_law_r30 : List Cond := [Cond.instanceMethod yX6_isAhead, Cond.selects RX6 yX6_isAhead yX6_isAhead, Cond.code yX6_isAhead cX6_isAhead 6 (some .boolean), Cond.methodLink RX6 261 yX6_keep, Cond.instanceMethod yX6_keep, Cond.selects RX6 yX6_keep yX6_keep, Cond.code yX6_keep cX6_keep 6 none, Cond.methodLink RX6 271 yX6_parting, Cond.instanceMethod yX6_parting, Cond.selects RX6 yX6_parting yX6_parting, Cond.code yX6_parting cX6_parting 6 none, Cond.methodLink RL 62 yX5_member, Cond.instanceMethod yX5_member, Cond.selects RX5 yX5_member yX5_member, Cond.code yX5_member cX5_member 3 (some .int), Cond.methodLink RX5 114 yX0_isMember, Cond.methodLink RL 65 yX6_member, Cond.instanceMethod yX6_member, Cond.selects RX6 yX6_member yX6_member, Cond.code yX6_member cX6_member 3 (some .int), Cond.methodLink RL 66 yX5_meeting, Cond.instanceMethod yX5_meeting, Cond.selects RX5 yX5_meeting yX5_meeting, Cond.code yX5_meeting cX5_meeting 3 (some .int)]
def wsL_law_r31 : List Cond := [Cond.methodLink RX5 121 yX0_isMeeting, Cond.methodLink RL 69 yX6_meeting, Cond.instanceMethod yX6_meeting, Cond.selects RX6 yX6_meeting yX6_meeting, Cond.code yX6_meeting cX6_meeting 3 (some .int), Cond.methodLink RL 70 yX5_sum, Cond.instanceMethod yX5_sum, Cond.selects RX5 yX5_sum yX5_sum, Cond.code yX5_sum cX5_sum 2 (some .int), Cond.methodLink RL 73 yX6_sum, Cond.instanceMethod yX6_sum, Cond.selects RX6 yX6_sum yX6_sum, Cond.code yX6_sum cX6_sum 2 (some .int), Cond.methodLink RL 74 yX5_parts, Cond.instanceMethod yX5_parts, Cond.selects RX5 yX5_parts yX5_parts, Cond.code yX5_parts cX5_parts 4 (some .int), Cond.methodLink RX5 127 yX4_begin, Cond.methodLink RX5 133 yX4_playMeeting, Cond.methodLink RX5 136 yX4_differsFrom, Cond.instanceMethod yX4_differsFrom, Cond.selects RX4 yX4_differsFrom yX4_differsFrom, Cond.code yX4_differsFrom cX4_differsFrom 3 (some .boolean), Cond.methodLink RL 77 yX6_parts]
def wsL_law_r32 : List Cond := [Cond.instanceMethod yX6_parts, Cond.selects RX6 yX6_parts yX6_parts, Cond.code yX6_parts cX6_parts 8 (some .int), Cond.methodLink RL 78 yX5_gains, Cond.instanceMethod yX5_gains, Cond.selects RX5 yX5_gains yX5_gains, Cond.code yX5_gains cX5_gains 4 (some .int), Cond.constant RX5 140 (-2000000000), Cond.methodLink RX5 141 yX4_hasOfTheYear, Cond.instanceMethod yX4_hasOfTheYear, Cond.selects RX4 yX4_hasOfTheYear yX4_hasOfTheYear, Cond.code yX4_hasOfTheYear cX4_hasOfTheYear 4 (some .int), Cond.methodLink RX4 134 yX0_isMember, Cond.methodLink RL 81 yX6_gains, Cond.instanceMethod yX6_gains, Cond.selects RX6 yX6_gains yX6_gains, Cond.code yX6_gains cX6_gains 4 (some .int), Cond.constant RX6 281 (-2000000000), Cond.methodLink RX6 278 yX6_has, Cond.instanceMethod yX6_has, Cond.selects RX6 yX6_has yX6_has, Cond.code yX6_has cX6_has 4 (some .int), Cond.methodLink RL 82 yX5_count, Cond.instanceMethod yX5_count]
def wsL_law_r33 : List Cond := [Cond.selects RX5 yX5_count yX5_count, Cond.code yX5_count cX5_count 2 (some .int), Cond.methodLink RL 85 yX6_count, Cond.instanceMethod yX6_count, Cond.selects RX6 yX6_count yX6_count, Cond.code yX6_count cX6_count 4 (some .int)]
def wsL_law : List Cond := (wsL_law_r1 ++ (wsL_law_r2 ++ (wsL_law_r3 ++ (wsL_law_r4 ++ (wsL_law_r5 ++ (wsL_law_r6 ++ (wsL_law_r7 ++ (wsL_law_r8 ++ (wsL_law_r9 ++ (wsL_law_r10 ++ (wsL_law_r11 ++ (wsL_law_r12 ++ (wsL_law_r13 ++ (wsL_law_r14 ++ (wsL_law_r15 ++ (wsL_law_r16 ++ (wsL_law_r17 ++ (wsL_law_r18 ++ (wsL_law_r19 ++ (wsL_law_r20 ++ (wsL_law_r21 ++ (wsL_law_r22 ++ (wsL_law_r23 ++ (wsL_law_r24 ++ (wsL_law_r25 ++ (wsL_law_r26 ++ (wsL_law_r27 ++ (wsL_law_r28 ++ (wsL_law_r29 ++ (wsL_law_r30 ++ (wsL_law_r31 ++ (wsL_law_r32 ++ wsL_law_r33)))))))))))))))))))))))))))))))) ++ wsX50 ++ wsX60 ++ wsX30 ++ wsX00 ++ wsX20 ++ wsX10 ++ wsX40 ++ ([] : List Cond)
end
section
theorem dX0_init_0 : decode cX0_init 0 = .ok (.aload_n 0, 1) := by decide +kernel
theorem dX0_init_1 : decode cX0_init 1 = .ok (.invokespecial 3, 3) := by decide +kernel
theorem dX0_init_4 : decode cX0_init 4 = .ok (.aload_n 0, 1) := by decide +kernel
theorem dX0_init_5 : decode cX0_init 5 = .ok (.sipush 300, 3) := by decide +kernel
theorem dX0_init_8 : decode cX0_init 8 = .ok (.newarray .int, 2) := by decide +kernel
theorem dX0_init_10 : decode cX0_init 10 = .ok (.putfield 11, 3) := by decide +kernel
theorem dX0_init_13 : decode cX0_init 13 = .ok (.aload_n 0, 1) := by decide +kernel
theorem dX0_init_14 : decode cX0_init 14 = .ok (.sipush 300, 3) := by decide +kernel
theorem dX0_init_17 : decode cX0_init 17 = .ok (.newarray .int, 2) := by decide +kernel
theorem dX0_init_19 : decode cX0_init 19 = .ok (.putfield 15, 3) := by decide +kernel
theorem dX0_init_22 : decode cX0_init 22 = .ok (.aload_n 0, 1) := by decide +kernel
theorem dX0_init_23 : decode cX0_init 23 = .ok (.sipush 300, 3) := by decide +kernel
theorem dX0_init_26 : decode cX0_init 26 = .ok (.newarray .int, 2) := by decide +kernel
theorem dX0_init_28 : decode cX0_init 28 = .ok (.putfield 18, 3) := by decide +kernel
theorem dX0_init_31 : decode cX0_init 31 = .ok (.aload_n 0, 1) := by decide +kernel
theorem dX0_init_32 : decode cX0_init 32 = .ok (.bipush 52, 2) := by decide +kernel
theorem dX0_init_34 : decode cX0_init 34 = .ok (.newarray .int, 2) := by decide +kernel
theorem dX0_init_36 : decode cX0_init 36 = .ok (.putfield 21, 3) := by decide +kernel
theorem dX0_init_39 : decode cX0_init 39 = .ok (.aload_n 0, 1) := by decide +kernel
theorem dX0_init_40 : decode cX0_init 40 = .ok (.iconst 3, 1) := by decide +kernel
theorem dX0_init_41 : decode cX0_init 41 = .ok (.putfield 24, 3) := by decide +kernel
theorem dX0_init_44 : decode cX0_init 44 = .ok (.return_, 1) := by decide +kernel
theorem dX0_isMember_0 : decode cX0_isMember 0 = .ok (.iload_n 1, 1) := by decide +kernel
theorem dX0_isMember_1 : decode cX0_isMember 1 = .ok (.ifCond .lt 15, 3) := by decide +kernel
theorem dX0_isMember_4 : decode cX0_isMember 4 = .ok (.iload_n 1, 1) := by decide +kernel
theorem dX0_isMember_5 : decode cX0_isMember 5 = .ok (.aload_n 0, 1) := by decide +kernel
theorem dX0_isMember_6 : decode cX0_isMember 6 = .ok (.getfield 24, 3) := by decide +kernel
theorem dX0_isMember_9 : decode cX0_isMember 9 = .ok (.if_icmp .ge 7, 3) := by decide +kernel
theorem dX0_isMember_12 : decode cX0_isMember 12 = .ok (.iconst 1, 1) := by decide +kernel
theorem dX0_isMember_13 : decode cX0_isMember 13 = .ok (.goto 4, 3) := by decide +kernel
theorem dX0_isMember_16 : decode cX0_isMember 16 = .ok (.iconst 0, 1) := by decide +kernel
theorem dX0_isMember_17 : decode cX0_isMember 17 = .ok (.ireturn, 1) := by decide +kernel
theorem dX0_isMeeting_0 : decode cX0_isMeeting 0 = .ok (.iload_n 1, 1) := by decide +kernel
theorem dX0_isMeeting_1 : decode cX0_isMeeting 1 = .ok (.ifCond .lt 15, 3) := by decide +kernel
theorem dX0_isMeeting_4 : decode cX0_isMeeting 4 = .ok (.iload_n 1, 1) := by decide +kernel
theorem dX0_isMeeting_5 : decode cX0_isMeeting 5 = .ok (.aload_n 0, 1) := by decide +kernel
theorem dX0_isMeeting_6 : decode cX0_isMeeting 6 = .ok (.getfield 28, 3) := by decide +kernel
theorem dX0_isMeeting_9 : decode cX0_isMeeting 9 = .ok (.if_icmp .ge 7, 3) := by decide +kernel
theorem dX0_isMeeting_12 : decode cX0_isMeeting 12 = .ok (.iconst 1, 1) := by decide +kernel
theorem dX0_isMeeting_13 : decode cX0_isMeeting 13 = .ok (.goto 4, 3) := by decide +kernel
theorem dX0_isMeeting_16 : decode cX0_isMeeting 16 = .ok (.iconst 0, 1) := by decide +kernel
theorem dX0_isMeeting_17 : decode cX0_isMeeting 17 = .ok (.ireturn, 1) := by decide +kernel
theorem dX0_setMembers_0 : decode cX0_setMembers 0 = .ok (.iload_n 1, 1) := by decide +kernel
theorem dX0_setMembers_1 : decode cX0_setMembers 1 = .ok (.iconst 3, 1) := by decide +kernel
theorem dX0_setMembers_2 : decode cX0_setMembers 2 = .ok (.if_icmp .lt 9, 3) := by decide +kernel
theorem dX0_setMembers_5 : decode cX0_setMembers 5 = .ok (.iload_n 1, 1) := by decide +kernel
theorem dX0_setMembers_6 : decode cX0_setMembers 6 = .ok (.bipush 24, 2) := by decide +kernel
theorem dX0_setMembers_8 : decode cX0_setMembers 8 = .ok (.if_icmp .le 6, 3) := by decide +kernel
theorem dX0_setMembers_11 : decode cX0_setMembers 11 = .ok (.bipush (-2), 2) := by decide +kernel
theorem dX0_setMembers_13 : decode cX0_setMembers 13 = .ok (.ireturn, 1) := by decide +kernel
theorem dX0_setMembers_14 : decode cX0_setMembers 14 = .ok (.aload_n 0, 1) := by decide +kernel
theorem dX0_setMembers_15 : decode cX0_setMembers 15 = .ok (.getfield 31, 3) := by decide +kernel
theorem dX0_setMembers_18 : decode cX0_setMembers 18 = .ok (.ifCond .le 6, 3) := by decide +kernel
theorem dX0_setMembers_21 : decode cX0_setMembers 21 = .ok (.bipush (-4), 2) := by decide +kernel
theorem dX0_setMembers_23 : decode cX0_setMembers 23 = .ok (.ireturn, 1) := by decide +kernel
theorem dX0_setMembers_24 : decode cX0_setMembers 24 = .ok (.aload_n 0, 1) := by decide +kernel
theorem dX0_setMembers_25 : decode cX0_setMembers 25 = .ok (.iload_n 1, 1) := by decide +kernel
theorem dX0_setMembers_26 : decode cX0_setMembers 26 = .ok (.putfield 24, 3) := by decide +kernel
theorem dX0_setMembers_29 : decode cX0_setMembers 29 = .ok (.iconst 1, 1) := by decide +kernel
theorem dX0_setMembers_30 : decode cX0_setMembers 30 = .ok (.ireturn, 1) := by decide +kernel
set_option maxRecDepth 20000 in
theorem ggX0_addMeeting_X0_latestWeek : GoodIn wsX0_addMeeting wsX0_latestWeek := goodIn_r _ [9, 3, 10, 4, 17, 18, 19, 20, 21, 22, 23] (by decide +kernel) (by decide +kernel)
set_option maxRecDepth 20000 in
theorem gX0_addMeeting_X0_latestWeek : GoodIn wsX0_addMeeting (wsV RX0 34 RX0 yX0_latestWeek wsX0_latestWeek) := goodIn_app (goodIn_of _ (by decide +kernel)) ggX0_addMeeting_X0_latestWeek
set_option maxRecDepth 20000 in
theorem ggX0_addMeeting_X0_add : GoodIn wsX0_addMeeting wsX0_add := goodIn_r _ [14, 15, 2, 10, 16, 17, 18, 19, 20, 21, 22, 23] (by decide +kernel) (by decide +kernel)
set_option maxRecDepth 20000 in
theorem gX0_addMeeting_X0_add : GoodIn wsX0_addMeeting (wsV RX0 38 RX0 yX0_add wsX0_add) := goodIn_app (goodIn_of _ (by decide +kernel)) ggX0_addMeeting_X0_add
theorem dX0_addMeeting_0 : decode cX0_addMeeting 0 = .ok (.iload_n 1, 1) := by decide +kernel
theorem dX0_addMeeting_1 : decode cX0_addMeeting 1 = .ok (.aload_n 0, 1) := by decide +kernel
theorem dX0_addMeeting_2 : decode cX0_addMeeting 2 = .ok (.invokevirtual 34, 3) := by decide +kernel
theorem dX0_addMeeting_5 : decode cX0_addMeeting 5 = .ok (.if_icmp .le 23, 3) := by decide +kernel
theorem dX0_addMeeting_8 : decode cX0_addMeeting 8 = .ok (.iload_n 1, 1) := by decide +kernel
theorem dX0_addMeeting_9 : decode cX0_addMeeting 9 = .ok (.bipush 52, 2) := by decide +kernel
theorem dX0_addMeeting_11 : decode cX0_addMeeting 11 = .ok (.if_icmp .ge 17, 3) := by decide +kernel
theorem dX0_addMeeting_14 : decode cX0_addMeeting 14 = .ok (.iload_n 2, 1) := by decide +kernel
theorem dX0_addMeeting_15 : decode cX0_addMeeting 15 = .ok (.ifCond .lt 13, 3) := by decide +kernel
theorem dX0_addMeeting_18 : decode cX0_addMeeting 18 = .ok (.iload_n 2, 1) := by decide +kernel
theorem dX0_addMeeting_19 : decode cX0_addMeeting 19 = .ok (.iconst 1, 1) := by decide +kernel
theorem dX0_addMeeting_20 : decode cX0_addMeeting 20 = .ok (.aload_n 0, 1) := by decide +kernel
theorem dX0_addMeeting_21 : decode cX0_addMeeting 21 = .ok (.getfield 24, 3) := by decide +kernel
theorem dX0_addMeeting_24 : decode cX0_addMeeting 24 = .ok (.ishl, 1) := by decide +kernel
theorem dX0_addMeeting_25 : decode cX0_addMeeting 25 = .ok (.if_icmp .lt 6, 3) := by decide +kernel
theorem dX0_addMeeting_28 : decode cX0_addMeeting 28 = .ok (.bipush (-2), 2) := by decide +kernel
theorem dX0_addMeeting_30 : decode cX0_addMeeting 30 = .ok (.ireturn, 1) := by decide +kernel
theorem dX0_addMeeting_31 : decode cX0_addMeeting 31 = .ok (.aload_n 0, 1) := by decide +kernel
theorem dX0_addMeeting_32 : decode cX0_addMeeting 32 = .ok (.getfield 31, 3) := by decide +kernel
theorem dX0_addMeeting_35 : decode cX0_addMeeting 35 = .ok (.sipush 300, 3) := by decide +kernel
theorem dX0_addMeeting_38 : decode cX0_addMeeting 38 = .ok (.if_icmp .ge 12, 3) := by decide +kernel
theorem dX0_addMeeting_41 : decode cX0_addMeeting 41 = .ok (.aload_n 0, 1) := by decide +kernel
theorem dX0_addMeeting_42 : decode cX0_addMeeting 42 = .ok (.getfield 28, 3) := by decide +kernel
theorem dX0_addMeeting_45 : decode cX0_addMeeting 45 = .ok (.bipush 52, 2) := by decide +kernel
theorem dX0_addMeeting_47 : decode cX0_addMeeting 47 = .ok (.if_icmp .lt 6, 3) := by decide +kernel
theorem dX0_addMeeting_50 : decode cX0_addMeeting 50 = .ok (.bipush (-3), 2) := by decide +kernel
theorem dX0_addMeeting_52 : decode cX0_addMeeting 52 = .ok (.ireturn, 1) := by decide +kernel
theorem dX0_addMeeting_53 : decode cX0_addMeeting 53 = .ok (.aload_n 0, 1) := by decide +kernel
theorem dX0_addMeeting_54 : decode cX0_addMeeting 54 = .ok (.getfield 21, 3) := by decide +kernel
theorem dX0_addMeeting_57 : decode cX0_addMeeting 57 = .ok (.aload_n 0, 1) := by decide +kernel
theorem dX0_addMeeting_58 : decode cX0_addMeeting 58 = .ok (.getfield 28, 3) := by decide +kernel
theorem dX0_addMeeting_61 : decode cX0_addMeeting 61 = .ok (.aload_n 0, 1) := by decide +kernel
theorem dX0_addMeeting_62 : decode cX0_addMeeting 62 = .ok (.getfield 31, 3) := by decide +kernel
theorem dX0_addMeeting_65 : decode cX0_addMeeting 65 = .ok (.iastore, 1) := by decide +kernel
theorem dX0_addMeeting_66 : decode cX0_addMeeting 66 = .ok (.aload_n 0, 1) := by decide +kernel
theorem dX0_addMeeting_67 : decode cX0_addMeeting 67 = .ok (.dup, 1) := by decide +kernel
theorem dX0_addMeeting_68 : decode cX0_addMeeting 68 = .ok (.getfield 28, 3) := by decide +kernel
theorem dX0_addMeeting_71 : decode cX0_addMeeting 71 = .ok (.iconst 1, 1) := by decide +kernel
theorem dX0_addMeeting_72 : decode cX0_addMeeting 72 = .ok (.iadd, 1) := by decide +kernel
theorem dX0_addMeeting_73 : decode cX0_addMeeting 73 = .ok (.putfield 28, 3) := by decide +kernel
theorem dX0_addMeeting_76 : decode cX0_addMeeting 76 = .ok (.aload_n 0, 1) := by decide +kernel
theorem dX0_addMeeting_77 : decode cX0_addMeeting 77 = .ok (.iconst 0, 1) := by decide +kernel
theorem dX0_addMeeting_78 : decode cX0_addMeeting 78 = .ok (.iload_n 1, 1) := by decide +kernel
theorem dX0_addMeeting_79 : decode cX0_addMeeting 79 = .ok (.iload_n 2, 1) := by decide +kernel
theorem dX0_addMeeting_80 : decode cX0_addMeeting 80 = .ok (.invokevirtual 38, 3) := by decide +kernel
theorem dX0_addMeeting_83 : decode cX0_addMeeting 83 = .ok (.ireturn, 1) := by decide +kernel
set_option maxRecDepth 20000 in
theorem ggX0_addEntry_X0_canBe : GoodIn wsX0_addEntry wsX0_canBe := goodIn_r _ [7, 8, 9, 10, 11, 12, 6, 13, 14, 22, 23, 24, 25, 26, 27, 28] (by decide +kernel) (by decide +kernel)
set_option maxRecDepth 20000 in
theorem gX0_addEntry_X0_canBe : GoodIn wsX0_addEntry (wsV RX0 42 RX0 yX0_canBe wsX0_canBe) := goodIn_app (goodIn_of _ (by decide +kernel)) ggX0_addEntry_X0_canBe
set_option maxRecDepth 20000 in
theorem ggX0_addEntry_X0_add : GoodIn wsX0_addEntry wsX0_add := goodIn_r _ [18, 19, 2, 20, 21, 22, 23, 24, 25, 26, 27, 28] (by decide +kernel) (by decide +kernel)
set_option maxRecDepth 20000 in
theorem gX0_addEntry_X0_add : GoodIn wsX0_addEntry (wsV RX0 38 RX0 yX0_add wsX0_add) := goodIn_app (goodIn_of _ (by decide +kernel)) ggX0_addEntry_X0_add
theorem dX0_addEntry_0 : decode cX0_addEntry 0 = .ok (.aload_n 0, 1) := by decide +kernel
theorem dX0_addEntry_1 : decode cX0_addEntry 1 = .ok (.iload_n 1, 1) := by decide +kernel
theorem dX0_addEntry_2 : decode cX0_addEntry 2 = .ok (.iload_n 2, 1) := by decide +kernel
theorem dX0_addEntry_3 : decode cX0_addEntry 3 = .ok (.iload_n 3, 1) := by decide +kernel
theorem dX0_addEntry_4 : decode cX0_addEntry 4 = .ok (.invokevirtual 42, 3) := by decide +kernel
theorem dX0_addEntry_7 : decode cX0_addEntry 7 = .ok (.ifCond .ne 6, 3) := by decide +kernel
theorem dX0_addEntry_10 : decode cX0_addEntry 10 = .ok (.bipush (-2), 2) := by decide +kernel
theorem dX0_addEntry_12 : decode cX0_addEntry 12 = .ok (.ireturn, 1) := by decide +kernel
theorem dX0_addEntry_13 : decode cX0_addEntry 13 = .ok (.aload_n 0, 1) := by decide +kernel
theorem dX0_addEntry_14 : decode cX0_addEntry 14 = .ok (.getfield 28, 3) := by decide +kernel
theorem dX0_addEntry_17 : decode cX0_addEntry 17 = .ok (.ifCond .ne 6, 3) := by decide +kernel
theorem dX0_addEntry_20 : decode cX0_addEntry 20 = .ok (.bipush (-4), 2) := by decide +kernel
theorem dX0_addEntry_22 : decode cX0_addEntry 22 = .ok (.ireturn, 1) := by decide +kernel
theorem dX0_addEntry_23 : decode cX0_addEntry 23 = .ok (.aload_n 0, 1) := by decide +kernel
theorem dX0_addEntry_24 : decode cX0_addEntry 24 = .ok (.getfield 31, 3) := by decide +kernel
theorem dX0_addEntry_27 : decode cX0_addEntry 27 = .ok (.sipush 300, 3) := by decide +kernel
theorem dX0_addEntry_30 : decode cX0_addEntry 30 = .ok (.if_icmp .lt 6, 3) := by decide +kernel
theorem dX0_addEntry_33 : decode cX0_addEntry 33 = .ok (.bipush (-3), 2) := by decide +kernel
theorem dX0_addEntry_35 : decode cX0_addEntry 35 = .ok (.ireturn, 1) := by decide +kernel
theorem dX0_addEntry_36 : decode cX0_addEntry 36 = .ok (.aload_n 0, 1) := by decide +kernel
theorem dX0_addEntry_37 : decode cX0_addEntry 37 = .ok (.iload_n 1, 1) := by decide +kernel
theorem dX0_addEntry_38 : decode cX0_addEntry 38 = .ok (.iload_n 2, 1) := by decide +kernel
theorem dX0_addEntry_39 : decode cX0_addEntry 39 = .ok (.iload_n 3, 1) := by decide +kernel
theorem dX0_addEntry_40 : decode cX0_addEntry 40 = .ok (.invokevirtual 38, 3) := by decide +kernel
theorem dX0_addEntry_43 : decode cX0_addEntry 43 = .ok (.ireturn, 1) := by decide +kernel
theorem dX0_read_0 : decode cX0_read 0 = .ok (.iload_n 1, 1) := by decide +kernel
theorem dX0_read_1 : decode cX0_read 1 = .ok (.ifCond .lt 11, 3) := by decide +kernel
theorem dX0_read_4 : decode cX0_read 4 = .ok (.iload_n 1, 1) := by decide +kernel
theorem dX0_read_5 : decode cX0_read 5 = .ok (.aload_n 0, 1) := by decide +kernel
theorem dX0_read_6 : decode cX0_read 6 = .ok (.getfield 31, 3) := by decide +kernel
theorem dX0_read_9 : decode cX0_read 9 = .ok (.if_icmp .lt 6, 3) := by decide +kernel
theorem dX0_read_12 : decode cX0_read 12 = .ok (.bipush (-9), 2) := by decide +kernel
theorem dX0_read_14 : decode cX0_read 14 = .ok (.ireturn, 1) := by decide +kernel
theorem dX0_read_15 : decode cX0_read 15 = .ok (.iload_n 2, 1) := by decide +kernel
theorem dX0_read_16 : decode cX0_read 16 = .ok (.tableswitch 49 0 2 #[28, 35, 42], 28) := by decide +kernel
theorem dX0_read_44 : decode cX0_read 44 = .ok (.aload_n 0, 1) := by decide +kernel
theorem dX0_read_45 : decode cX0_read 45 = .ok (.getfield 11, 3) := by decide +kernel
theorem dX0_read_48 : decode cX0_read 48 = .ok (.iload_n 1, 1) := by decide +kernel
theorem dX0_read_49 : decode cX0_read 49 = .ok (.iaload, 1) := by decide +kernel
theorem dX0_read_50 : decode cX0_read 50 = .ok (.ireturn, 1) := by decide +kernel
theorem dX0_read_51 : decode cX0_read 51 = .ok (.aload_n 0, 1) := by decide +kernel
theorem dX0_read_52 : decode cX0_read 52 = .ok (.getfield 15, 3) := by decide +kernel
theorem dX0_read_55 : decode cX0_read 55 = .ok (.iload_n 1, 1) := by decide +kernel
theorem dX0_read_56 : decode cX0_read 56 = .ok (.iaload, 1) := by decide +kernel
theorem dX0_read_57 : decode cX0_read 57 = .ok (.ireturn, 1) := by decide +kernel
theorem dX0_read_58 : decode cX0_read 58 = .ok (.aload_n 0, 1) := by decide +kernel
theorem dX0_read_59 : decode cX0_read 59 = .ok (.getfield 18, 3) := by decide +kernel
theorem dX0_read_62 : decode cX0_read 62 = .ok (.iload_n 1, 1) := by decide +kernel
theorem dX0_read_63 : decode cX0_read 63 = .ok (.iaload, 1) := by decide +kernel
theorem dX0_read_64 : decode cX0_read 64 = .ok (.ireturn, 1) := by decide +kernel
theorem dX0_read_65 : decode cX0_read 65 = .ok (.bipush (-9), 2) := by decide +kernel
theorem dX0_read_67 : decode cX0_read 67 = .ok (.ireturn, 1) := by decide +kernel
theorem dX0_takeBack_0 : decode cX0_takeBack 0 = .ok (.aload_n 0, 1) := by decide +kernel
theorem dX0_takeBack_1 : decode cX0_takeBack 1 = .ok (.getfield 31, 3) := by decide +kernel
theorem dX0_takeBack_4 : decode cX0_takeBack 4 = .ok (.ifCond .ne 6, 3) := by decide +kernel
theorem dX0_takeBack_7 : decode cX0_takeBack 7 = .ok (.bipush (-4), 2) := by decide +kernel
theorem dX0_takeBack_9 : decode cX0_takeBack 9 = .ok (.ireturn, 1) := by decide +kernel
theorem dX0_takeBack_10 : decode cX0_takeBack 10 = .ok (.aload_n 0, 1) := by decide +kernel
theorem dX0_takeBack_11 : decode cX0_takeBack 11 = .ok (.dup, 1) := by decide +kernel
theorem dX0_takeBack_12 : decode cX0_takeBack 12 = .ok (.getfield 31, 3) := by decide +kernel
theorem dX0_takeBack_15 : decode cX0_takeBack 15 = .ok (.iconst 1, 1) := by decide +kernel
theorem dX0_takeBack_16 : decode cX0_takeBack 16 = .ok (.isub, 1) := by decide +kernel
theorem dX0_takeBack_17 : decode cX0_takeBack 17 = .ok (.putfield 31, 3) := by decide +kernel
theorem dX0_takeBack_20 : decode cX0_takeBack 20 = .ok (.aload_n 0, 1) := by decide +kernel
theorem dX0_takeBack_21 : decode cX0_takeBack 21 = .ok (.getfield 11, 3) := by decide +kernel
theorem dX0_takeBack_24 : decode cX0_takeBack 24 = .ok (.aload_n 0, 1) := by decide +kernel
theorem dX0_takeBack_25 : decode cX0_takeBack 25 = .ok (.getfield 31, 3) := by decide +kernel
theorem dX0_takeBack_28 : decode cX0_takeBack 28 = .ok (.iaload, 1) := by decide +kernel
theorem dX0_takeBack_29 : decode cX0_takeBack 29 = .ok (.ifCond .ne 13, 3) := by decide +kernel
theorem dX0_takeBack_32 : decode cX0_takeBack 32 = .ok (.aload_n 0, 1) := by decide +kernel
theorem dX0_takeBack_33 : decode cX0_takeBack 33 = .ok (.dup, 1) := by decide +kernel
theorem dX0_takeBack_34 : decode cX0_takeBack 34 = .ok (.getfield 28, 3) := by decide +kernel
theorem dX0_takeBack_37 : decode cX0_takeBack 37 = .ok (.iconst 1, 1) := by decide +kernel
theorem dX0_takeBack_38 : decode cX0_takeBack 38 = .ok (.isub, 1) := by decide +kernel
theorem dX0_takeBack_39 : decode cX0_takeBack 39 = .ok (.putfield 28, 3) := by decide +kernel
theorem dX0_takeBack_42 : decode cX0_takeBack 42 = .ok (.aload_n 0, 1) := by decide +kernel
theorem dX0_takeBack_43 : decode cX0_takeBack 43 = .ok (.getfield 31, 3) := by decide +kernel
theorem dX0_takeBack_46 : decode cX0_takeBack 46 = .ok (.ireturn, 1) := by decide +kernel
set_option maxRecDepth 20000 in
theorem ggX0_startOf_X0_isMeeting : GoodIn wsX0_startOf wsX0_isMeeting := goodIn_r _ [6, 7, 8, 9, 10, 11, 12, 13, 14] (by decide +kernel) (by decide +kernel)
set_option maxRecDepth 20000 in
theorem gX0_startOf_X0_isMeeting : GoodIn wsX0_startOf (wsV RX0 46 RX0 yX0_isMeeting wsX0_isMeeting) := goodIn_app (goodIn_of _ (by decide +kernel)) ggX0_startOf_X0_isMeeting
theorem dX0_startOf_0 : decode cX0_startOf 0 = .ok (.aload_n 0, 1) := by decide +kernel
theorem dX0_startOf_1 : decode cX0_startOf 1 = .ok (.iload_n 1, 1) := by decide +kernel
theorem dX0_startOf_2 : decode cX0_startOf 2 = .ok (.invokevirtual 46, 3) := by decide +kernel
theorem dX0_startOf_5 : decode cX0_startOf 5 = .ok (.ifCond .eq 12, 3) := by decide +kernel
theorem dX0_startOf_8 : decode cX0_startOf 8 = .ok (.aload_n 0, 1) := by decide +kernel
theorem dX0_startOf_9 : decode cX0_startOf 9 = .ok (.getfield 21, 3) := by decide +kernel
theorem dX0_startOf_12 : decode cX0_startOf 12 = .ok (.iload_n 1, 1) := by decide +kernel
theorem dX0_startOf_13 : decode cX0_startOf 13 = .ok (.iaload, 1) := by decide +kernel
theorem dX0_startOf_14 : decode cX0_startOf 14 = .ok (.goto 4, 3) := by decide +kernel
theorem dX0_startOf_17 : decode cX0_startOf 17 = .ok (.iconst 0, 1) := by decide +kernel
theorem dX0_startOf_18 : decode cX0_startOf 18 = .ok (.ireturn, 1) := by decide +kernel
set_option maxRecDepth 20000 in
theorem ggX0_endOf_X0_isMeeting : GoodIn wsX0_endOf wsX0_isMeeting := goodIn_r _ [7, 8, 9, 10, 11, 12, 13, 14, 15] (by decide +kernel) (by decide +kernel)
set_option maxRecDepth 20000 in
theorem gX0_endOf_X0_isMeeting : GoodIn wsX0_endOf (wsV RX0 46 RX0 yX0_isMeeting wsX0_isMeeting) := goodIn_app (goodIn_of _ (by decide +kernel)) ggX0_endOf_X0_isMeeting
theorem dX0_endOf_0 : decode cX0_endOf 0 = .ok (.aload_n 0, 1) := by decide +kernel
theorem dX0_endOf_1 : decode cX0_endOf 1 = .ok (.iload_n 1, 1) := by decide +kernel
theorem dX0_endOf_2 : decode cX0_endOf 2 = .ok (.iconst 1, 1) := by decide +kernel
theorem dX0_endOf_3 : decode cX0_endOf 3 = .ok (.iadd, 1) := by decide +kernel
theorem dX0_endOf_4 : decode cX0_endOf 4 = .ok (.invokevirtual 46, 3) := by decide +kernel
theorem dX0_endOf_7 : decode cX0_endOf 7 = .ok (.ifCond .eq 14, 3) := by decide +kernel
theorem dX0_endOf_10 : decode cX0_endOf 10 = .ok (.aload_n 0, 1) := by decide +kernel
theorem dX0_endOf_11 : decode cX0_endOf 11 = .ok (.getfield 21, 3) := by decide +kernel
theorem dX0_endOf_14 : decode cX0_endOf 14 = .ok (.iload_n 1, 1) := by decide +kernel
theorem dX0_endOf_15 : decode cX0_endOf 15 = .ok (.iconst 1, 1) := by decide +kernel
theorem dX0_endOf_16 : decode cX0_endOf 16 = .ok (.iadd, 1) := by decide +kernel
theorem dX0_endOf_17 : decode cX0_endOf 17 = .ok (.iaload, 1) := by decide +kernel
theorem dX0_endOf_18 : decode cX0_endOf 18 = .ok (.goto 7, 3) := by decide +kernel
theorem dX0_endOf_21 : decode cX0_endOf 21 = .ok (.aload_n 0, 1) := by decide +kernel
theorem dX0_endOf_22 : decode cX0_endOf 22 = .ok (.getfield 31, 3) := by decide +kernel
theorem dX0_endOf_25 : decode cX0_endOf 25 = .ok (.ireturn, 1) := by decide +kernel
theorem dX0_latestWeek_0 : decode cX0_latestWeek 0 = .ok (.aload_n 0, 1) := by decide +kernel
theorem dX0_latestWeek_1 : decode cX0_latestWeek 1 = .ok (.getfield 28, 3) := by decide +kernel
theorem dX0_latestWeek_4 : decode cX0_latestWeek 4 = .ok (.ifCond .ne 7, 3) := by decide +kernel
theorem dX0_latestWeek_7 : decode cX0_latestWeek 7 = .ok (.iconst (-1), 1) := by decide +kernel
theorem dX0_latestWeek_8 : decode cX0_latestWeek 8 = .ok (.goto 19, 3) := by decide +kernel
theorem dX0_latestWeek_11 : decode cX0_latestWeek 11 = .ok (.aload_n 0, 1) := by decide +kernel
theorem dX0_latestWeek_12 : decode cX0_latestWeek 12 = .ok (.getfield 15, 3) := by decide +kernel
theorem dX0_latestWeek_15 : decode cX0_latestWeek 15 = .ok (.aload_n 0, 1) := by decide +kernel
theorem dX0_latestWeek_16 : decode cX0_latestWeek 16 = .ok (.getfield 21, 3) := by decide +kernel
theorem dX0_latestWeek_19 : decode cX0_latestWeek 19 = .ok (.aload_n 0, 1) := by decide +kernel
theorem dX0_latestWeek_20 : decode cX0_latestWeek 20 = .ok (.getfield 28, 3) := by decide +kernel
theorem dX0_latestWeek_23 : decode cX0_latestWeek 23 = .ok (.iconst 1, 1) := by decide +kernel
theorem dX0_latestWeek_24 : decode cX0_latestWeek 24 = .ok (.isub, 1) := by decide +kernel
theorem dX0_latestWeek_25 : decode cX0_latestWeek 25 = .ok (.iaload, 1) := by decide +kernel
theorem dX0_latestWeek_26 : decode cX0_latestWeek 26 = .ok (.iaload, 1) := by decide +kernel
theorem dX0_latestWeek_27 : decode cX0_latestWeek 27 = .ok (.ireturn, 1) := by decide +kernel
set_option maxRecDepth 20000 in
theorem ggX0_canBe_X0_isMember : GoodIn wsX0_canBe wsX0_isMember := goodIn_r _ [7, 8, 9, 10, 11, 12, 13, 14, 15] (by decide +kernel) (by decide +kernel)
set_option maxRecDepth 20000 in
theorem gX0_canBe_X0_isMember : GoodIn wsX0_canBe (wsV RX0 56 RX0 yX0_isMember wsX0_isMember) := goodIn_app (goodIn_of _ (by decide +kernel)) ggX0_canBe_X0_isMember
theorem dX0_canBe_0 : decode cX0_canBe 0 = .ok (.iload_n 1, 1) := by decide +kernel
theorem dX0_canBe_1 : decode cX0_canBe 1 = .ok (.iconst 1, 1) := by decide +kernel
theorem dX0_canBe_2 : decode cX0_canBe 2 = .ok (.if_icmp .lt 27, 3) := by decide +kernel
theorem dX0_canBe_5 : decode cX0_canBe 5 = .ok (.iload_n 1, 1) := by decide +kernel
theorem dX0_canBe_6 : decode cX0_canBe 6 = .ok (.bipush 7, 2) := by decide +kernel
theorem dX0_canBe_8 : decode cX0_canBe 8 = .ok (.if_icmp .gt 21, 3) := by decide +kernel
theorem dX0_canBe_11 : decode cX0_canBe 11 = .ok (.iload_n 3, 1) := by decide +kernel
theorem dX0_canBe_12 : decode cX0_canBe 12 = .ok (.getstatic 50, 3) := by decide +kernel
theorem dX0_canBe_15 : decode cX0_canBe 15 = .ok (.iload_n 1, 1) := by decide +kernel
theorem dX0_canBe_16 : decode cX0_canBe 16 = .ok (.iaload, 1) := by decide +kernel
theorem dX0_canBe_17 : decode cX0_canBe 17 = .ok (.if_icmp .lt 12, 3) := by decide +kernel
theorem dX0_canBe_20 : decode cX0_canBe 20 = .ok (.iload_n 3, 1) := by decide +kernel
theorem dX0_canBe_21 : decode cX0_canBe 21 = .ok (.getstatic 53, 3) := by decide +kernel
theorem dX0_canBe_24 : decode cX0_canBe 24 = .ok (.iload_n 1, 1) := by decide +kernel
theorem dX0_canBe_25 : decode cX0_canBe 25 = .ok (.iaload, 1) := by decide +kernel
theorem dX0_canBe_26 : decode cX0_canBe 26 = .ok (.if_icmp .le 5, 3) := by decide +kernel
theorem dX0_canBe_29 : decode cX0_canBe 29 = .ok (.iconst 0, 1) := by decide +kernel
theorem dX0_canBe_30 : decode cX0_canBe 30 = .ok (.ireturn, 1) := by decide +kernel
theorem dX0_canBe_31 : decode cX0_canBe 31 = .ok (.iload_n 1, 1) := by decide +kernel
theorem dX0_canBe_32 : decode cX0_canBe 32 = .ok (.bipush 7, 2) := by decide +kernel
theorem dX0_canBe_34 : decode cX0_canBe 34 = .ok (.if_icmp .ne 15, 3) := by decide +kernel
theorem dX0_canBe_37 : decode cX0_canBe 37 = .ok (.iload_n 2, 1) := by decide +kernel
theorem dX0_canBe_38 : decode cX0_canBe 38 = .ok (.ifCond .ne 7, 3) := by decide +kernel
theorem dX0_canBe_41 : decode cX0_canBe 41 = .ok (.iconst 1, 1) := by decide +kernel
theorem dX0_canBe_42 : decode cX0_canBe 42 = .ok (.goto 12, 3) := by decide +kernel
theorem dX0_canBe_45 : decode cX0_canBe 45 = .ok (.iconst 0, 1) := by decide +kernel
theorem dX0_canBe_46 : decode cX0_canBe 46 = .ok (.goto 8, 3) := by decide +kernel
theorem dX0_canBe_49 : decode cX0_canBe 49 = .ok (.aload_n 0, 1) := by decide +kernel
theorem dX0_canBe_50 : decode cX0_canBe 50 = .ok (.iload_n 2, 1) := by decide +kernel
theorem dX0_canBe_51 : decode cX0_canBe 51 = .ok (.invokevirtual 56, 3) := by decide +kernel
theorem dX0_canBe_54 : decode cX0_canBe 54 = .ok (.ireturn, 1) := by decide +kernel
theorem dX0_add_0 : decode cX0_add 0 = .ok (.aload_n 0, 1) := by decide +kernel
theorem dX0_add_1 : decode cX0_add 1 = .ok (.getfield 11, 3) := by decide +kernel
theorem dX0_add_4 : decode cX0_add 4 = .ok (.aload_n 0, 1) := by decide +kernel
theorem dX0_add_5 : decode cX0_add 5 = .ok (.getfield 31, 3) := by decide +kernel
theorem dX0_add_8 : decode cX0_add 8 = .ok (.iload_n 1, 1) := by decide +kernel
theorem dX0_add_9 : decode cX0_add 9 = .ok (.iastore, 1) := by decide +kernel
theorem dX0_add_10 : decode cX0_add 10 = .ok (.aload_n 0, 1) := by decide +kernel
theorem dX0_add_11 : decode cX0_add 11 = .ok (.getfield 15, 3) := by decide +kernel
theorem dX0_add_14 : decode cX0_add 14 = .ok (.aload_n 0, 1) := by decide +kernel
theorem dX0_add_15 : decode cX0_add 15 = .ok (.getfield 31, 3) := by decide +kernel
theorem dX0_add_18 : decode cX0_add 18 = .ok (.iload_n 2, 1) := by decide +kernel
theorem dX0_add_19 : decode cX0_add 19 = .ok (.iastore, 1) := by decide +kernel
theorem dX0_add_20 : decode cX0_add 20 = .ok (.aload_n 0, 1) := by decide +kernel
theorem dX0_add_21 : decode cX0_add 21 = .ok (.getfield 18, 3) := by decide +kernel
theorem dX0_add_24 : decode cX0_add 24 = .ok (.aload_n 0, 1) := by decide +kernel
theorem dX0_add_25 : decode cX0_add 25 = .ok (.getfield 31, 3) := by decide +kernel
theorem dX0_add_28 : decode cX0_add 28 = .ok (.iload_n 3, 1) := by decide +kernel
theorem dX0_add_29 : decode cX0_add 29 = .ok (.iastore, 1) := by decide +kernel
theorem dX0_add_30 : decode cX0_add 30 = .ok (.aload_n 0, 1) := by decide +kernel
theorem dX0_add_31 : decode cX0_add 31 = .ok (.dup, 1) := by decide +kernel
theorem dX0_add_32 : decode cX0_add 32 = .ok (.getfield 31, 3) := by decide +kernel
theorem dX0_add_35 : decode cX0_add 35 = .ok (.iconst 1, 1) := by decide +kernel
theorem dX0_add_36 : decode cX0_add 36 = .ok (.iadd, 1) := by decide +kernel
theorem dX0_add_37 : decode cX0_add 37 = .ok (.putfield 31, 3) := by decide +kernel
theorem dX0_add_40 : decode cX0_add 40 = .ok (.aload_n 0, 1) := by decide +kernel
theorem dX0_add_41 : decode cX0_add 41 = .ok (.getfield 31, 3) := by decide +kernel
theorem dX0_add_44 : decode cX0_add 44 = .ok (.iconst 1, 1) := by decide +kernel
theorem dX0_add_45 : decode cX0_add 45 = .ok (.isub, 1) := by decide +kernel
theorem dX0_add_46 : decode cX0_add 46 = .ok (.ireturn, 1) := by decide +kernel
set_option maxRecDepth 20000 in
theorem ggX1_init_X2_init : GoodIn wsX1_init wsX2_init := goodIn_r _ [13, 14, 2, 3, 15, 16, 17, 18, 19, 20, 21, 22, 23] (by decide +kernel) (by decide +kernel)
set_option maxRecDepth 20000 in
theorem gX1_init_X2_init_n11 : GoodIn wsX1_init (wsX2_init) := ggX1_init_X2_init
theorem dX1_init_0 : decode cX1_init 0 = .ok (.aload_n 0, 1) := by decide +kernel
theorem dX1_init_1 : decode cX1_init 1 = .ok (.invokespecial 3, 3) := by decide +kernel
theorem dX1_init_4 : decode cX1_init 4 = .ok (.aload_n 0, 1) := by decide +kernel
theorem dX1_init_5 : decode cX1_init 5 = .ok (.new 9, 3) := by decide +kernel
theorem dX1_init_8 : decode cX1_init 8 = .ok (.dup, 1) := by decide +kernel
theorem dX1_init_9 : decode cX1_init 9 = .ok (.invokespecial 11, 3) := by decide +kernel
theorem dX1_init_12 : decode cX1_init 12 = .ok (.putfield 12, 3) := by decide +kernel
theorem dX1_init_15 : decode cX1_init 15 = .ok (.aload_n 0, 1) := by decide +kernel
theorem dX1_init_16 : decode cX1_init 16 = .ok (.bipush 12, 2) := by decide +kernel
theorem dX1_init_18 : decode cX1_init 18 = .ok (.newarray .boolean, 2) := by decide +kernel
theorem dX1_init_20 : decode cX1_init 20 = .ok (.putfield 18, 3) := by decide +kernel
theorem dX1_init_23 : decode cX1_init 23 = .ok (.aload_n 0, 1) := by decide +kernel
theorem dX1_init_24 : decode cX1_init 24 = .ok (.iconst (-1), 1) := by decide +kernel
theorem dX1_init_25 : decode cX1_init 25 = .ok (.putfield 22, 3) := by decide +kernel
theorem dX1_init_28 : decode cX1_init 28 = .ok (.aload_n 0, 1) := by decide +kernel
theorem dX1_init_29 : decode cX1_init 29 = .ok (.aload_n 1, 1) := by decide +kernel
theorem dX1_init_30 : decode cX1_init 30 = .ok (.putfield 26, 3) := by decide +kernel
theorem dX1_init_33 : decode cX1_init 33 = .ok (.return_, 1) := by decide +kernel
set_option maxRecDepth 20000 in
theorem ggX1_read_X1_startAnew : GoodIn wsX1_read wsX1_startAnew := goodIn_r _ [7, 2, 8, 9, 10, 11, 12, 13, 14, 15, 16, 17, 18, 19, 20, 21, 22, 140, 141, 142, 143, 144, 145, 146, 147, 148] (by decide +kernel) (by decide +kernel)
set_option maxRecDepth 20000 in
theorem gX1_read_X1_startAnew : GoodIn wsX1_read (wsV RX1 30 RX1 yX1_startAnew wsX1_startAnew) := goodIn_app (goodIn_of _ (by decide +kernel)) ggX1_read_X1_startAnew
set_option maxRecDepth 20000 in
theorem ggX1_read_X1_nextToken : GoodIn wsX1_read wsX1_nextToken := goodIn_r _ [26, 9, 27, 1, 28, 29, 30, 6, 31, 32, 33, 34, 35, 36, 37, 38, 39, 40, 41, 42, 43, 140, 141, 142, 143, 144, 145, 146, 147, 149, 150] (by decide +kernel) (by decide +kernel)
set_option maxRecDepth 20000 in
theorem gX1_read_X1_nextToken : GoodIn wsX1_read (wsV RX1 35 RX1 yX1_nextToken wsX1_nextToken) := goodIn_app (goodIn_of _ (by decide +kernel)) ggX1_read_X1_nextToken
set_option maxRecDepth 20000 in
theorem ggX1_read_X2_copy : GoodIn wsX1_read wsX2_copy := goodIn_r _ [47, 18, 19, 20, 21, 22, 148] (by decide +kernel) (by decide +kernel)
set_option maxRecDepth 20000 in
theorem gX1_read_X2_copy : GoodIn wsX1_read (wsV RX1 41 RX2 yX2_copy wsX2_copy) := goodIn_app (goodIn_of _ (by decide +kernel)) ggX1_read_X2_copy
set_option maxRecDepth 20000 in
theorem ggX1_read_X1_readLine : GoodIn wsX1_read wsX1_readLine := goodIn_r _ [51, 8, 2, 1, 52, 53, 54, 6, 55, 56, 57, 15, 58, 59, 60, 61, 62, 9, 27, 32, 63, 64, 65, 66, 67, 68, 69, 70, 71, 72, 73, 74, 37, 38, 39, 40, 41, 42, 43, 75, 76, 77, 78, 79, 80, 81, 82, 83, 84, 85, 86, 87, 88, 89, 90, 91, 92, 93, 94, 95, 96, 97, 98, 99, 100, 101, 102, 103, 104, 105, 106, 107, 108, 109, 110, 111, 112, 113, 114, 115, 10, 11, 116, 117, 118, 119, 23, 24, 25, 26, 28, 29, 30, 31, 33, 34, 35, 36, 120, 121, 122, 123, 124, 125, 126, 127, 128, 129, 130, 131, 132, 133, 134, 135, 136, 137, 138, 139, 18, 140, 141, 142, 143, 144, 145, 146, 147, 149, 150, 148] (by decide +kernel) (by decide +kernel)
set_option maxRecDepth 20000 in
theorem gX1_read_X1_readLine : GoodIn wsX1_read (wsV RX1 45 RX1 yX1_readLine wsX1_readLine) := goodIn_app (goodIn_of _ (by decide +kernel)) ggX1_read_X1_readLine
theorem dX1_read_0 : decode cX1_read 0 = .ok (.aload_n 0, 1) := by decide +kernel
theorem dX1_read_1 : decode cX1_read 1 = .ok (.invokevirtual 30, 3) := by decide +kernel
theorem dX1_read_4 : decode cX1_read 4 = .ok (.iconst 0, 1) := by decide +kernel
theorem dX1_read_5 : decode cX1_read 5 = .ok (.istore_n 2, 1) := by decide +kernel
theorem dX1_read_6 : decode cX1_read 6 = .ok (.iload_n 2, 1) := by decide +kernel
theorem dX1_read_7 : decode cX1_read 7 = .ok (.sipush 500, 3) := by decide +kernel
theorem dX1_read_10 : decode cX1_read 10 = .ok (.if_icmp .gt 39, 3) := by decide +kernel
theorem dX1_read_13 : decode cX1_read 13 = .ok (.aload_n 0, 1) := by decide +kernel
theorem dX1_read_14 : decode cX1_read 14 = .ok (.invokevirtual 35, 3) := by decide +kernel
theorem dX1_read_17 : decode cX1_read 17 = .ok (.aload_n 0, 1) := by decide +kernel
theorem dX1_read_18 : decode cX1_read 18 = .ok (.getfield 38, 3) := by decide +kernel
theorem dX1_read_21 : decode cX1_read 21 = .ok (.ifCond .ne 13, 3) := by decide +kernel
theorem dX1_read_24 : decode cX1_read 24 = .ok (.aload_n 1, 1) := by decide +kernel
theorem dX1_read_25 : decode cX1_read 25 = .ok (.aload_n 0, 1) := by decide +kernel
theorem dX1_read_26 : decode cX1_read 26 = .ok (.getfield 12, 3) := by decide +kernel
theorem dX1_read_29 : decode cX1_read 29 = .ok (.invokevirtual 41, 3) := by decide +kernel
theorem dX1_read_32 : decode cX1_read 32 = .ok (.iload_n 2, 1) := by decide +kernel
theorem dX1_read_33 : decode cX1_read 33 = .ok (.ireturn, 1) := by decide +kernel
theorem dX1_read_34 : decode cX1_read 34 = .ok (.aload_n 0, 1) := by decide +kernel
theorem dX1_read_35 : decode cX1_read 35 = .ok (.invokevirtual 45, 3) := by decide +kernel
theorem dX1_read_38 : decode cX1_read 38 = .ok (.ifCond .ne 5, 3) := by decide +kernel
theorem dX1_read_41 : decode cX1_read 41 = .ok (.iconst (-1), 1) := by decide +kernel
theorem dX1_read_42 : decode cX1_read 42 = .ok (.ireturn, 1) := by decide +kernel
theorem dX1_read_43 : decode cX1_read 43 = .ok (.iinc 2 1, 3) := by decide +kernel
theorem dX1_read_46 : decode cX1_read 46 = .ok (.goto (-40), 3) := by decide +kernel
theorem dX1_read_49 : decode cX1_read 49 = .ok (.iconst (-1), 1) := by decide +kernel
theorem dX1_read_50 : decode cX1_read 50 = .ok (.ireturn, 1) := by decide +kernel
set_option maxRecDepth 20000 in
theorem ggX1_startAnew_X2_forget : GoodIn wsX1_startAnew wsX2_forget := goodIn_r _ [10, 11, 12, 13, 14, 15, 16, 25] (by decide +kernel) (by decide +kernel)
set_option maxRecDepth 20000 in
theorem gX1_startAnew_X2_forget : GoodIn wsX1_startAnew (wsV RX1 49 RX2 yX2_forget wsX2_forget) := goodIn_app (goodIn_of _ (by decide +kernel)) ggX1_startAnew_X2_forget
theorem dX1_startAnew_0 : decode cX1_startAnew 0 = .ok (.aload_n 0, 1) := by decide +kernel
theorem dX1_startAnew_1 : decode cX1_startAnew 1 = .ok (.getfield 12, 3) := by decide +kernel
theorem dX1_startAnew_4 : decode cX1_startAnew 4 = .ok (.invokevirtual 49, 3) := by decide +kernel
theorem dX1_startAnew_7 : decode cX1_startAnew 7 = .ok (.iconst 0, 1) := by decide +kernel
theorem dX1_startAnew_8 : decode cX1_startAnew 8 = .ok (.istore_n 1, 1) := by decide +kernel
theorem dX1_startAnew_9 : decode cX1_startAnew 9 = .ok (.iload_n 1, 1) := by decide +kernel
theorem dX1_startAnew_10 : decode cX1_startAnew 10 = .ok (.bipush 12, 2) := by decide +kernel
theorem dX1_startAnew_12 : decode cX1_startAnew 12 = .ok (.if_icmp .ge 16, 3) := by decide +kernel
theorem dX1_startAnew_15 : decode cX1_startAnew 15 = .ok (.aload_n 0, 1) := by decide +kernel
theorem dX1_startAnew_16 : decode cX1_startAnew 16 = .ok (.getfield 18, 3) := by decide +kernel
theorem dX1_startAnew_19 : decode cX1_startAnew 19 = .ok (.iload_n 1, 1) := by decide +kernel
theorem dX1_startAnew_20 : decode cX1_startAnew 20 = .ok (.iconst 0, 1) := by decide +kernel
theorem dX1_startAnew_21 : decode cX1_startAnew 21 = .ok (.bastore, 1) := by decide +kernel
theorem dX1_startAnew_22 : decode cX1_startAnew 22 = .ok (.iinc 1 1, 3) := by decide +kernel
theorem dX1_startAnew_25 : decode cX1_startAnew 25 = .ok (.goto (-16), 3) := by decide +kernel
theorem dX1_startAnew_28 : decode cX1_startAnew 28 = .ok (.aload_n 0, 1) := by decide +kernel
theorem dX1_startAnew_29 : decode cX1_startAnew 29 = .ok (.iconst 0, 1) := by decide +kernel
theorem dX1_startAnew_30 : decode cX1_startAnew 30 = .ok (.putfield 52, 3) := by decide +kernel
theorem dX1_startAnew_33 : decode cX1_startAnew 33 = .ok (.aload_n 0, 1) := by decide +kernel
theorem dX1_startAnew_34 : decode cX1_startAnew 34 = .ok (.iconst 0, 1) := by decide +kernel
theorem dX1_startAnew_35 : decode cX1_startAnew 35 = .ok (.putfield 55, 3) := by decide +kernel
theorem dX1_startAnew_38 : decode cX1_startAnew 38 = .ok (.aload_n 0, 1) := by decide +kernel
theorem dX1_startAnew_39 : decode cX1_startAnew 39 = .ok (.iconst (-1), 1) := by decide +kernel
theorem dX1_startAnew_40 : decode cX1_startAnew 40 = .ok (.putfield 22, 3) := by decide +kernel
theorem dX1_startAnew_43 : decode cX1_startAnew 43 = .ok (.return_, 1) := by decide +kernel
set_option maxRecDepth 20000 in
theorem ggX1_readLine_X1_tokenAsTopic : GoodIn wsX1_readLine wsX1_tokenAsTopic := goodIn_r _ [8, 9, 10, 11, 12, 13, 14, 15, 7, 16, 3, 17, 18, 19, 20, 21, 22, 23, 24, 25, 26, 27, 28, 29, 30, 31, 32, 33, 34, 35, 36, 37, 38, 39, 40, 41, 42, 43, 44, 45, 46, 47, 48, 49, 50, 51, 52, 53, 54, 55, 56, 57, 58, 59, 60, 61, 62, 63, 64, 65, 66, 67, 68, 69, 70, 71, 72, 73, 74, 75, 119, 120, 121, 122, 123, 124, 125, 126, 127, 128] (by decide +kernel) (by decide +kernel)
set_option maxRecDepth 20000 in
theorem gX1_readLine_X1_tokenAsTopic : GoodIn wsX1_readLine (wsV RX1 58 RX1 yX1_tokenAsTopic wsX1_tokenAsTopic) := goodIn_app (goodIn_of _ (by decide +kernel)) ggX1_readLine_X1_tokenAsTopic
set_option maxRecDepth 20000 in
theorem ggX1_readLine_X1_failed : GoodIn wsX1_readLine wsX1_failed := goodIn_r _ [79, 80, 18, 81, 119, 120, 121, 122, 123, 124, 125, 126] (by decide +kernel) (by decide +kernel)
set_option maxRecDepth 20000 in
theorem gX1_readLine_X1_failed : GoodIn wsX1_readLine (wsV RX1 62 RX1 yX1_failed wsX1_failed) := goodIn_app (goodIn_of _ (by decide +kernel)) ggX1_readLine_X1_failed
set_option maxRecDepth 20000 in
theorem ggX1_readLine_X1_isToldAlready : GoodIn wsX1_readLine wsX1_isToldAlready := goodIn_r _ [85, 1, 119, 120, 121, 122, 123, 124, 125, 126] (by decide +kernel) (by decide +kernel)
set_option maxRecDepth 20000 in
theorem gX1_readLine_X1_isToldAlready : GoodIn wsX1_readLine (wsV RX1 66 RX1 yX1_isToldAlready wsX1_isToldAlready) := goodIn_app (goodIn_of _ (by decide +kernel)) ggX1_readLine_X1_isToldAlready
set_option maxRecDepth 20000 in
theorem ggX1_readLine_X1_nextToken : GoodIn wsX1_readLine wsX1_nextToken := goodIn_r _ [89, 17, 18, 3, 90, 91, 92, 7, 93, 19, 94, 95, 96, 97, 32, 33, 34, 35, 36, 37, 38, 119, 120, 121, 122, 123, 124, 125, 126, 127, 128] (by decide +kernel) (by decide +kernel)
set_option maxRecDepth 20000 in
theorem gX1_readLine_X1_nextToken : GoodIn wsX1_readLine (wsV RX1 35 RX1 yX1_nextToken wsX1_nextToken) := goodIn_app (goodIn_of _ (by decide +kernel)) ggX1_readLine_X1_nextToken
set_option maxRecDepth 20000 in
theorem ggX1_readLine_X1_tokenAsOrder : GoodIn wsX1_readLine wsX1_tokenAsOrder := goodIn_r _ [101, 102, 103, 11, 104, 13, 14, 15, 7, 16, 3, 17, 18, 19, 20, 21, 22, 23, 24, 25, 26, 27, 28, 29, 30, 31, 32, 33, 34, 35, 36, 37, 38, 39, 40, 41, 42, 43, 44, 45, 46, 47, 48, 49, 50, 51, 52, 53, 54, 55, 56, 57, 58, 59, 60, 61, 62, 63, 64, 65, 66, 67, 68, 69, 70, 71, 72, 73, 74, 75, 119, 120, 121, 122, 123, 124, 125, 126, 127, 128] (by decide +kernel) (by decide +kernel)
set_option maxRecDepth 20000 in
theorem gX1_readLine_X1_tokenAsOrder : GoodIn wsX1_readLine (wsV RX1 69 RX1 yX1_tokenAsOrder wsX1_tokenAsOrder) := goodIn_app (goodIn_of _ (by decide +kernel)) ggX1_readLine_X1_tokenAsOrder
set_option maxRecDepth 20000 in
theorem ggX1_readLine_X1_tokenAsNumber : GoodIn wsX1_readLine wsX1_tokenAsNumber := goodIn_r _ [108, 3, 18, 17, 19, 32, 33, 34, 35, 36, 37, 38, 119, 120, 121, 122, 123, 124, 125, 126, 127, 128] (by decide +kernel) (by decide +kernel)
set_option maxRecDepth 20000 in
theorem gX1_readLine_X1_tokenAsNumber : GoodIn wsX1_readLine (wsV RX1 72 RX1 yX1_tokenAsNumber wsX1_tokenAsNumber) := goodIn_app (goodIn_of _ (by decide +kernel)) ggX1_readLine_X1_tokenAsNumber
set_option maxRecDepth 20000 in
theorem ggX1_readLine_X2_isInBounds : GoodIn wsX1_readLine wsX2_isInBounds := goodIn_r _ [111, 112, 113] (by decide +kernel) (by decide +kernel)
set_option maxRecDepth 20000 in
theorem gX1_readLine_X2_isInBounds : GoodIn wsX1_readLine (va_wsS RX1 75 yX2_isInBounds wsX2_isInBounds) := goodIn_app (goodIn_of _ (by decide +kernel)) ggX1_readLine_X2_isInBounds
set_option maxRecDepth 20000 in
theorem ggX1_readLine_X2_tell : GoodIn wsX1_readLine wsX2_tell := goodIn_r _ [117, 118, 129] (by decide +kernel) (by decide +kernel)
set_option maxRecDepth 20000 in
theorem gX1_readLine_X2_tell : GoodIn wsX1_readLine (wsV RX1 79 RX2 yX2_tell wsX2_tell) := goodIn_app (goodIn_of _ (by decide +kernel)) ggX1_readLine_X2_tell
theorem dX1_readLine_0 : decode cX1_readLine 0 = .ok (.aload_n 0, 1) := by decide +kernel
theorem dX1_readLine_1 : decode cX1_readLine 1 = .ok (.invokevirtual 58, 3) := by decide +kernel
theorem dX1_readLine_4 : decode cX1_readLine 4 = .ok (.istore_n 1, 1) := by decide +kernel
theorem dX1_readLine_5 : decode cX1_readLine 5 = .ok (.iload_n 1, 1) := by decide +kernel
theorem dX1_readLine_6 : decode cX1_readLine 6 = .ok (.iconst (-1), 1) := by decide +kernel
theorem dX1_readLine_7 : decode cX1_readLine 7 = .ok (.if_icmp .ne 9, 3) := by decide +kernel
theorem dX1_readLine_10 : decode cX1_readLine 10 = .ok (.aload_n 0, 1) := by decide +kernel
theorem dX1_readLine_11 : decode cX1_readLine 11 = .ok (.iconst 1, 1) := by decide +kernel
theorem dX1_readLine_12 : decode cX1_readLine 12 = .ok (.invokevirtual 62, 3) := by decide +kernel
theorem dX1_readLine_15 : decode cX1_readLine 15 = .ok (.ireturn, 1) := by decide +kernel
theorem dX1_readLine_16 : decode cX1_readLine 16 = .ok (.aload_n 0, 1) := by decide +kernel
theorem dX1_readLine_17 : decode cX1_readLine 17 = .ok (.iload_n 1, 1) := by decide +kernel
theorem dX1_readLine_18 : decode cX1_readLine 18 = .ok (.invokevirtual 66, 3) := by decide +kernel
theorem dX1_readLine_21 : decode cX1_readLine 21 = .ok (.ifCond .eq 9, 3) := by decide +kernel
theorem dX1_readLine_24 : decode cX1_readLine 24 = .ok (.aload_n 0, 1) := by decide +kernel
theorem dX1_readLine_25 : decode cX1_readLine 25 = .ok (.iconst 3, 1) := by decide +kernel
theorem dX1_readLine_26 : decode cX1_readLine 26 = .ok (.invokevirtual 62, 3) := by decide +kernel
theorem dX1_readLine_29 : decode cX1_readLine 29 = .ok (.ireturn, 1) := by decide +kernel
theorem dX1_readLine_30 : decode cX1_readLine 30 = .ok (.aload_n 0, 1) := by decide +kernel
theorem dX1_readLine_31 : decode cX1_readLine 31 = .ok (.getfield 18, 3) := by decide +kernel
theorem dX1_readLine_34 : decode cX1_readLine 34 = .ok (.iload_n 1, 1) := by decide +kernel
theorem dX1_readLine_35 : decode cX1_readLine 35 = .ok (.iconst 1, 1) := by decide +kernel
theorem dX1_readLine_36 : decode cX1_readLine 36 = .ok (.bastore, 1) := by decide +kernel
theorem dX1_readLine_37 : decode cX1_readLine 37 = .ok (.aload_n 0, 1) := by decide +kernel
theorem dX1_readLine_38 : decode cX1_readLine 38 = .ok (.invokevirtual 35, 3) := by decide +kernel
theorem dX1_readLine_41 : decode cX1_readLine 41 = .ok (.iload_n 1, 1) := by decide +kernel
theorem dX1_readLine_42 : decode cX1_readLine 42 = .ok (.bipush 11, 2) := by decide +kernel
theorem dX1_readLine_44 : decode cX1_readLine 44 = .ok (.if_icmp .ne 10, 3) := by decide +kernel
theorem dX1_readLine_47 : decode cX1_readLine 47 = .ok (.aload_n 0, 1) := by decide +kernel
theorem dX1_readLine_48 : decode cX1_readLine 48 = .ok (.invokevirtual 69, 3) := by decide +kernel
theorem dX1_readLine_51 : decode cX1_readLine 51 = .ok (.goto 7, 3) := by decide +kernel
theorem dX1_readLine_54 : decode cX1_readLine 54 = .ok (.aload_n 0, 1) := by decide +kernel
theorem dX1_readLine_55 : decode cX1_readLine 55 = .ok (.invokevirtual 72, 3) := by decide +kernel
theorem dX1_readLine_58 : decode cX1_readLine 58 = .ok (.istore_n 2, 1) := by decide +kernel
theorem dX1_readLine_59 : decode cX1_readLine 59 = .ok (.iload_n 2, 1) := by decide +kernel
theorem dX1_readLine_60 : decode cX1_readLine 60 = .ok (.iconst (-1), 1) := by decide +kernel
theorem dX1_readLine_61 : decode cX1_readLine 61 = .ok (.if_icmp .ne 9, 3) := by decide +kernel
theorem dX1_readLine_64 : decode cX1_readLine 64 = .ok (.aload_n 0, 1) := by decide +kernel
theorem dX1_readLine_65 : decode cX1_readLine 65 = .ok (.iconst 1, 1) := by decide +kernel
theorem dX1_readLine_66 : decode cX1_readLine 66 = .ok (.invokevirtual 62, 3) := by decide +kernel
theorem dX1_readLine_69 : decode cX1_readLine 69 = .ok (.ireturn, 1) := by decide +kernel
theorem dX1_readLine_70 : decode cX1_readLine 70 = .ok (.iload_n 1, 1) := by decide +kernel
theorem dX1_readLine_71 : decode cX1_readLine 71 = .ok (.iload_n 2, 1) := by decide +kernel
theorem dX1_readLine_72 : decode cX1_readLine 72 = .ok (.invokestatic 75, 3) := by decide +kernel
theorem dX1_readLine_75 : decode cX1_readLine 75 = .ok (.ifCond .ne 9, 3) := by decide +kernel
theorem dX1_readLine_78 : decode cX1_readLine 78 = .ok (.aload_n 0, 1) := by decide +kernel
theorem dX1_readLine_79 : decode cX1_readLine 79 = .ok (.iconst 2, 1) := by decide +kernel
theorem dX1_readLine_80 : decode cX1_readLine 80 = .ok (.invokevirtual 62, 3) := by decide +kernel
theorem dX1_readLine_83 : decode cX1_readLine 83 = .ok (.ireturn, 1) := by decide +kernel
theorem dX1_readLine_84 : decode cX1_readLine 84 = .ok (.aload_n 0, 1) := by decide +kernel
theorem dX1_readLine_85 : decode cX1_readLine 85 = .ok (.getfield 12, 3) := by decide +kernel
theorem dX1_readLine_88 : decode cX1_readLine 88 = .ok (.iload_n 1, 1) := by decide +kernel
theorem dX1_readLine_89 : decode cX1_readLine 89 = .ok (.iload_n 2, 1) := by decide +kernel
theorem dX1_readLine_90 : decode cX1_readLine 90 = .ok (.invokevirtual 79, 3) := by decide +kernel
theorem dX1_readLine_93 : decode cX1_readLine 93 = .ok (.aload_n 0, 1) := by decide +kernel
theorem dX1_readLine_94 : decode cX1_readLine 94 = .ok (.invokevirtual 35, 3) := by decide +kernel
theorem dX1_readLine_97 : decode cX1_readLine 97 = .ok (.aload_n 0, 1) := by decide +kernel
theorem dX1_readLine_98 : decode cX1_readLine 98 = .ok (.getfield 38, 3) := by decide +kernel
theorem dX1_readLine_101 : decode cX1_readLine 101 = .ok (.iconst 3, 1) := by decide +kernel
theorem dX1_readLine_102 : decode cX1_readLine 102 = .ok (.if_icmp .eq 11, 3) := by decide +kernel
theorem dX1_readLine_105 : decode cX1_readLine 105 = .ok (.aload_n 0, 1) := by decide +kernel
theorem dX1_readLine_106 : decode cX1_readLine 106 = .ok (.iconst 1, 1) := by decide +kernel
theorem dX1_readLine_107 : decode cX1_readLine 107 = .ok (.invokevirtual 62, 3) := by decide +kernel
theorem dX1_readLine_110 : decode cX1_readLine 110 = .ok (.ifCond .eq 7, 3) := by decide +kernel
theorem dX1_readLine_113 : decode cX1_readLine 113 = .ok (.iconst 1, 1) := by decide +kernel
theorem dX1_readLine_114 : decode cX1_readLine 114 = .ok (.goto 4, 3) := by decide +kernel
theorem dX1_readLine_117 : decode cX1_readLine 117 = .ok (.iconst 0, 1) := by decide +kernel
theorem dX1_readLine_118 : decode cX1_readLine 118 = .ok (.ireturn, 1) := by decide +kernel
theorem dX1_failed_0 : decode cX1_failed 0 = .ok (.aload_n 0, 1) := by decide +kernel
theorem dX1_failed_1 : decode cX1_failed 1 = .ok (.iload_n 1, 1) := by decide +kernel
theorem dX1_failed_2 : decode cX1_failed 2 = .ok (.putfield 55, 3) := by decide +kernel
theorem dX1_failed_5 : decode cX1_failed 5 = .ok (.aload_n 0, 1) := by decide +kernel
theorem dX1_failed_6 : decode cX1_failed 6 = .ok (.aload_n 0, 1) := by decide +kernel
theorem dX1_failed_7 : decode cX1_failed 7 = .ok (.getfield 83, 3) := by decide +kernel
theorem dX1_failed_10 : decode cX1_failed 10 = .ok (.putfield 22, 3) := by decide +kernel
theorem dX1_failed_13 : decode cX1_failed 13 = .ok (.iconst 0, 1) := by decide +kernel
theorem dX1_failed_14 : decode cX1_failed 14 = .ok (.ireturn, 1) := by decide +kernel
theorem dX1_isToldAlready_0 : decode cX1_isToldAlready 0 = .ok (.iload_n 1, 1) := by decide +kernel
theorem dX1_isToldAlready_1 : decode cX1_isToldAlready 1 = .ok (.iconst 3, 1) := by decide +kernel
theorem dX1_isToldAlready_2 : decode cX1_isToldAlready 2 = .ok (.if_icmp .eq 8, 3) := by decide +kernel
theorem dX1_isToldAlready_5 : decode cX1_isToldAlready 5 = .ok (.iload_n 1, 1) := by decide +kernel
theorem dX1_isToldAlready_6 : decode cX1_isToldAlready 6 = .ok (.iconst 4, 1) := by decide +kernel
theorem dX1_isToldAlready_7 : decode cX1_isToldAlready 7 = .ok (.if_icmp .ne 27, 3) := by decide +kernel
theorem dX1_isToldAlready_10 : decode cX1_isToldAlready 10 = .ok (.aload_n 0, 1) := by decide +kernel
theorem dX1_isToldAlready_11 : decode cX1_isToldAlready 11 = .ok (.getfield 18, 3) := by decide +kernel
theorem dX1_isToldAlready_14 : decode cX1_isToldAlready 14 = .ok (.iconst 3, 1) := by decide +kernel
theorem dX1_isToldAlready_15 : decode cX1_isToldAlready 15 = .ok (.baload, 1) := by decide +kernel
theorem dX1_isToldAlready_16 : decode cX1_isToldAlready 16 = .ok (.ifCond .ne 12, 3) := by decide +kernel
theorem dX1_isToldAlready_19 : decode cX1_isToldAlready 19 = .ok (.aload_n 0, 1) := by decide +kernel
theorem dX1_isToldAlready_20 : decode cX1_isToldAlready 20 = .ok (.getfield 18, 3) := by decide +kernel
theorem dX1_isToldAlready_23 : decode cX1_isToldAlready 23 = .ok (.iconst 4, 1) := by decide +kernel
theorem dX1_isToldAlready_24 : decode cX1_isToldAlready 24 = .ok (.baload, 1) := by decide +kernel
theorem dX1_isToldAlready_25 : decode cX1_isToldAlready 25 = .ok (.ifCond .eq 7, 3) := by decide +kernel
theorem dX1_isToldAlready_28 : decode cX1_isToldAlready 28 = .ok (.iconst 1, 1) := by decide +kernel
theorem dX1_isToldAlready_29 : decode cX1_isToldAlready 29 = .ok (.goto 4, 3) := by decide +kernel
theorem dX1_isToldAlready_32 : decode cX1_isToldAlready 32 = .ok (.iconst 0, 1) := by decide +kernel
theorem dX1_isToldAlready_33 : decode cX1_isToldAlready 33 = .ok (.ireturn, 1) := by decide +kernel
theorem dX1_isToldAlready_34 : decode cX1_isToldAlready 34 = .ok (.aload_n 0, 1) := by decide +kernel
theorem dX1_isToldAlready_35 : decode cX1_isToldAlready 35 = .ok (.getfield 18, 3) := by decide +kernel
theorem dX1_isToldAlready_38 : decode cX1_isToldAlready 38 = .ok (.iload_n 1, 1) := by decide +kernel
theorem dX1_isToldAlready_39 : decode cX1_isToldAlready 39 = .ok (.baload, 1) := by decide +kernel
theorem dX1_isToldAlready_40 : decode cX1_isToldAlready 40 = .ok (.ireturn, 1) := by decide +kernel
set_option maxRecDepth 20000 in
theorem ggX1_tokenAsTopic_X2_topicWord : GoodIn wsX1_tokenAsTopic wsX2_topicWord := goodIn_r _ [4] (by decide +kernel) (by decide +kernel)
set_option maxRecDepth 20000 in
theorem gX1_tokenAsTopic_X2_topicWord : GoodIn wsX1_tokenAsTopic (va_wsS RX1 86 yX2_topicWord wsX2_topicWord) := goodIn_app (goodIn_of _ (by decide +kernel)) ggX1_tokenAsTopic_X2_topicWord
set_option maxRecDepth 20000 in
theorem ggX1_tokenAsTopic_X1_tokenIs : GoodIn wsX1_tokenAsTopic wsX1_tokenIs := goodIn_r _ [9, 10, 11, 12, 13, 14, 15, 16, 17, 18, 19, 20, 21, 22, 23, 24, 25, 26, 27, 28, 29, 30, 31, 32, 33, 34, 35, 36, 37, 38, 39, 40, 41, 42, 43, 44, 45, 46, 47, 48, 49, 50, 51, 52, 53, 54, 55, 56, 57, 58, 59, 60, 61, 62, 63, 64, 65, 66, 67, 68, 69, 70, 71, 72, 73, 74, 75, 76, 77, 78, 79] (by decide +kernel) (by decide +kernel)
set_option maxRecDepth 20000 in
theorem gX1_tokenAsTopic_X1_tokenIs : GoodIn wsX1_tokenAsTopic (wsV RX1 90 RX1 yX1_tokenIs wsX1_tokenIs) := goodIn_app (goodIn_of _ (by decide +kernel)) ggX1_tokenAsTopic_X1_tokenIs
theorem dX1_tokenAsTopic_0 : decode cX1_tokenAsTopic 0 = .ok (.iconst 0, 1) := by decide +kernel
theorem dX1_tokenAsTopic_1 : decode cX1_tokenAsTopic 1 = .ok (.istore_n 1, 1) := by decide +kernel
theorem dX1_tokenAsTopic_2 : decode cX1_tokenAsTopic 2 = .ok (.iload_n 1, 1) := by decide +kernel
theorem dX1_tokenAsTopic_3 : decode cX1_tokenAsTopic 3 = .ok (.bipush 12, 2) := by decide +kernel
theorem dX1_tokenAsTopic_5 : decode cX1_tokenAsTopic 5 = .ok (.if_icmp .ge 22, 3) := by decide +kernel
theorem dX1_tokenAsTopic_8 : decode cX1_tokenAsTopic 8 = .ok (.aload_n 0, 1) := by decide +kernel
theorem dX1_tokenAsTopic_9 : decode cX1_tokenAsTopic 9 = .ok (.iload_n 1, 1) := by decide +kernel
theorem dX1_tokenAsTopic_10 : decode cX1_tokenAsTopic 10 = .ok (.invokestatic 86, 3) := by decide +kernel
theorem dX1_tokenAsTopic_13 : decode cX1_tokenAsTopic 13 = .ok (.invokevirtual 90, 3) := by decide +kernel
theorem dX1_tokenAsTopic_16 : decode cX1_tokenAsTopic 16 = .ok (.ifCond .eq 5, 3) := by decide +kernel
theorem dX1_tokenAsTopic_19 : decode cX1_tokenAsTopic 19 = .ok (.iload_n 1, 1) := by decide +kernel
theorem dX1_tokenAsTopic_20 : decode cX1_tokenAsTopic 20 = .ok (.ireturn, 1) := by decide +kernel
theorem dX1_tokenAsTopic_21 : decode cX1_tokenAsTopic 21 = .ok (.iinc 1 1, 3) := by decide +kernel
theorem dX1_tokenAsTopic_24 : decode cX1_tokenAsTopic 24 = .ok (.goto (-22), 3) := by decide +kernel
theorem dX1_tokenAsTopic_27 : decode cX1_tokenAsTopic 27 = .ok (.iconst (-1), 1) := by decide +kernel
theorem dX1_tokenAsTopic_28 : decode cX1_tokenAsTopic 28 = .ok (.ireturn, 1) := by decide +kernel
set_option maxRecDepth 20000 in
theorem ggX1_tokenAsOrder_X2_orderWord : GoodIn wsX1_tokenAsOrder wsX2_orderWord := goodIn_r _ [4] (by decide +kernel) (by decide +kernel)
set_option maxRecDepth 20000 in
theorem gX1_tokenAsOrder_X2_orderWord : GoodIn wsX1_tokenAsOrder (va_wsS RX1 94 yX2_orderWord wsX2_orderWord) := goodIn_app (goodIn_of _ (by decide +kernel)) ggX1_tokenAsOrder_X2_orderWord
set_option maxRecDepth 20000 in
theorem ggX1_tokenAsOrder_X1_tokenIs : GoodIn wsX1_tokenAsOrder wsX1_tokenIs := goodIn_r _ [9, 10, 11, 12, 13, 14, 15, 16, 17, 18, 19, 20, 21, 22, 23, 24, 25, 26, 27, 28, 29, 30, 31, 32, 33, 34, 35, 36, 37, 38, 39, 40, 41, 42, 43, 44, 45, 46, 47, 48, 49, 50, 51, 52, 53, 54, 55, 56, 57, 58, 59, 60, 61, 62, 63, 64, 65, 66, 67, 68, 69, 70, 71, 72, 73, 74, 75, 76, 77, 78, 79] (by decide +kernel) (by decide +kernel)
set_option maxRecDepth 20000 in
theorem gX1_tokenAsOrder_X1_tokenIs : GoodIn wsX1_tokenAsOrder (wsV RX1 90 RX1 yX1_tokenIs wsX1_tokenIs) := goodIn_app (goodIn_of _ (by decide +kernel)) ggX1_tokenAsOrder_X1_tokenIs
theorem dX1_tokenAsOrder_0 : decode cX1_tokenAsOrder 0 = .ok (.iconst 0, 1) := by decide +kernel
theorem dX1_tokenAsOrder_1 : decode cX1_tokenAsOrder 1 = .ok (.istore_n 1, 1) := by decide +kernel
theorem dX1_tokenAsOrder_2 : decode cX1_tokenAsOrder 2 = .ok (.iload_n 1, 1) := by decide +kernel
theorem dX1_tokenAsOrder_3 : decode cX1_tokenAsOrder 3 = .ok (.iconst 3, 1) := by decide +kernel
theorem dX1_tokenAsOrder_4 : decode cX1_tokenAsOrder 4 = .ok (.if_icmp .ge 22, 3) := by decide +kernel
theorem dX1_tokenAsOrder_7 : decode cX1_tokenAsOrder 7 = .ok (.aload_n 0, 1) := by decide +kernel
theorem dX1_tokenAsOrder_8 : decode cX1_tokenAsOrder 8 = .ok (.iload_n 1, 1) := by decide +kernel
theorem dX1_tokenAsOrder_9 : decode cX1_tokenAsOrder 9 = .ok (.invokestatic 94, 3) := by decide +kernel
theorem dX1_tokenAsOrder_12 : decode cX1_tokenAsOrder 12 = .ok (.invokevirtual 90, 3) := by decide +kernel
theorem dX1_tokenAsOrder_15 : decode cX1_tokenAsOrder 15 = .ok (.ifCond .eq 5, 3) := by decide +kernel
theorem dX1_tokenAsOrder_18 : decode cX1_tokenAsOrder 18 = .ok (.iload_n 1, 1) := by decide +kernel
theorem dX1_tokenAsOrder_19 : decode cX1_tokenAsOrder 19 = .ok (.ireturn, 1) := by decide +kernel
theorem dX1_tokenAsOrder_20 : decode cX1_tokenAsOrder 20 = .ok (.iinc 1 1, 3) := by decide +kernel
theorem dX1_tokenAsOrder_23 : decode cX1_tokenAsOrder 23 = .ok (.goto (-21), 3) := by decide +kernel
theorem dX1_tokenAsOrder_26 : decode cX1_tokenAsOrder 26 = .ok (.iconst (-1), 1) := by decide +kernel
theorem dX1_tokenAsOrder_27 : decode cX1_tokenAsOrder 27 = .ok (.ireturn, 1) := by decide +kernel
set_option maxRecDepth 20000 in
theorem ggX1_tokenAsNumber_X3_at : GoodIn wsX1_tokenAsNumber wsX3_at := goodIn_r _ [9, 10, 11, 20, 21] (by decide +kernel) (by decide +kernel)
set_option maxRecDepth 20000 in
theorem gX1_tokenAsNumber_X3_at : GoodIn wsX1_tokenAsNumber (wsV RX1 97 RX3 yX3_at wsX3_at) := goodIn_app (goodIn_of _ (by decide +kernel)) ggX1_tokenAsNumber_X3_at
theorem dX1_tokenAsNumber_0 : decode cX1_tokenAsNumber 0 = .ok (.aload_n 0, 1) := by decide +kernel
theorem dX1_tokenAsNumber_1 : decode cX1_tokenAsNumber 1 = .ok (.getfield 38, 3) := by decide +kernel
theorem dX1_tokenAsNumber_4 : decode cX1_tokenAsNumber 4 = .ok (.iconst 2, 1) := by decide +kernel
theorem dX1_tokenAsNumber_5 : decode cX1_tokenAsNumber 5 = .ok (.if_icmp .eq 5, 3) := by decide +kernel
theorem dX1_tokenAsNumber_8 : decode cX1_tokenAsNumber 8 = .ok (.iconst (-1), 1) := by decide +kernel
theorem dX1_tokenAsNumber_9 : decode cX1_tokenAsNumber 9 = .ok (.ireturn, 1) := by decide +kernel
theorem dX1_tokenAsNumber_10 : decode cX1_tokenAsNumber 10 = .ok (.iconst 0, 1) := by decide +kernel
theorem dX1_tokenAsNumber_11 : decode cX1_tokenAsNumber 11 = .ok (.istore_n 1, 1) := by decide +kernel
theorem dX1_tokenAsNumber_12 : decode cX1_tokenAsNumber 12 = .ok (.aload_n 0, 1) := by decide +kernel
theorem dX1_tokenAsNumber_13 : decode cX1_tokenAsNumber 13 = .ok (.getfield 83, 3) := by decide +kernel
theorem dX1_tokenAsNumber_16 : decode cX1_tokenAsNumber 16 = .ok (.istore_n 2, 1) := by decide +kernel
theorem dX1_tokenAsNumber_17 : decode cX1_tokenAsNumber 17 = .ok (.iload_n 2, 1) := by decide +kernel
theorem dX1_tokenAsNumber_18 : decode cX1_tokenAsNumber 18 = .ok (.aload_n 0, 1) := by decide +kernel
theorem dX1_tokenAsNumber_19 : decode cX1_tokenAsNumber 19 = .ok (.getfield 52, 3) := by decide +kernel
theorem dX1_tokenAsNumber_22 : decode cX1_tokenAsNumber 22 = .ok (.if_icmp .ge 26, 3) := by decide +kernel
theorem dX1_tokenAsNumber_25 : decode cX1_tokenAsNumber 25 = .ok (.iload_n 1, 1) := by decide +kernel
theorem dX1_tokenAsNumber_26 : decode cX1_tokenAsNumber 26 = .ok (.bipush 10, 2) := by decide +kernel
theorem dX1_tokenAsNumber_28 : decode cX1_tokenAsNumber 28 = .ok (.imul, 1) := by decide +kernel
theorem dX1_tokenAsNumber_29 : decode cX1_tokenAsNumber 29 = .ok (.aload_n 0, 1) := by decide +kernel
theorem dX1_tokenAsNumber_30 : decode cX1_tokenAsNumber 30 = .ok (.getfield 26, 3) := by decide +kernel
theorem dX1_tokenAsNumber_33 : decode cX1_tokenAsNumber 33 = .ok (.iload_n 2, 1) := by decide +kernel
theorem dX1_tokenAsNumber_34 : decode cX1_tokenAsNumber 34 = .ok (.invokevirtual 97, 3) := by decide +kernel
theorem dX1_tokenAsNumber_37 : decode cX1_tokenAsNumber 37 = .ok (.iadd, 1) := by decide +kernel
theorem dX1_tokenAsNumber_38 : decode cX1_tokenAsNumber 38 = .ok (.bipush 48, 2) := by decide +kernel
theorem dX1_tokenAsNumber_40 : decode cX1_tokenAsNumber 40 = .ok (.isub, 1) := by decide +kernel
theorem dX1_tokenAsNumber_41 : decode cX1_tokenAsNumber 41 = .ok (.istore_n 1, 1) := by decide +kernel
theorem dX1_tokenAsNumber_42 : decode cX1_tokenAsNumber 42 = .ok (.iinc 2 1, 3) := by decide +kernel
theorem dX1_tokenAsNumber_45 : decode cX1_tokenAsNumber 45 = .ok (.goto (-28), 3) := by decide +kernel
theorem dX1_tokenAsNumber_48 : decode cX1_tokenAsNumber 48 = .ok (.iload_n 1, 1) := by decide +kernel
theorem dX1_tokenAsNumber_49 : decode cX1_tokenAsNumber 49 = .ok (.ireturn, 1) := by decide +kernel
set_option maxRecDepth 20000 in
theorem ggX1_tokenIs_J0_length_8abf5 : GoodIn wsX1_tokenIs wsJ0_length_8abf5 := goodIn_r _ [9, 10, 11, 12, 13, 8, 14, 15, 16] (by decide +kernel) (by decide +kernel)
set_option maxRecDepth 20000 in
theorem gX1_tokenIs_J0_length_8abf5 : GoodIn wsX1_tokenIs (wsV RX1 101 RJ0 yJ0_length_8abf5 wsJ0_length_8abf5) := goodIn_app (goodIn_of _ (by decide +kernel)) ggX1_tokenIs_J0_length_8abf5
set_option maxRecDepth 20000 in
theorem ggX1_tokenIs_X3_at : GoodIn wsX1_tokenIs wsX3_at := goodIn_r _ [21, 22, 23, 69, 70] (by decide +kernel) (by decide +kernel)
set_option maxRecDepth 20000 in
theorem gX1_tokenIs_X3_at : GoodIn wsX1_tokenIs (wsV RX1 97 RX3 yX3_at wsX3_at) := goodIn_app (goodIn_of _ (by decide +kernel)) ggX1_tokenIs_X3_at
set_option maxRecDepth 20000 in
theorem ggX1_tokenIs_J0_charAt_5068e : GoodIn wsX1_tokenIs wsJ0_charAt_5068e := goodIn_r _ [27, 10, 28, 29, 30, 8, 31, 15, 16, 32, 33, 34, 35, 36, 37, 38, 39, 40, 41, 42, 43, 44, 45, 46, 47, 48, 49, 50, 51, 52, 53, 54, 55, 56, 57, 58, 59, 60] (by decide +kernel) (by decide +kernel)
set_option maxRecDepth 20000 in
theorem gX1_tokenIs_J0_charAt_5068e : GoodIn wsX1_tokenIs (wsV RX1 106 RJ0 yJ0_charAt_5068e wsJ0_charAt_5068e) := goodIn_app (goodIn_of _ (by decide +kernel)) ggX1_tokenIs_J0_charAt_5068e
theorem dX1_tokenIs_0 : decode cX1_tokenIs 0 = .ok (.aload_n 0, 1) := by decide +kernel
theorem dX1_tokenIs_1 : decode cX1_tokenIs 1 = .ok (.getfield 38, 3) := by decide +kernel
theorem dX1_tokenIs_4 : decode cX1_tokenIs 4 = .ok (.iconst 1, 1) := by decide +kernel
theorem dX1_tokenIs_5 : decode cX1_tokenIs 5 = .ok (.if_icmp .ne 19, 3) := by decide +kernel
theorem dX1_tokenIs_8 : decode cX1_tokenIs 8 = .ok (.aload_n 0, 1) := by decide +kernel
theorem dX1_tokenIs_9 : decode cX1_tokenIs 9 = .ok (.getfield 52, 3) := by decide +kernel
theorem dX1_tokenIs_12 : decode cX1_tokenIs 12 = .ok (.aload_n 0, 1) := by decide +kernel
theorem dX1_tokenIs_13 : decode cX1_tokenIs 13 = .ok (.getfield 83, 3) := by decide +kernel
theorem dX1_tokenIs_16 : decode cX1_tokenIs 16 = .ok (.isub, 1) := by decide +kernel
theorem dX1_tokenIs_17 : decode cX1_tokenIs 17 = .ok (.aload_n 1, 1) := by decide +kernel
theorem dX1_tokenIs_18 : decode cX1_tokenIs 18 = .ok (.invokevirtual 101, 3) := by decide +kernel
theorem dX1_tokenIs_21 : decode cX1_tokenIs 21 = .ok (.if_icmp .eq 5, 3) := by decide +kernel
theorem dX1_tokenIs_24 : decode cX1_tokenIs 24 = .ok (.iconst 0, 1) := by decide +kernel
theorem dX1_tokenIs_25 : decode cX1_tokenIs 25 = .ok (.ireturn, 1) := by decide +kernel
theorem dX1_tokenIs_26 : decode cX1_tokenIs 26 = .ok (.iconst 0, 1) := by decide +kernel
theorem dX1_tokenIs_27 : decode cX1_tokenIs 27 = .ok (.istore_n 2, 1) := by decide +kernel
theorem dX1_tokenIs_28 : decode cX1_tokenIs 28 = .ok (.iload_n 2, 1) := by decide +kernel
theorem dX1_tokenIs_29 : decode cX1_tokenIs 29 = .ok (.aload_n 1, 1) := by decide +kernel
theorem dX1_tokenIs_30 : decode cX1_tokenIs 30 = .ok (.invokevirtual 101, 3) := by decide +kernel
theorem dX1_tokenIs_33 : decode cX1_tokenIs 33 = .ok (.if_icmp .ge 32, 3) := by decide +kernel
theorem dX1_tokenIs_36 : decode cX1_tokenIs 36 = .ok (.aload_n 0, 1) := by decide +kernel
theorem dX1_tokenIs_37 : decode cX1_tokenIs 37 = .ok (.getfield 26, 3) := by decide +kernel
theorem dX1_tokenIs_40 : decode cX1_tokenIs 40 = .ok (.aload_n 0, 1) := by decide +kernel
theorem dX1_tokenIs_41 : decode cX1_tokenIs 41 = .ok (.getfield 83, 3) := by decide +kernel
theorem dX1_tokenIs_44 : decode cX1_tokenIs 44 = .ok (.iload_n 2, 1) := by decide +kernel
theorem dX1_tokenIs_45 : decode cX1_tokenIs 45 = .ok (.iadd, 1) := by decide +kernel
theorem dX1_tokenIs_46 : decode cX1_tokenIs 46 = .ok (.invokevirtual 97, 3) := by decide +kernel
theorem dX1_tokenIs_49 : decode cX1_tokenIs 49 = .ok (.aload_n 1, 1) := by decide +kernel
theorem dX1_tokenIs_50 : decode cX1_tokenIs 50 = .ok (.iload_n 2, 1) := by decide +kernel
theorem dX1_tokenIs_51 : decode cX1_tokenIs 51 = .ok (.invokevirtual 106, 3) := by decide +kernel
theorem dX1_tokenIs_54 : decode cX1_tokenIs 54 = .ok (.if_icmp .eq 5, 3) := by decide +kernel
theorem dX1_tokenIs_57 : decode cX1_tokenIs 57 = .ok (.iconst 0, 1) := by decide +kernel
theorem dX1_tokenIs_58 : decode cX1_tokenIs 58 = .ok (.ireturn, 1) := by decide +kernel
theorem dX1_tokenIs_59 : decode cX1_tokenIs 59 = .ok (.iinc 2 1, 3) := by decide +kernel
theorem dX1_tokenIs_62 : decode cX1_tokenIs 62 = .ok (.goto (-34), 3) := by decide +kernel
theorem dX1_tokenIs_65 : decode cX1_tokenIs 65 = .ok (.iconst 1, 1) := by decide +kernel
theorem dX1_tokenIs_66 : decode cX1_tokenIs 66 = .ok (.ireturn, 1) := by decide +kernel
set_option maxRecDepth 20000 in
theorem ggX1_nextToken_X1_behindRun : GoodIn wsX1_nextToken wsX1_behindRun := goodIn_r _ [8, 9, 10, 11, 12, 7, 13, 14, 15, 16, 17, 18, 19, 20, 21, 22, 23, 24, 25, 26, 27, 28, 29, 30] (by decide +kernel) (by decide +kernel)
set_option maxRecDepth 20000 in
theorem gX1_nextToken_X1_behindRun : GoodIn wsX1_nextToken (wsV RX1 110 RX1 yX1_behindRun wsX1_behindRun) := goodIn_app (goodIn_of _ (by decide +kernel)) ggX1_nextToken_X1_behindRun
set_option maxRecDepth 20000 in
theorem ggX1_nextToken_X1_kindAt : GoodIn wsX1_nextToken wsX1_kindAt := goodIn_r _ [13, 9, 14, 15, 16, 17, 18, 19, 20, 21, 22, 23, 24, 25, 26, 27, 28, 29, 30] (by decide +kernel) (by decide +kernel)
set_option maxRecDepth 20000 in
theorem gX1_nextToken_X1_kindAt : GoodIn wsX1_nextToken (wsV RX1 114 RX1 yX1_kindAt wsX1_kindAt) := goodIn_app (goodIn_of _ (by decide +kernel)) ggX1_nextToken_X1_kindAt
theorem dX1_nextToken_0 : decode cX1_nextToken 0 = .ok (.aload_n 0, 1) := by decide +kernel
theorem dX1_nextToken_1 : decode cX1_nextToken 1 = .ok (.aload_n 0, 1) := by decide +kernel
theorem dX1_nextToken_2 : decode cX1_nextToken 2 = .ok (.aload_n 0, 1) := by decide +kernel
theorem dX1_nextToken_3 : decode cX1_nextToken 3 = .ok (.getfield 52, 3) := by decide +kernel
theorem dX1_nextToken_6 : decode cX1_nextToken 6 = .ok (.iconst 4, 1) := by decide +kernel
theorem dX1_nextToken_7 : decode cX1_nextToken 7 = .ok (.invokevirtual 110, 3) := by decide +kernel
theorem dX1_nextToken_10 : decode cX1_nextToken 10 = .ok (.putfield 83, 3) := by decide +kernel
theorem dX1_nextToken_13 : decode cX1_nextToken 13 = .ok (.aload_n 0, 1) := by decide +kernel
theorem dX1_nextToken_14 : decode cX1_nextToken 14 = .ok (.aload_n 0, 1) := by decide +kernel
theorem dX1_nextToken_15 : decode cX1_nextToken 15 = .ok (.aload_n 0, 1) := by decide +kernel
theorem dX1_nextToken_16 : decode cX1_nextToken 16 = .ok (.getfield 83, 3) := by decide +kernel
theorem dX1_nextToken_19 : decode cX1_nextToken 19 = .ok (.invokevirtual 114, 3) := by decide +kernel
theorem dX1_nextToken_22 : decode cX1_nextToken 22 = .ok (.putfield 38, 3) := by decide +kernel
theorem dX1_nextToken_25 : decode cX1_nextToken 25 = .ok (.aload_n 0, 1) := by decide +kernel
theorem dX1_nextToken_26 : decode cX1_nextToken 26 = .ok (.aload_n 0, 1) := by decide +kernel
theorem dX1_nextToken_27 : decode cX1_nextToken 27 = .ok (.getfield 83, 3) := by decide +kernel
theorem dX1_nextToken_30 : decode cX1_nextToken 30 = .ok (.iconst 1, 1) := by decide +kernel
theorem dX1_nextToken_31 : decode cX1_nextToken 31 = .ok (.iadd, 1) := by decide +kernel
theorem dX1_nextToken_32 : decode cX1_nextToken 32 = .ok (.putfield 52, 3) := by decide +kernel
theorem dX1_nextToken_35 : decode cX1_nextToken 35 = .ok (.aload_n 0, 1) := by decide +kernel
theorem dX1_nextToken_36 : decode cX1_nextToken 36 = .ok (.getfield 38, 3) := by decide +kernel
theorem dX1_nextToken_39 : decode cX1_nextToken 39 = .ok (.iconst 1, 1) := by decide +kernel
theorem dX1_nextToken_40 : decode cX1_nextToken 40 = .ok (.if_icmp .eq 11, 3) := by decide +kernel
theorem dX1_nextToken_43 : decode cX1_nextToken 43 = .ok (.aload_n 0, 1) := by decide +kernel
theorem dX1_nextToken_44 : decode cX1_nextToken 44 = .ok (.getfield 38, 3) := by decide +kernel
theorem dX1_nextToken_47 : decode cX1_nextToken 47 = .ok (.iconst 2, 1) := by decide +kernel
theorem dX1_nextToken_48 : decode cX1_nextToken 48 = .ok (.if_icmp .ne 19, 3) := by decide +kernel
theorem dX1_nextToken_51 : decode cX1_nextToken 51 = .ok (.aload_n 0, 1) := by decide +kernel
theorem dX1_nextToken_52 : decode cX1_nextToken 52 = .ok (.aload_n 0, 1) := by decide +kernel
theorem dX1_nextToken_53 : decode cX1_nextToken 53 = .ok (.aload_n 0, 1) := by decide +kernel
theorem dX1_nextToken_54 : decode cX1_nextToken 54 = .ok (.getfield 83, 3) := by decide +kernel
theorem dX1_nextToken_57 : decode cX1_nextToken 57 = .ok (.aload_n 0, 1) := by decide +kernel
theorem dX1_nextToken_58 : decode cX1_nextToken 58 = .ok (.getfield 38, 3) := by decide +kernel
theorem dX1_nextToken_61 : decode cX1_nextToken 61 = .ok (.invokevirtual 110, 3) := by decide +kernel
theorem dX1_nextToken_64 : decode cX1_nextToken 64 = .ok (.putfield 52, 3) := by decide +kernel
theorem dX1_nextToken_67 : decode cX1_nextToken 67 = .ok (.aload_n 0, 1) := by decide +kernel
theorem dX1_nextToken_68 : decode cX1_nextToken 68 = .ok (.getfield 38, 3) := by decide +kernel
theorem dX1_nextToken_71 : decode cX1_nextToken 71 = .ok (.iconst 2, 1) := by decide +kernel
theorem dX1_nextToken_72 : decode cX1_nextToken 72 = .ok (.if_icmp .ne 21, 3) := by decide +kernel
theorem dX1_nextToken_75 : decode cX1_nextToken 75 = .ok (.aload_n 0, 1) := by decide +kernel
theorem dX1_nextToken_76 : decode cX1_nextToken 76 = .ok (.getfield 52, 3) := by decide +kernel
theorem dX1_nextToken_79 : decode cX1_nextToken 79 = .ok (.aload_n 0, 1) := by decide +kernel
theorem dX1_nextToken_80 : decode cX1_nextToken 80 = .ok (.getfield 83, 3) := by decide +kernel
theorem dX1_nextToken_83 : decode cX1_nextToken 83 = .ok (.isub, 1) := by decide +kernel
theorem dX1_nextToken_84 : decode cX1_nextToken 84 = .ok (.iconst 5, 1) := by decide +kernel
theorem dX1_nextToken_85 : decode cX1_nextToken 85 = .ok (.if_icmp .le 8, 3) := by decide +kernel
theorem dX1_nextToken_88 : decode cX1_nextToken 88 = .ok (.aload_n 0, 1) := by decide +kernel
theorem dX1_nextToken_89 : decode cX1_nextToken 89 = .ok (.iconst 5, 1) := by decide +kernel
theorem dX1_nextToken_90 : decode cX1_nextToken 90 = .ok (.putfield 38, 3) := by decide +kernel
theorem dX1_nextToken_93 : decode cX1_nextToken 93 = .ok (.return_, 1) := by decide +kernel
set_option maxRecDepth 20000 in
theorem ggX1_behindRun_X1_kindAt : GoodIn wsX1_behindRun wsX1_kindAt := goodIn_r _ [6, 1, 7, 8, 9, 10, 11, 12, 13, 14, 15, 16, 17, 18, 19, 20, 21, 22, 23] (by decide +kernel) (by decide +kernel)
set_option maxRecDepth 20000 in
theorem gX1_behindRun_X1_kindAt : GoodIn wsX1_behindRun (wsV RX1 114 RX1 yX1_kindAt wsX1_kindAt) := goodIn_app (goodIn_of _ (by decide +kernel)) ggX1_behindRun_X1_kindAt
theorem dX1_behindRun_0 : decode cX1_behindRun 0 = .ok (.iload_n 1, 1) := by decide +kernel
theorem dX1_behindRun_1 : decode cX1_behindRun 1 = .ok (.istore_n 3, 1) := by decide +kernel
theorem dX1_behindRun_2 : decode cX1_behindRun 2 = .ok (.iload_n 3, 1) := by decide +kernel
theorem dX1_behindRun_3 : decode cX1_behindRun 3 = .ok (.aload_n 0, 1) := by decide +kernel
theorem dX1_behindRun_4 : decode cX1_behindRun 4 = .ok (.getfield 26, 3) := by decide +kernel
theorem dX1_behindRun_7 : decode cX1_behindRun 7 = .ok (.getfield 117, 3) := by decide +kernel
theorem dX1_behindRun_10 : decode cX1_behindRun 10 = .ok (.if_icmp .ge 18, 3) := by decide +kernel
theorem dX1_behindRun_13 : decode cX1_behindRun 13 = .ok (.aload_n 0, 1) := by decide +kernel
theorem dX1_behindRun_14 : decode cX1_behindRun 14 = .ok (.iload_n 3, 1) := by decide +kernel
theorem dX1_behindRun_15 : decode cX1_behindRun 15 = .ok (.invokevirtual 114, 3) := by decide +kernel
theorem dX1_behindRun_18 : decode cX1_behindRun 18 = .ok (.iload_n 2, 1) := by decide +kernel
theorem dX1_behindRun_19 : decode cX1_behindRun 19 = .ok (.if_icmp .ne 9, 3) := by decide +kernel
theorem dX1_behindRun_22 : decode cX1_behindRun 22 = .ok (.iinc 3 1, 3) := by decide +kernel
theorem dX1_behindRun_25 : decode cX1_behindRun 25 = .ok (.goto (-23), 3) := by decide +kernel
theorem dX1_behindRun_28 : decode cX1_behindRun 28 = .ok (.iload_n 3, 1) := by decide +kernel
theorem dX1_behindRun_29 : decode cX1_behindRun 29 = .ok (.ireturn, 1) := by decide +kernel
set_option maxRecDepth 20000 in
theorem ggX1_kindAt_X3_at : GoodIn wsX1_kindAt wsX3_at := goodIn_r _ [6, 7, 8, 17, 18] (by decide +kernel) (by decide +kernel)
set_option maxRecDepth 20000 in
theorem gX1_kindAt_X3_at : GoodIn wsX1_kindAt (wsV RX1 97 RX3 yX3_at wsX3_at) := goodIn_app (goodIn_of _ (by decide +kernel)) ggX1_kindAt_X3_at
theorem dX1_kindAt_0 : decode cX1_kindAt 0 = .ok (.aload_n 0, 1) := by decide +kernel
theorem dX1_kindAt_1 : decode cX1_kindAt 1 = .ok (.getfield 26, 3) := by decide +kernel
theorem dX1_kindAt_4 : decode cX1_kindAt 4 = .ok (.iload_n 1, 1) := by decide +kernel
theorem dX1_kindAt_5 : decode cX1_kindAt 5 = .ok (.invokevirtual 97, 3) := by decide +kernel
theorem dX1_kindAt_8 : decode cX1_kindAt 8 = .ok (.istore_n 2, 1) := by decide +kernel
theorem dX1_kindAt_9 : decode cX1_kindAt 9 = .ok (.iload_n 2, 1) := by decide +kernel
theorem dX1_kindAt_10 : decode cX1_kindAt 10 = .ok (.iconst (-1), 1) := by decide +kernel
theorem dX1_kindAt_11 : decode cX1_kindAt 11 = .ok (.if_icmp .ne 5, 3) := by decide +kernel
theorem dX1_kindAt_14 : decode cX1_kindAt 14 = .ok (.iconst 0, 1) := by decide +kernel
theorem dX1_kindAt_15 : decode cX1_kindAt 15 = .ok (.ireturn, 1) := by decide +kernel
theorem dX1_kindAt_16 : decode cX1_kindAt 16 = .ok (.iload_n 2, 1) := by decide +kernel
theorem dX1_kindAt_17 : decode cX1_kindAt 17 = .ok (.bipush 97, 2) := by decide +kernel
theorem dX1_kindAt_19 : decode cX1_kindAt 19 = .ok (.if_icmp .lt 11, 3) := by decide +kernel
theorem dX1_kindAt_22 : decode cX1_kindAt 22 = .ok (.iload_n 2, 1) := by decide +kernel
theorem dX1_kindAt_23 : decode cX1_kindAt 23 = .ok (.bipush 122, 2) := by decide +kernel
theorem dX1_kindAt_25 : decode cX1_kindAt 25 = .ok (.if_icmp .gt 5, 3) := by decide +kernel
theorem dX1_kindAt_28 : decode cX1_kindAt 28 = .ok (.iconst 1, 1) := by decide +kernel
theorem dX1_kindAt_29 : decode cX1_kindAt 29 = .ok (.ireturn, 1) := by decide +kernel
theorem dX1_kindAt_30 : decode cX1_kindAt 30 = .ok (.iload_n 2, 1) := by decide +kernel
theorem dX1_kindAt_31 : decode cX1_kindAt 31 = .ok (.bipush 48, 2) := by decide +kernel
theorem dX1_kindAt_33 : decode cX1_kindAt 33 = .ok (.if_icmp .lt 11, 3) := by decide +kernel
theorem dX1_kindAt_36 : decode cX1_kindAt 36 = .ok (.iload_n 2, 1) := by decide +kernel
theorem dX1_kindAt_37 : decode cX1_kindAt 37 = .ok (.bipush 57, 2) := by decide +kernel
theorem dX1_kindAt_39 : decode cX1_kindAt 39 = .ok (.if_icmp .gt 5, 3) := by decide +kernel
theorem dX1_kindAt_42 : decode cX1_kindAt 42 = .ok (.iconst 2, 1) := by decide +kernel
theorem dX1_kindAt_43 : decode cX1_kindAt 43 = .ok (.ireturn, 1) := by decide +kernel
theorem dX1_kindAt_44 : decode cX1_kindAt 44 = .ok (.iload_n 2, 1) := by decide +kernel
theorem dX1_kindAt_45 : decode cX1_kindAt 45 = .ok (.bipush 32, 2) := by decide +kernel
theorem dX1_kindAt_47 : decode cX1_kindAt 47 = .ok (.if_icmp .eq 9, 3) := by decide +kernel
theorem dX1_kindAt_50 : decode cX1_kindAt 50 = .ok (.iload_n 2, 1) := by decide +kernel
theorem dX1_kindAt_51 : decode cX1_kindAt 51 = .ok (.bipush 10, 2) := by decide +kernel
theorem dX1_kindAt_53 : decode cX1_kindAt 53 = .ok (.if_icmp .ne 5, 3) := by decide +kernel
theorem dX1_kindAt_56 : decode cX1_kindAt 56 = .ok (.iconst 4, 1) := by decide +kernel
theorem dX1_kindAt_57 : decode cX1_kindAt 57 = .ok (.ireturn, 1) := by decide +kernel
theorem dX1_kindAt_58 : decode cX1_kindAt 58 = .ok (.iload_n 2, 1) := by decide +kernel
theorem dX1_kindAt_59 : decode cX1_kindAt 59 = .ok (.bipush 59, 2) := by decide +kernel
theorem dX1_kindAt_61 : decode cX1_kindAt 61 = .ok (.if_icmp .ne 7, 3) := by decide +kernel
theorem dX1_kindAt_64 : decode cX1_kindAt 64 = .ok (.iconst 3, 1) := by decide +kernel
theorem dX1_kindAt_65 : decode cX1_kindAt 65 = .ok (.goto 4, 3) := by decide +kernel
theorem dX1_kindAt_68 : decode cX1_kindAt 68 = .ok (.iconst 5, 1) := by decide +kernel
theorem dX1_kindAt_69 : decode cX1_kindAt 69 = .ok (.ireturn, 1) := by decide +kernel
theorem dX2_init_0 : decode cX2_init 0 = .ok (.aload_n 0, 1) := by decide +kernel
theorem dX2_init_1 : decode cX2_init 1 = .ok (.invokespecial 3, 3) := by decide +kernel
theorem dX2_init_4 : decode cX2_init 4 = .ok (.aload_n 0, 1) := by decide +kernel
theorem dX2_init_5 : decode cX2_init 5 = .ok (.getstatic 9, 3) := by decide +kernel
theorem dX2_init_8 : decode cX2_init 8 = .ok (.invokevirtual 15, 3) := by decide +kernel
theorem dX2_init_11 : decode cX2_init 11 = .ok (.checkcast 16, 3) := by decide +kernel
theorem dX2_init_14 : decode cX2_init 14 = .ok (.putfield 20, 3) := by decide +kernel
theorem dX2_init_17 : decode cX2_init 17 = .ok (.return_, 1) := by decide +kernel
theorem dX2_of_0 : decode cX2_of 0 = .ok (.iload_n 1, 1) := by decide +kernel
theorem dX2_of_1 : decode cX2_of 1 = .ok (.ifCond .lt 18, 3) := by decide +kernel
theorem dX2_of_4 : decode cX2_of 4 = .ok (.iload_n 1, 1) := by decide +kernel
theorem dX2_of_5 : decode cX2_of 5 = .ok (.bipush 12, 2) := by decide +kernel
theorem dX2_of_7 : decode cX2_of 7 = .ok (.if_icmp .ge 12, 3) := by decide +kernel
theorem dX2_of_10 : decode cX2_of 10 = .ok (.aload_n 0, 1) := by decide +kernel
theorem dX2_of_11 : decode cX2_of 11 = .ok (.getfield 20, 3) := by decide +kernel
theorem dX2_of_14 : decode cX2_of 14 = .ok (.iload_n 1, 1) := by decide +kernel
theorem dX2_of_15 : decode cX2_of 15 = .ok (.iaload, 1) := by decide +kernel
theorem dX2_of_16 : decode cX2_of 16 = .ok (.goto 4, 3) := by decide +kernel
theorem dX2_of_19 : decode cX2_of 19 = .ok (.iconst (-1), 1) := by decide +kernel
theorem dX2_of_20 : decode cX2_of 20 = .ok (.ireturn, 1) := by decide +kernel
theorem dX2_forget_0 : decode cX2_forget 0 = .ok (.getstatic 9, 3) := by decide +kernel
theorem dX2_forget_3 : decode cX2_forget 3 = .ok (.iconst 0, 1) := by decide +kernel
theorem dX2_forget_4 : decode cX2_forget 4 = .ok (.aload_n 0, 1) := by decide +kernel
theorem dX2_forget_5 : decode cX2_forget 5 = .ok (.getfield 20, 3) := by decide +kernel
theorem dX2_forget_8 : decode cX2_forget 8 = .ok (.iconst 0, 1) := by decide +kernel
theorem dX2_forget_9 : decode cX2_forget 9 = .ok (.bipush 12, 2) := by decide +kernel
theorem dX2_forget_11 : decode cX2_forget 11 = .ok (.invokestatic 23, 3) := by decide +kernel
theorem dX2_forget_14 : decode cX2_forget 14 = .ok (.return_, 1) := by decide +kernel
theorem dX2_copy_0 : decode cX2_copy 0 = .ok (.aload_n 1, 1) := by decide +kernel
theorem dX2_copy_1 : decode cX2_copy 1 = .ok (.getfield 20, 3) := by decide +kernel
theorem dX2_copy_4 : decode cX2_copy 4 = .ok (.iconst 0, 1) := by decide +kernel
theorem dX2_copy_5 : decode cX2_copy 5 = .ok (.aload_n 0, 1) := by decide +kernel
theorem dX2_copy_6 : decode cX2_copy 6 = .ok (.getfield 20, 3) := by decide +kernel
theorem dX2_copy_9 : decode cX2_copy 9 = .ok (.iconst 0, 1) := by decide +kernel
theorem dX2_copy_10 : decode cX2_copy 10 = .ok (.bipush 12, 2) := by decide +kernel
theorem dX2_copy_12 : decode cX2_copy 12 = .ok (.invokestatic 23, 3) := by decide +kernel
theorem dX2_copy_15 : decode cX2_copy 15 = .ok (.return_, 1) := by decide +kernel
theorem dX2_tell_0 : decode cX2_tell 0 = .ok (.iload_n 1, 1) := by decide +kernel
theorem dX2_tell_1 : decode cX2_tell 1 = .ok (.ifCond .lt 9, 3) := by decide +kernel
theorem dX2_tell_4 : decode cX2_tell 4 = .ok (.iload_n 1, 1) := by decide +kernel
theorem dX2_tell_5 : decode cX2_tell 5 = .ok (.bipush 12, 2) := by decide +kernel
theorem dX2_tell_7 : decode cX2_tell 7 = .ok (.if_icmp .lt 4, 3) := by decide +kernel
theorem dX2_tell_10 : decode cX2_tell 10 = .ok (.return_, 1) := by decide +kernel
theorem dX2_tell_11 : decode cX2_tell 11 = .ok (.aload_n 0, 1) := by decide +kernel
theorem dX2_tell_12 : decode cX2_tell 12 = .ok (.getfield 20, 3) := by decide +kernel
theorem dX2_tell_15 : decode cX2_tell 15 = .ok (.iload_n 1, 1) := by decide +kernel
theorem dX2_tell_16 : decode cX2_tell 16 = .ok (.iload_n 2, 1) := by decide +kernel
theorem dX2_tell_17 : decode cX2_tell 17 = .ok (.iastore, 1) := by decide +kernel
theorem dX2_tell_18 : decode cX2_tell 18 = .ok (.iload_n 1, 1) := by decide +kernel
theorem dX2_tell_19 : decode cX2_tell 19 = .ok (.iconst 4, 1) := by decide +kernel
theorem dX2_tell_20 : decode cX2_tell 20 = .ok (.if_icmp .ne 10, 3) := by decide +kernel
theorem dX2_tell_23 : decode cX2_tell 23 = .ok (.aload_n 0, 1) := by decide +kernel
theorem dX2_tell_24 : decode cX2_tell 24 = .ok (.getfield 20, 3) := by decide +kernel
theorem dX2_tell_27 : decode cX2_tell 27 = .ok (.iconst 3, 1) := by decide +kernel
theorem dX2_tell_28 : decode cX2_tell 28 = .ok (.iconst (-1), 1) := by decide +kernel
theorem dX2_tell_29 : decode cX2_tell 29 = .ok (.iastore, 1) := by decide +kernel
theorem dX2_tell_30 : decode cX2_tell 30 = .ok (.return_, 1) := by decide +kernel
theorem dX2_isInBounds_0 : decode cX2_isInBounds 0 = .ok (.iload_n 0, 1) := by decide +kernel
theorem dX2_isInBounds_1 : decode cX2_isInBounds 1 = .ok (.ifCond .lt 31, 3) := by decide +kernel
theorem dX2_isInBounds_4 : decode cX2_isInBounds 4 = .ok (.iload_n 0, 1) := by decide +kernel
theorem dX2_isInBounds_5 : decode cX2_isInBounds 5 = .ok (.bipush 12, 2) := by decide +kernel
theorem dX2_isInBounds_7 : decode cX2_isInBounds 7 = .ok (.if_icmp .ge 25, 3) := by decide +kernel
theorem dX2_isInBounds_10 : decode cX2_isInBounds 10 = .ok (.iload_n 1, 1) := by decide +kernel
theorem dX2_isInBounds_11 : decode cX2_isInBounds 11 = .ok (.getstatic 29, 3) := by decide +kernel
theorem dX2_isInBounds_14 : decode cX2_isInBounds 14 = .ok (.iload_n 0, 1) := by decide +kernel
theorem dX2_isInBounds_15 : decode cX2_isInBounds 15 = .ok (.iaload, 1) := by decide +kernel
theorem dX2_isInBounds_16 : decode cX2_isInBounds 16 = .ok (.if_icmp .lt 16, 3) := by decide +kernel
theorem dX2_isInBounds_19 : decode cX2_isInBounds 19 = .ok (.iload_n 1, 1) := by decide +kernel
theorem dX2_isInBounds_20 : decode cX2_isInBounds 20 = .ok (.getstatic 32, 3) := by decide +kernel
theorem dX2_isInBounds_23 : decode cX2_isInBounds 23 = .ok (.iload_n 0, 1) := by decide +kernel
theorem dX2_isInBounds_24 : decode cX2_isInBounds 24 = .ok (.iaload, 1) := by decide +kernel
theorem dX2_isInBounds_25 : decode cX2_isInBounds 25 = .ok (.if_icmp .gt 7, 3) := by decide +kernel
theorem dX2_isInBounds_28 : decode cX2_isInBounds 28 = .ok (.iconst 1, 1) := by decide +kernel
theorem dX2_isInBounds_29 : decode cX2_isInBounds 29 = .ok (.goto 4, 3) := by decide +kernel
theorem dX2_isInBounds_32 : decode cX2_isInBounds 32 = .ok (.iconst 0, 1) := by decide +kernel
theorem dX2_isInBounds_33 : decode cX2_isInBounds 33 = .ok (.ireturn, 1) := by decide +kernel
theorem dX2_topicWord_0 : decode cX2_topicWord 0 = .ok (.iload_n 0, 1) := by decide +kernel
theorem dX2_topicWord_1 : decode cX2_topicWord 1 = .ok (.tableswitch 92 0 10 #[59, 62, 65, 68, 71, 74, 77, 80, 83, 86, 89], 59) := by decide +kernel
theorem dX2_topicWord_60 : decode cX2_topicWord 60 = .ok (.ldc 35, 2) := by decide +kernel
theorem dX2_topicWord_62 : decode cX2_topicWord 62 = .ok (.areturn, 1) := by decide +kernel
theorem dX2_topicWord_63 : decode cX2_topicWord 63 = .ok (.ldc 37, 2) := by decide +kernel
theorem dX2_topicWord_65 : decode cX2_topicWord 65 = .ok (.areturn, 1) := by decide +kernel
theorem dX2_topicWord_66 : decode cX2_topicWord 66 = .ok (.ldc 39, 2) := by decide +kernel
theorem dX2_topicWord_68 : decode cX2_topicWord 68 = .ok (.areturn, 1) := by decide +kernel
theorem dX2_topicWord_69 : decode cX2_topicWord 69 = .ok (.ldc 41, 2) := by decide +kernel
theorem dX2_topicWord_71 : decode cX2_topicWord 71 = .ok (.areturn, 1) := by decide +kernel
theorem dX2_topicWord_72 : decode cX2_topicWord 72 = .ok (.ldc 43, 2) := by decide +kernel
theorem dX2_topicWord_74 : decode cX2_topicWord 74 = .ok (.areturn, 1) := by decide +kernel
theorem dX2_topicWord_75 : decode cX2_topicWord 75 = .ok (.ldc 45, 2) := by decide +kernel
theorem dX2_topicWord_77 : decode cX2_topicWord 77 = .ok (.areturn, 1) := by decide +kernel
theorem dX2_topicWord_78 : decode cX2_topicWord 78 = .ok (.ldc 47, 2) := by decide +kernel
theorem dX2_topicWord_80 : decode cX2_topicWord 80 = .ok (.areturn, 1) := by decide +kernel
theorem dX2_topicWord_81 : decode cX2_topicWord 81 = .ok (.ldc 49, 2) := by decide +kernel
theorem dX2_topicWord_83 : decode cX2_topicWord 83 = .ok (.areturn, 1) := by decide +kernel
theorem dX2_topicWord_84 : decode cX2_topicWord 84 = .ok (.ldc 51, 2) := by decide +kernel
theorem dX2_topicWord_86 : decode cX2_topicWord 86 = .ok (.areturn, 1) := by decide +kernel
theorem dX2_topicWord_87 : decode cX2_topicWord 87 = .ok (.ldc 53, 2) := by decide +kernel
theorem dX2_topicWord_89 : decode cX2_topicWord 89 = .ok (.areturn, 1) := by decide +kernel
theorem dX2_topicWord_90 : decode cX2_topicWord 90 = .ok (.ldc 55, 2) := by decide +kernel
theorem dX2_topicWord_92 : decode cX2_topicWord 92 = .ok (.areturn, 1) := by decide +kernel
theorem dX2_topicWord_93 : decode cX2_topicWord 93 = .ok (.ldc 57, 2) := by decide +kernel
theorem dX2_topicWord_95 : decode cX2_topicWord 95 = .ok (.areturn, 1) := by decide +kernel
theorem dX2_orderWord_0 : decode cX2_orderWord 0 = .ok (.iload_n 0, 1) := by decide +kernel
end
section
theorem dX2_orderWord_1 : decode cX2_orderWord 1 = .ok (.lookupswitch 33 #[(1, 27), (2, 30)], 27) := by decide +kernel
theorem dX2_orderWord_28 : decode cX2_orderWord 28 = .ok (.ldc 59, 2) := by decide +kernel
theorem dX2_orderWord_30 : decode cX2_orderWord 30 = .ok (.areturn, 1) := by decide +kernel
theorem dX2_orderWord_31 : decode cX2_orderWord 31 = .ok (.ldc 61, 2) := by decide +kernel
theorem dX2_orderWord_33 : decode cX2_orderWord 33 = .ok (.areturn, 1) := by decide +kernel
theorem dX2_orderWord_34 : decode cX2_orderWord 34 = .ok (.ldc 63, 2) := by decide +kernel
theorem dX2_orderWord_36 : decode cX2_orderWord 36 = .ok (.areturn, 1) := by decide +kernel
theorem dX3_init_0 : decode cX3_init 0 = .ok (.aload_n 0, 1) := by decide +kernel
theorem dX3_init_1 : decode cX3_init 1 = .ok (.invokespecial 3, 3) := by decide +kernel
theorem dX3_init_4 : decode cX3_init 4 = .ok (.aload_n 0, 1) := by decide +kernel
theorem dX3_init_5 : decode cX3_init 5 = .ok (.sipush 500, 3) := by decide +kernel
theorem dX3_init_8 : decode cX3_init 8 = .ok (.newarray .byte, 2) := by decide +kernel
theorem dX3_init_10 : decode cX3_init 10 = .ok (.putfield 11, 3) := by decide +kernel
theorem dX3_init_13 : decode cX3_init 13 = .ok (.return_, 1) := by decide +kernel
theorem dX3_hasRoomFor_0 : decode cX3_hasRoomFor 0 = .ok (.aload_n 0, 1) := by decide +kernel
theorem dX3_hasRoomFor_1 : decode cX3_hasRoomFor 1 = .ok (.getfield 15, 3) := by decide +kernel
theorem dX3_hasRoomFor_4 : decode cX3_hasRoomFor 4 = .ok (.iload_n 1, 1) := by decide +kernel
theorem dX3_hasRoomFor_5 : decode cX3_hasRoomFor 5 = .ok (.iadd, 1) := by decide +kernel
theorem dX3_hasRoomFor_6 : decode cX3_hasRoomFor 6 = .ok (.sipush 500, 3) := by decide +kernel
theorem dX3_hasRoomFor_9 : decode cX3_hasRoomFor 9 = .ok (.if_icmp .gt 7, 3) := by decide +kernel
theorem dX3_hasRoomFor_12 : decode cX3_hasRoomFor 12 = .ok (.iconst 1, 1) := by decide +kernel
theorem dX3_hasRoomFor_13 : decode cX3_hasRoomFor 13 = .ok (.goto 4, 3) := by decide +kernel
theorem dX3_hasRoomFor_16 : decode cX3_hasRoomFor 16 = .ok (.iconst 0, 1) := by decide +kernel
theorem dX3_hasRoomFor_17 : decode cX3_hasRoomFor 17 = .ok (.ireturn, 1) := by decide +kernel
set_option maxRecDepth 20000 in
theorem ggX3_append_X3_hasRoomFor : GoodIn wsX3_append wsX3_hasRoomFor := goodIn_r _ [7, 2, 8, 9] (by decide +kernel) (by decide +kernel)
set_option maxRecDepth 20000 in
theorem gX3_append_X3_hasRoomFor : GoodIn wsX3_append (wsV RX3 19 RX3 yX3_hasRoomFor wsX3_hasRoomFor) := goodIn_app (goodIn_of _ (by decide +kernel)) ggX3_append_X3_hasRoomFor
theorem dX3_append_0 : decode cX3_append 0 = .ok (.aload_n 0, 1) := by decide +kernel
theorem dX3_append_1 : decode cX3_append 1 = .ok (.iconst 4, 1) := by decide +kernel
theorem dX3_append_2 : decode cX3_append 2 = .ok (.invokevirtual 19, 3) := by decide +kernel
theorem dX3_append_5 : decode cX3_append 5 = .ok (.ifCond .ne 4, 3) := by decide +kernel
theorem dX3_append_8 : decode cX3_append 8 = .ok (.return_, 1) := by decide +kernel
theorem dX3_append_9 : decode cX3_append 9 = .ok (.bipush 24, 2) := by decide +kernel
theorem dX3_append_11 : decode cX3_append 11 = .ok (.istore_n 2, 1) := by decide +kernel
theorem dX3_append_12 : decode cX3_append 12 = .ok (.iload_n 2, 1) := by decide +kernel
theorem dX3_append_13 : decode cX3_append 13 = .ok (.ifCond .lt 32, 3) := by decide +kernel
theorem dX3_append_16 : decode cX3_append 16 = .ok (.aload_n 0, 1) := by decide +kernel
theorem dX3_append_17 : decode cX3_append 17 = .ok (.getfield 11, 3) := by decide +kernel
theorem dX3_append_20 : decode cX3_append 20 = .ok (.aload_n 0, 1) := by decide +kernel
theorem dX3_append_21 : decode cX3_append 21 = .ok (.getfield 15, 3) := by decide +kernel
theorem dX3_append_24 : decode cX3_append 24 = .ok (.iload_n 1, 1) := by decide +kernel
theorem dX3_append_25 : decode cX3_append 25 = .ok (.iload_n 2, 1) := by decide +kernel
theorem dX3_append_26 : decode cX3_append 26 = .ok (.ishr, 1) := by decide +kernel
theorem dX3_append_27 : decode cX3_append 27 = .ok (.i2b, 1) := by decide +kernel
theorem dX3_append_28 : decode cX3_append 28 = .ok (.bastore, 1) := by decide +kernel
theorem dX3_append_29 : decode cX3_append 29 = .ok (.aload_n 0, 1) := by decide +kernel
theorem dX3_append_30 : decode cX3_append 30 = .ok (.dup, 1) := by decide +kernel
theorem dX3_append_31 : decode cX3_append 31 = .ok (.getfield 15, 3) := by decide +kernel
theorem dX3_append_34 : decode cX3_append 34 = .ok (.iconst 1, 1) := by decide +kernel
theorem dX3_append_35 : decode cX3_append 35 = .ok (.iadd, 1) := by decide +kernel
theorem dX3_append_36 : decode cX3_append 36 = .ok (.putfield 15, 3) := by decide +kernel
theorem dX3_append_39 : decode cX3_append 39 = .ok (.iinc 2 (-8), 3) := by decide +kernel
theorem dX3_append_42 : decode cX3_append 42 = .ok (.goto (-30), 3) := by decide +kernel
theorem dX3_append_45 : decode cX3_append 45 = .ok (.return_, 1) := by decide +kernel
theorem dX3_at_0 : decode cX3_at 0 = .ok (.iload_n 1, 1) := by decide +kernel
theorem dX3_at_1 : decode cX3_at 1 = .ok (.ifCond .lt 24, 3) := by decide +kernel
theorem dX3_at_4 : decode cX3_at 4 = .ok (.iload_n 1, 1) := by decide +kernel
theorem dX3_at_5 : decode cX3_at 5 = .ok (.aload_n 0, 1) := by decide +kernel
theorem dX3_at_6 : decode cX3_at 6 = .ok (.getfield 15, 3) := by decide +kernel
theorem dX3_at_9 : decode cX3_at 9 = .ok (.if_icmp .ge 16, 3) := by decide +kernel
theorem dX3_at_12 : decode cX3_at 12 = .ok (.aload_n 0, 1) := by decide +kernel
theorem dX3_at_13 : decode cX3_at 13 = .ok (.getfield 11, 3) := by decide +kernel
theorem dX3_at_16 : decode cX3_at 16 = .ok (.iload_n 1, 1) := by decide +kernel
theorem dX3_at_17 : decode cX3_at 17 = .ok (.baload, 1) := by decide +kernel
theorem dX3_at_18 : decode cX3_at 18 = .ok (.sipush 255, 3) := by decide +kernel
theorem dX3_at_21 : decode cX3_at 21 = .ok (.iand, 1) := by decide +kernel
theorem dX3_at_22 : decode cX3_at 22 = .ok (.goto 4, 3) := by decide +kernel
theorem dX3_at_25 : decode cX3_at 25 = .ok (.iconst (-1), 1) := by decide +kernel
theorem dX3_at_26 : decode cX3_at 26 = .ok (.ireturn, 1) := by decide +kernel
theorem dX4_init_0 : decode cX4_init 0 = .ok (.aload_n 0, 1) := by decide +kernel
theorem dX4_init_1 : decode cX4_init 1 = .ok (.invokespecial 3, 3) := by decide +kernel
theorem dX4_init_4 : decode cX4_init 4 = .ok (.aload_n 0, 1) := by decide +kernel
theorem dX4_init_5 : decode cX4_init 5 = .ok (.bipush 13, 2) := by decide +kernel
theorem dX4_init_7 : decode cX4_init 7 = .ok (.bipush 24, 2) := by decide +kernel
theorem dX4_init_9 : decode cX4_init 9 = .ok (.multianewarray 13 2, 4) := by decide +kernel
theorem dX4_init_13 : decode cX4_init 13 = .ok (.putfield 15, 3) := by decide +kernel
theorem dX4_init_16 : decode cX4_init 16 = .ok (.aload_n 0, 1) := by decide +kernel
theorem dX4_init_17 : decode cX4_init 17 = .ok (.bipush 10, 2) := by decide +kernel
theorem dX4_init_19 : decode cX4_init 19 = .ok (.bipush 52, 2) := by decide +kernel
theorem dX4_init_21 : decode cX4_init 21 = .ok (.multianewarray 13 2, 4) := by decide +kernel
theorem dX4_init_25 : decode cX4_init 25 = .ok (.putfield 18, 3) := by decide +kernel
theorem dX4_init_28 : decode cX4_init 28 = .ok (.aload_n 0, 1) := by decide +kernel
theorem dX4_init_29 : decode cX4_init 29 = .ok (.bipush 12, 2) := by decide +kernel
theorem dX4_init_31 : decode cX4_init 31 = .ok (.newarray .int, 2) := by decide +kernel
theorem dX4_init_33 : decode cX4_init 33 = .ok (.putfield 21, 3) := by decide +kernel
theorem dX4_init_36 : decode cX4_init 36 = .ok (.aload_n 0, 1) := by decide +kernel
theorem dX4_init_37 : decode cX4_init 37 = .ok (.iconst 3, 1) := by decide +kernel
theorem dX4_init_38 : decode cX4_init 38 = .ok (.newarray .int, 2) := by decide +kernel
theorem dX4_init_40 : decode cX4_init 40 = .ok (.putfield 25, 3) := by decide +kernel
theorem dX4_init_43 : decode cX4_init 43 = .ok (.aload_n 0, 1) := by decide +kernel
theorem dX4_init_44 : decode cX4_init 44 = .ok (.bipush 24, 2) := by decide +kernel
theorem dX4_init_46 : decode cX4_init 46 = .ok (.newarray .int, 2) := by decide +kernel
theorem dX4_init_48 : decode cX4_init 48 = .ok (.putfield 28, 3) := by decide +kernel
theorem dX4_init_51 : decode cX4_init 51 = .ok (.aload_n 0, 1) := by decide +kernel
theorem dX4_init_52 : decode cX4_init 52 = .ok (.bipush 24, 2) := by decide +kernel
theorem dX4_init_54 : decode cX4_init 54 = .ok (.newarray .int, 2) := by decide +kernel
theorem dX4_init_56 : decode cX4_init 56 = .ok (.putfield 31, 3) := by decide +kernel
theorem dX4_init_59 : decode cX4_init 59 = .ok (.aload_n 0, 1) := by decide +kernel
theorem dX4_init_60 : decode cX4_init 60 = .ok (.bipush 24, 2) := by decide +kernel
theorem dX4_init_62 : decode cX4_init 62 = .ok (.newarray .int, 2) := by decide +kernel
theorem dX4_init_64 : decode cX4_init 64 = .ok (.putfield 34, 3) := by decide +kernel
theorem dX4_init_67 : decode cX4_init 67 = .ok (.aload_n 0, 1) := by decide +kernel
theorem dX4_init_68 : decode cX4_init 68 = .ok (.bipush 24, 2) := by decide +kernel
theorem dX4_init_70 : decode cX4_init 70 = .ok (.newarray .int, 2) := by decide +kernel
theorem dX4_init_72 : decode cX4_init 72 = .ok (.putfield 37, 3) := by decide +kernel
theorem dX4_init_75 : decode cX4_init 75 = .ok (.aload_n 0, 1) := by decide +kernel
theorem dX4_init_76 : decode cX4_init 76 = .ok (.bipush 24, 2) := by decide +kernel
theorem dX4_init_78 : decode cX4_init 78 = .ok (.newarray .int, 2) := by decide +kernel
theorem dX4_init_80 : decode cX4_init 80 = .ok (.putfield 40, 3) := by decide +kernel
theorem dX4_init_83 : decode cX4_init 83 = .ok (.aload_n 0, 1) := by decide +kernel
theorem dX4_init_84 : decode cX4_init 84 = .ok (.bipush 24, 2) := by decide +kernel
theorem dX4_init_86 : decode cX4_init 86 = .ok (.newarray .int, 2) := by decide +kernel
theorem dX4_init_88 : decode cX4_init 88 = .ok (.putfield 43, 3) := by decide +kernel
theorem dX4_init_91 : decode cX4_init 91 = .ok (.aload_n 0, 1) := by decide +kernel
theorem dX4_init_92 : decode cX4_init 92 = .ok (.aload_n 1, 1) := by decide +kernel
theorem dX4_init_93 : decode cX4_init 93 = .ok (.putfield 46, 3) := by decide +kernel
theorem dX4_init_96 : decode cX4_init 96 = .ok (.aload_n 0, 1) := by decide +kernel
theorem dX4_init_97 : decode cX4_init 97 = .ok (.aload_n 2, 1) := by decide +kernel
theorem dX4_init_98 : decode cX4_init 98 = .ok (.putfield 50, 3) := by decide +kernel
theorem dX4_init_101 : decode cX4_init 101 = .ok (.return_, 1) := by decide +kernel
set_option maxRecDepth 20000 in
theorem ggX4_playAll_X4_begin : GoodIn wsX4_playAll wsX4_begin := goodIn_r _ [6, 7, 8, 9, 10, 11, 12, 13, 14, 15, 186, 187, 188, 189, 190, 191, 192, 193, 194, 195, 196, 197, 198, 199, 200] (by decide +kernel) (by decide +kernel)
set_option maxRecDepth 20000 in
theorem gX4_playAll_X4_begin : GoodIn wsX4_playAll (wsV RX4 54 RX4 yX4_begin wsX4_begin) := goodIn_app (goodIn_of _ (by decide +kernel)) ggX4_playAll_X4_begin
set_option maxRecDepth 20000 in
theorem ggX4_playAll_X4_playMeeting : GoodIn wsX4_playAll wsX4_playMeeting := goodIn_r _ [19, 1, 20, 21, 22, 23, 24, 25, 26, 27, 28, 29, 30, 31, 32, 33, 34, 35, 36, 37, 5, 38, 7, 39, 40, 41, 42, 43, 44, 45, 46, 47, 48, 49, 50, 51, 52, 53, 8, 54, 55, 56, 57, 58, 59, 60, 61, 62, 63, 64, 65, 66, 67, 68, 69, 70, 71, 72, 73, 74, 75, 76, 77, 9, 78, 79, 80, 81, 82, 83, 84, 85, 86, 87, 88, 89, 90, 91, 92, 93, 94, 95, 96, 97, 98, 99, 12, 13, 14, 15, 100, 101, 102, 103, 104, 105, 106, 107, 108, 109, 110, 111, 112, 113, 114, 115, 116, 117, 118, 119, 10, 120, 121, 122, 123, 124, 125, 126, 127, 128, 129, 130, 11, 131, 132, 133, 134, 135, 136, 137, 138, 139, 140, 141, 142, 143, 144, 145, 146, 147, 148, 149, 150, 151, 152, 153, 154, 155, 156, 157, 158, 159, 160, 161, 162, 163, 164, 165, 166, 167, 168, 169, 186, 187, 188, 189, 190, 191, 192, 193, 194, 195, 196, 197, 198, 199, 200, 201, 202, 203, 204, 205, 206, 207, 208] (by decide +kernel) (by decide +kernel)
set_option maxRecDepth 20000 in
theorem gX4_playAll_X4_playMeeting : GoodIn wsX4_playAll (wsV RX4 62 RX4 yX4_playMeeting wsX4_playMeeting) := goodIn_app (goodIn_of _ (by decide +kernel)) ggX4_playAll_X4_playMeeting
set_option maxRecDepth 20000 in
theorem ggX4_playAll_X4_part : GoodIn wsX4_playAll wsX4_part := goodIn_r _ [173, 9, 1, 8, 120, 121, 122, 5, 123, 174, 175, 176, 177, 124, 125, 126, 178, 179, 180, 181, 182, 183, 184, 185, 186, 187, 188, 189, 190, 191, 192, 193, 194, 195, 196, 197, 198, 199, 200, 201, 202, 203, 204, 205, 206, 207] (by decide +kernel) (by decide +kernel)
set_option maxRecDepth 20000 in
theorem gX4_playAll_X4_part : GoodIn wsX4_playAll (wsV RX4 66 RX4 yX4_part wsX4_part) := goodIn_app (goodIn_of _ (by decide +kernel)) ggX4_playAll_X4_part
theorem dX4_playAll_0 : decode cX4_playAll 0 = .ok (.aload_n 0, 1) := by decide +kernel
theorem dX4_playAll_1 : decode cX4_playAll 1 = .ok (.aload_n 1, 1) := by decide +kernel
theorem dX4_playAll_2 : decode cX4_playAll 2 = .ok (.invokevirtual 54, 3) := by decide +kernel
theorem dX4_playAll_5 : decode cX4_playAll 5 = .ok (.iconst 0, 1) := by decide +kernel
theorem dX4_playAll_6 : decode cX4_playAll 6 = .ok (.istore_n 2, 1) := by decide +kernel
theorem dX4_playAll_7 : decode cX4_playAll 7 = .ok (.iload_n 2, 1) := by decide +kernel
theorem dX4_playAll_8 : decode cX4_playAll 8 = .ok (.aload_n 0, 1) := by decide +kernel
theorem dX4_playAll_9 : decode cX4_playAll 9 = .ok (.getfield 46, 3) := by decide +kernel
theorem dX4_playAll_12 : decode cX4_playAll 12 = .ok (.getfield 58, 3) := by decide +kernel
theorem dX4_playAll_15 : decode cX4_playAll 15 = .ok (.if_icmp .ge 14, 3) := by decide +kernel
theorem dX4_playAll_18 : decode cX4_playAll 18 = .ok (.aload_n 0, 1) := by decide +kernel
theorem dX4_playAll_19 : decode cX4_playAll 19 = .ok (.iload_n 2, 1) := by decide +kernel
theorem dX4_playAll_20 : decode cX4_playAll 20 = .ok (.invokevirtual 62, 3) := by decide +kernel
theorem dX4_playAll_23 : decode cX4_playAll 23 = .ok (.iinc 2 1, 3) := by decide +kernel
theorem dX4_playAll_26 : decode cX4_playAll 26 = .ok (.goto (-19), 3) := by decide +kernel
theorem dX4_playAll_29 : decode cX4_playAll 29 = .ok (.aload_n 0, 1) := by decide +kernel
theorem dX4_playAll_30 : decode cX4_playAll 30 = .ok (.invokevirtual 66, 3) := by decide +kernel
theorem dX4_playAll_33 : decode cX4_playAll 33 = .ok (.return_, 1) := by decide +kernel
set_option maxRecDepth 20000 in
theorem ggX4_begin_J7_fill_53178 : GoodIn wsX4_begin wsJ7_fill_53178 := goodIn_r _ [9] (by decide +kernel) (by decide +kernel)
set_option maxRecDepth 20000 in
theorem gX4_begin_J7_fill_53178 : GoodIn wsX4_begin (va_wsS RX4 69 yJ7_fill_53178 wsJ7_fill_53178) := goodIn_app (goodIn_of _ (by decide +kernel)) ggX4_begin_J7_fill_53178
theorem dX4_begin_0 : decode cX4_begin 0 = .ok (.aload_n 0, 1) := by decide +kernel
theorem dX4_begin_1 : decode cX4_begin 1 = .ok (.aload_n 1, 1) := by decide +kernel
theorem dX4_begin_2 : decode cX4_begin 2 = .ok (.putfield 50, 3) := by decide +kernel
theorem dX4_begin_5 : decode cX4_begin 5 = .ok (.iconst 0, 1) := by decide +kernel
theorem dX4_begin_6 : decode cX4_begin 6 = .ok (.istore_n 2, 1) := by decide +kernel
theorem dX4_begin_7 : decode cX4_begin 7 = .ok (.iload_n 2, 1) := by decide +kernel
theorem dX4_begin_8 : decode cX4_begin 8 = .ok (.bipush 13, 2) := by decide +kernel
theorem dX4_begin_10 : decode cX4_begin 10 = .ok (.if_icmp .ge 19, 3) := by decide +kernel
theorem dX4_begin_13 : decode cX4_begin 13 = .ok (.aload_n 0, 1) := by decide +kernel
theorem dX4_begin_14 : decode cX4_begin 14 = .ok (.getfield 15, 3) := by decide +kernel
theorem dX4_begin_17 : decode cX4_begin 17 = .ok (.iload_n 2, 1) := by decide +kernel
theorem dX4_begin_18 : decode cX4_begin 18 = .ok (.aaload, 1) := by decide +kernel
theorem dX4_begin_19 : decode cX4_begin 19 = .ok (.iconst 0, 1) := by decide +kernel
theorem dX4_begin_20 : decode cX4_begin 20 = .ok (.invokestatic 69, 3) := by decide +kernel
theorem dX4_begin_23 : decode cX4_begin 23 = .ok (.iinc 2 1, 3) := by decide +kernel
theorem dX4_begin_26 : decode cX4_begin 26 = .ok (.goto (-19), 3) := by decide +kernel
theorem dX4_begin_29 : decode cX4_begin 29 = .ok (.aload_n 0, 1) := by decide +kernel
theorem dX4_begin_30 : decode cX4_begin 30 = .ok (.getfield 21, 3) := by decide +kernel
theorem dX4_begin_33 : decode cX4_begin 33 = .ok (.iconst 0, 1) := by decide +kernel
theorem dX4_begin_34 : decode cX4_begin 34 = .ok (.invokestatic 69, 3) := by decide +kernel
theorem dX4_begin_37 : decode cX4_begin 37 = .ok (.aload_n 0, 1) := by decide +kernel
theorem dX4_begin_38 : decode cX4_begin 38 = .ok (.getfield 37, 3) := by decide +kernel
theorem dX4_begin_41 : decode cX4_begin 41 = .ok (.iconst 0, 1) := by decide +kernel
theorem dX4_begin_42 : decode cX4_begin 42 = .ok (.invokestatic 69, 3) := by decide +kernel
theorem dX4_begin_45 : decode cX4_begin 45 = .ok (.aload_n 0, 1) := by decide +kernel
theorem dX4_begin_46 : decode cX4_begin 46 = .ok (.iconst 0, 1) := by decide +kernel
theorem dX4_begin_47 : decode cX4_begin 47 = .ok (.putfield 75, 3) := by decide +kernel
theorem dX4_begin_50 : decode cX4_begin 50 = .ok (.return_, 1) := by decide +kernel
set_option maxRecDepth 20000 in
theorem ggX4_playMeeting_X0_isMeeting : GoodIn wsX4_playMeeting wsX0_isMeeting := goodIn_r _ [9, 10, 177, 178, 179, 180, 181, 182, 183] (by decide +kernel) (by decide +kernel)
set_option maxRecDepth 20000 in
theorem gX4_playMeeting_X0_isMeeting : GoodIn wsX4_playMeeting (wsV RX4 78 RX0 yX0_isMeeting wsX0_isMeeting) := goodIn_app (goodIn_of _ (by decide +kernel)) ggX4_playMeeting_X0_isMeeting
set_option maxRecDepth 20000 in
theorem ggX4_playMeeting_X0_startOf : GoodIn wsX4_playMeeting wsX0_startOf := goodIn_r _ [14, 15, 16, 6, 7, 8, 9, 10, 177, 178, 179, 180, 181, 182, 183] (by decide +kernel) (by decide +kernel)
set_option maxRecDepth 20000 in
theorem gX4_playMeeting_X0_startOf : GoodIn wsX4_playMeeting (wsV RX4 82 RX0 yX0_startOf wsX0_startOf) := goodIn_app (goodIn_of _ (by decide +kernel)) ggX4_playMeeting_X0_startOf
set_option maxRecDepth 20000 in
theorem ggX4_playMeeting_X4_handOutKeys : GoodIn wsX4_playMeeting wsX4_handOutKeys := goodIn_r _ [21, 22, 2, 23, 1, 24, 25, 26, 27, 28, 29, 30, 31, 32, 33, 34, 35, 36, 20, 37, 38, 39, 40, 41, 42, 43, 44, 45, 46, 162, 163, 164, 165, 166, 167, 168, 169, 170, 171, 172, 173, 174, 175, 176, 177, 178, 179, 180, 181, 182, 183, 184] (by decide +kernel) (by decide +kernel)
set_option maxRecDepth 20000 in
theorem gX4_playMeeting_X4_handOutKeys : GoodIn wsX4_playMeeting (wsV RX4 98 RX4 yX4_handOutKeys wsX4_handOutKeys) := goodIn_app (goodIn_of _ (by decide +kernel)) ggX4_playMeeting_X4_handOutKeys
set_option maxRecDepth 20000 in
theorem ggX4_playMeeting_X4_isOpen : GoodIn wsX4_playMeeting wsX4_isOpen := goodIn_r _ [50, 23, 51, 52, 53, 20, 54, 3, 162, 163, 164, 165, 166, 167, 168, 169, 170, 171, 172, 173, 174, 175, 176] (by decide +kernel) (by decide +kernel)
set_option maxRecDepth 20000 in
theorem gX4_playMeeting_X4_isOpen : GoodIn wsX4_playMeeting (wsV RX4 101 RX4 yX4_isOpen wsX4_isOpen) := goodIn_app (goodIn_of _ (by decide +kernel)) ggX4_playMeeting_X4_isOpen
set_option maxRecDepth 20000 in
theorem ggX4_playMeeting_X4_collectDues : GoodIn wsX4_playMeeting wsX4_collectDues := goodIn_r _ [58, 1, 22, 34, 35, 36, 20, 37, 38, 51, 52, 53, 54, 3, 28, 29, 30, 31, 32, 33, 59, 60, 61, 62, 63, 162, 163, 164, 165, 166, 167, 168, 169, 170, 171, 172, 173, 174, 175, 176, 177, 178, 179, 180, 181, 182, 183, 184] (by decide +kernel) (by decide +kernel)
set_option maxRecDepth 20000 in
theorem gX4_playMeeting_X4_collectDues : GoodIn wsX4_playMeeting (wsV RX4 105 RX4 yX4_collectDues wsX4_collectDues) := goodIn_app (goodIn_of _ (by decide +kernel)) ggX4_playMeeting_X4_collectDues
set_option maxRecDepth 20000 in
theorem ggX4_playMeeting_X4_growFallingLoans : GoodIn wsX4_playMeeting wsX4_growFallingLoans := goodIn_r _ [67, 22, 1, 38, 28, 29, 30, 31, 32, 33, 68, 69, 70, 20, 71, 72, 2, 73, 74, 75, 76, 77, 78, 79, 80, 63, 162, 163, 164, 165, 166, 167, 168, 169, 170, 171, 172, 173, 174, 175, 176, 177, 178, 179, 180, 181, 182, 183, 184] (by decide +kernel) (by decide +kernel)
set_option maxRecDepth 20000 in
theorem gX4_playMeeting_X4_growFallingLoans : GoodIn wsX4_playMeeting (wsV RX4 108 RX4 yX4_growFallingLoans wsX4_growFallingLoans) := goodIn_app (goodIn_of _ (by decide +kernel)) ggX4_playMeeting_X4_growFallingLoans
set_option maxRecDepth 20000 in
theorem ggX4_playMeeting_X4_collectLateDues : GoodIn wsX4_playMeeting wsX4_collectLateDues := goodIn_r _ [84, 1, 38, 2, 85, 22, 28, 29, 30, 31, 32, 33, 59, 60, 61, 20, 62, 63, 162, 163, 164, 165, 166, 167, 168, 169, 170, 171, 172, 173, 174, 175, 176, 177, 178, 179, 180, 181, 182, 183, 184] (by decide +kernel) (by decide +kernel)
set_option maxRecDepth 20000 in
theorem gX4_playMeeting_X4_collectLateDues : GoodIn wsX4_playMeeting (wsV RX4 111 RX4 yX4_collectLateDues wsX4_collectLateDues) := goodIn_app (goodIn_of _ (by decide +kernel)) ggX4_playMeeting_X4_collectLateDues
set_option maxRecDepth 20000 in
theorem ggX4_playMeeting_J7_fill_53178 : GoodIn wsX4_playMeeting wsJ7_fill_53178 := goodIn_r _ [89] (by decide +kernel) (by decide +kernel)
set_option maxRecDepth 20000 in
theorem gX4_playMeeting_J7_fill_53178 : GoodIn wsX4_playMeeting (va_wsS RX4 69 yJ7_fill_53178 wsJ7_fill_53178) := goodIn_app (goodIn_of _ (by decide +kernel)) ggX4_playMeeting_J7_fill_53178
set_option maxRecDepth 20000 in
theorem ggX4_playMeeting_X0_endOf : GoodIn wsX4_playMeeting wsX0_endOf := goodIn_r _ [93, 15, 94, 16, 6, 7, 8, 9, 10, 177, 178, 179, 180, 181, 182, 183] (by decide +kernel) (by decide +kernel)
set_option maxRecDepth 20000 in
theorem gX4_playMeeting_X0_endOf : GoodIn wsX4_playMeeting (wsV RX4 114 RX0 yX0_endOf wsX0_endOf) := goodIn_app (goodIn_of _ (by decide +kernel)) ggX4_playMeeting_X0_endOf
set_option maxRecDepth 20000 in
theorem ggX4_playMeeting_X4_doEntry : GoodIn wsX4_playMeeting wsX4_doEntry := goodIn_r _ [98, 63, 22, 99, 100, 101, 20, 102, 103, 104, 26, 105, 34, 35, 36, 37, 38, 28, 29, 30, 31, 32, 33, 106, 107, 108, 109, 24, 25, 27, 110, 111, 112, 113, 114, 1, 115, 116, 117, 118, 119, 120, 121, 122, 123, 51, 52, 53, 54, 3, 124, 125, 126, 127, 128, 129, 130, 131, 4, 132, 133, 134, 135, 73, 74, 75, 76, 136, 137, 138, 139, 59, 60, 61, 62, 162, 163, 164, 165, 166, 167, 168, 169, 170, 171, 172, 173, 174, 175, 176, 184, 177, 178, 179, 180, 181, 182, 183] (by decide +kernel) (by decide +kernel)
set_option maxRecDepth 20000 in
theorem gX4_playMeeting_X4_doEntry : GoodIn wsX4_playMeeting (wsV RX4 120 RX4 yX4_doEntry wsX4_doEntry) := goodIn_app (goodIn_of _ (by decide +kernel)) ggX4_playMeeting_X4_doEntry
set_option maxRecDepth 20000 in
theorem ggX4_playMeeting_X4_serveQueue : GoodIn wsX4_playMeeting wsX4_serveQueue := goodIn_r _ [143, 122, 144, 110, 63, 38, 145, 146, 147, 20, 148, 123, 149, 150, 151, 152, 22, 28, 29, 30, 31, 32, 33, 153, 154, 155, 156, 85, 2, 72, 73, 74, 75, 76, 77, 78, 79, 80, 118, 119, 120, 121, 162, 163, 164, 165, 166, 167, 168, 169, 170, 171, 172, 173, 174, 175, 176, 184] (by decide +kernel) (by decide +kernel)
set_option maxRecDepth 20000 in
theorem gX4_playMeeting_X4_serveQueue : GoodIn wsX4_playMeeting (wsV RX4 124 RX4 yX4_serveQueue wsX4_serveQueue) := goodIn_app (goodIn_of _ (by decide +kernel)) ggX4_playMeeting_X4_serveQueue
set_option maxRecDepth 20000 in
theorem ggX4_playMeeting_X4_writeDown : GoodIn wsX4_playMeeting wsX4_writeDown := goodIn_r _ [160, 63, 161, 2, 122, 23, 111, 112, 113, 20, 114, 1, 38, 162, 163, 164, 165, 166, 167, 168, 169, 170, 171, 172, 173, 174, 175, 176, 177, 178, 179, 180, 181, 182, 183] (by decide +kernel) (by decide +kernel)
set_option maxRecDepth 20000 in
theorem gX4_playMeeting_X4_writeDown : GoodIn wsX4_playMeeting (wsV RX4 127 RX4 yX4_writeDown wsX4_writeDown) := goodIn_app (goodIn_of _ (by decide +kernel)) ggX4_playMeeting_X4_writeDown
theorem dX4_playMeeting_0 : decode cX4_playMeeting 0 = .ok (.aload_n 0, 1) := by decide +kernel
theorem dX4_playMeeting_1 : decode cX4_playMeeting 1 = .ok (.getfield 46, 3) := by decide +kernel
theorem dX4_playMeeting_4 : decode cX4_playMeeting 4 = .ok (.iload_n 1, 1) := by decide +kernel
theorem dX4_playMeeting_5 : decode cX4_playMeeting 5 = .ok (.invokevirtual 78, 3) := by decide +kernel
theorem dX4_playMeeting_8 : decode cX4_playMeeting 8 = .ok (.ifCond .ne 4, 3) := by decide +kernel
theorem dX4_playMeeting_11 : decode cX4_playMeeting 11 = .ok (.return_, 1) := by decide +kernel
theorem dX4_playMeeting_12 : decode cX4_playMeeting 12 = .ok (.aload_n 0, 1) := by decide +kernel
theorem dX4_playMeeting_13 : decode cX4_playMeeting 13 = .ok (.getfield 46, 3) := by decide +kernel
theorem dX4_playMeeting_16 : decode cX4_playMeeting 16 = .ok (.iload_n 1, 1) := by decide +kernel
theorem dX4_playMeeting_17 : decode cX4_playMeeting 17 = .ok (.invokevirtual 82, 3) := by decide +kernel
theorem dX4_playMeeting_20 : decode cX4_playMeeting 20 = .ok (.istore_n 2, 1) := by decide +kernel
theorem dX4_playMeeting_21 : decode cX4_playMeeting 21 = .ok (.aload_n 0, 1) := by decide +kernel
theorem dX4_playMeeting_22 : decode cX4_playMeeting 22 = .ok (.aload_n 0, 1) := by decide +kernel
theorem dX4_playMeeting_23 : decode cX4_playMeeting 23 = .ok (.getfield 46, 3) := by decide +kernel
theorem dX4_playMeeting_26 : decode cX4_playMeeting 26 = .ok (.getfield 86, 3) := by decide +kernel
theorem dX4_playMeeting_29 : decode cX4_playMeeting 29 = .ok (.iload_n 2, 1) := by decide +kernel
theorem dX4_playMeeting_30 : decode cX4_playMeeting 30 = .ok (.iaload, 1) := by decide +kernel
theorem dX4_playMeeting_31 : decode cX4_playMeeting 31 = .ok (.putfield 89, 3) := by decide +kernel
theorem dX4_playMeeting_34 : decode cX4_playMeeting 34 = .ok (.aload_n 0, 1) := by decide +kernel
theorem dX4_playMeeting_35 : decode cX4_playMeeting 35 = .ok (.aload_n 0, 1) := by decide +kernel
theorem dX4_playMeeting_36 : decode cX4_playMeeting 36 = .ok (.getfield 46, 3) := by decide +kernel
theorem dX4_playMeeting_39 : decode cX4_playMeeting 39 = .ok (.getfield 92, 3) := by decide +kernel
theorem dX4_playMeeting_42 : decode cX4_playMeeting 42 = .ok (.iload_n 2, 1) := by decide +kernel
theorem dX4_playMeeting_43 : decode cX4_playMeeting 43 = .ok (.iaload, 1) := by decide +kernel
theorem dX4_playMeeting_44 : decode cX4_playMeeting 44 = .ok (.putfield 95, 3) := by decide +kernel
theorem dX4_playMeeting_47 : decode cX4_playMeeting 47 = .ok (.aload_n 0, 1) := by decide +kernel
theorem dX4_playMeeting_48 : decode cX4_playMeeting 48 = .ok (.invokevirtual 98, 3) := by decide +kernel
theorem dX4_playMeeting_51 : decode cX4_playMeeting 51 = .ok (.aload_n 0, 1) := by decide +kernel
theorem dX4_playMeeting_52 : decode cX4_playMeeting 52 = .ok (.invokevirtual 101, 3) := by decide +kernel
theorem dX4_playMeeting_55 : decode cX4_playMeeting 55 = .ok (.istore_n 3, 1) := by decide +kernel
theorem dX4_playMeeting_56 : decode cX4_playMeeting 56 = .ok (.iload_n 3, 1) := by decide +kernel
theorem dX4_playMeeting_57 : decode cX4_playMeeting 57 = .ok (.ifCond .eq 23, 3) := by decide +kernel
theorem dX4_playMeeting_60 : decode cX4_playMeeting 60 = .ok (.aload_n 0, 1) := by decide +kernel
theorem dX4_playMeeting_61 : decode cX4_playMeeting 61 = .ok (.invokevirtual 105, 3) := by decide +kernel
theorem dX4_playMeeting_64 : decode cX4_playMeeting 64 = .ok (.aload_n 0, 1) := by decide +kernel
theorem dX4_playMeeting_65 : decode cX4_playMeeting 65 = .ok (.invokevirtual 108, 3) := by decide +kernel
theorem dX4_playMeeting_68 : decode cX4_playMeeting 68 = .ok (.aload_n 0, 1) := by decide +kernel
theorem dX4_playMeeting_69 : decode cX4_playMeeting 69 = .ok (.invokevirtual 111, 3) := by decide +kernel
theorem dX4_playMeeting_72 : decode cX4_playMeeting 72 = .ok (.aload_n 0, 1) := by decide +kernel
theorem dX4_playMeeting_73 : decode cX4_playMeeting 73 = .ok (.getfield 34, 3) := by decide +kernel
theorem dX4_playMeeting_76 : decode cX4_playMeeting 76 = .ok (.iconst 0, 1) := by decide +kernel
theorem dX4_playMeeting_77 : decode cX4_playMeeting 77 = .ok (.invokestatic 69, 3) := by decide +kernel
theorem dX4_playMeeting_80 : decode cX4_playMeeting 80 = .ok (.aload_n 0, 1) := by decide +kernel
theorem dX4_playMeeting_81 : decode cX4_playMeeting 81 = .ok (.getfield 46, 3) := by decide +kernel
theorem dX4_playMeeting_84 : decode cX4_playMeeting 84 = .ok (.iload_n 1, 1) := by decide +kernel
theorem dX4_playMeeting_85 : decode cX4_playMeeting 85 = .ok (.invokevirtual 114, 3) := by decide +kernel
theorem dX4_playMeeting_88 : decode cX4_playMeeting 88 = .ok (.istore 4, 2) := by decide +kernel
theorem dX4_playMeeting_90 : decode cX4_playMeeting 90 = .ok (.iload_n 2, 1) := by decide +kernel
theorem dX4_playMeeting_91 : decode cX4_playMeeting 91 = .ok (.iconst 1, 1) := by decide +kernel
theorem dX4_playMeeting_92 : decode cX4_playMeeting 92 = .ok (.iadd, 1) := by decide +kernel
theorem dX4_playMeeting_93 : decode cX4_playMeeting 93 = .ok (.istore 5, 2) := by decide +kernel
theorem dX4_playMeeting_95 : decode cX4_playMeeting 95 = .ok (.iload 5, 2) := by decide +kernel
theorem dX4_playMeeting_97 : decode cX4_playMeeting 97 = .ok (.iload 4, 2) := by decide +kernel
theorem dX4_playMeeting_99 : decode cX4_playMeeting 99 = .ok (.if_icmp .ge 44, 3) := by decide +kernel
theorem dX4_playMeeting_102 : decode cX4_playMeeting 102 = .ok (.aload_n 0, 1) := by decide +kernel
theorem dX4_playMeeting_103 : decode cX4_playMeeting 103 = .ok (.aload_n 0, 1) := by decide +kernel
theorem dX4_playMeeting_104 : decode cX4_playMeeting 104 = .ok (.getfield 46, 3) := by decide +kernel
theorem dX4_playMeeting_107 : decode cX4_playMeeting 107 = .ok (.getfield 117, 3) := by decide +kernel
theorem dX4_playMeeting_110 : decode cX4_playMeeting 110 = .ok (.iload 5, 2) := by decide +kernel
theorem dX4_playMeeting_112 : decode cX4_playMeeting 112 = .ok (.iaload, 1) := by decide +kernel
theorem dX4_playMeeting_113 : decode cX4_playMeeting 113 = .ok (.aload_n 0, 1) := by decide +kernel
theorem dX4_playMeeting_114 : decode cX4_playMeeting 114 = .ok (.getfield 46, 3) := by decide +kernel
theorem dX4_playMeeting_117 : decode cX4_playMeeting 117 = .ok (.getfield 86, 3) := by decide +kernel
theorem dX4_playMeeting_120 : decode cX4_playMeeting 120 = .ok (.iload 5, 2) := by decide +kernel
theorem dX4_playMeeting_122 : decode cX4_playMeeting 122 = .ok (.iaload, 1) := by decide +kernel
theorem dX4_playMeeting_123 : decode cX4_playMeeting 123 = .ok (.aload_n 0, 1) := by decide +kernel
theorem dX4_playMeeting_124 : decode cX4_playMeeting 124 = .ok (.getfield 46, 3) := by decide +kernel
theorem dX4_playMeeting_127 : decode cX4_playMeeting 127 = .ok (.getfield 92, 3) := by decide +kernel
theorem dX4_playMeeting_130 : decode cX4_playMeeting 130 = .ok (.iload 5, 2) := by decide +kernel
theorem dX4_playMeeting_132 : decode cX4_playMeeting 132 = .ok (.iaload, 1) := by decide +kernel
theorem dX4_playMeeting_133 : decode cX4_playMeeting 133 = .ok (.iload_n 3, 1) := by decide +kernel
theorem dX4_playMeeting_134 : decode cX4_playMeeting 134 = .ok (.invokevirtual 120, 3) := by decide +kernel
theorem dX4_playMeeting_137 : decode cX4_playMeeting 137 = .ok (.iinc 5 1, 3) := by decide +kernel
theorem dX4_playMeeting_140 : decode cX4_playMeeting 140 = .ok (.goto (-45), 3) := by decide +kernel
theorem dX4_playMeeting_143 : decode cX4_playMeeting 143 = .ok (.iload_n 3, 1) := by decide +kernel
theorem dX4_playMeeting_144 : decode cX4_playMeeting 144 = .ok (.ifCond .eq 7, 3) := by decide +kernel
theorem dX4_playMeeting_147 : decode cX4_playMeeting 147 = .ok (.aload_n 0, 1) := by decide +kernel
theorem dX4_playMeeting_148 : decode cX4_playMeeting 148 = .ok (.invokevirtual 124, 3) := by decide +kernel
theorem dX4_playMeeting_151 : decode cX4_playMeeting 151 = .ok (.aload_n 0, 1) := by decide +kernel
theorem dX4_playMeeting_152 : decode cX4_playMeeting 152 = .ok (.iload_n 1, 1) := by decide +kernel
theorem dX4_playMeeting_153 : decode cX4_playMeeting 153 = .ok (.iload_n 3, 1) := by decide +kernel
theorem dX4_playMeeting_154 : decode cX4_playMeeting 154 = .ok (.invokevirtual 127, 3) := by decide +kernel
theorem dX4_playMeeting_157 : decode cX4_playMeeting 157 = .ok (.return_, 1) := by decide +kernel
theorem dX4_differsFrom_0 : decode cX4_differsFrom 0 = .ok (.aload_n 0, 1) := by decide +kernel
theorem dX4_differsFrom_1 : decode cX4_differsFrom 1 = .ok (.getfield 21, 3) := by decide +kernel
theorem dX4_differsFrom_4 : decode cX4_differsFrom 4 = .ok (.iconst 2, 1) := by decide +kernel
theorem dX4_differsFrom_5 : decode cX4_differsFrom 5 = .ok (.iaload, 1) := by decide +kernel
theorem dX4_differsFrom_6 : decode cX4_differsFrom 6 = .ok (.aload_n 1, 1) := by decide +kernel
theorem dX4_differsFrom_7 : decode cX4_differsFrom 7 = .ok (.getfield 21, 3) := by decide +kernel
theorem dX4_differsFrom_10 : decode cX4_differsFrom 10 = .ok (.iconst 2, 1) := by decide +kernel
theorem dX4_differsFrom_11 : decode cX4_differsFrom 11 = .ok (.iaload, 1) := by decide +kernel
theorem dX4_differsFrom_12 : decode cX4_differsFrom 12 = .ok (.if_icmp .ne 18, 3) := by decide +kernel
theorem dX4_differsFrom_15 : decode cX4_differsFrom 15 = .ok (.aload_n 0, 1) := by decide +kernel
theorem dX4_differsFrom_16 : decode cX4_differsFrom 16 = .ok (.getfield 21, 3) := by decide +kernel
theorem dX4_differsFrom_19 : decode cX4_differsFrom 19 = .ok (.iconst 3, 1) := by decide +kernel
theorem dX4_differsFrom_20 : decode cX4_differsFrom 20 = .ok (.iaload, 1) := by decide +kernel
theorem dX4_differsFrom_21 : decode cX4_differsFrom 21 = .ok (.aload_n 1, 1) := by decide +kernel
theorem dX4_differsFrom_22 : decode cX4_differsFrom 22 = .ok (.getfield 21, 3) := by decide +kernel
theorem dX4_differsFrom_25 : decode cX4_differsFrom 25 = .ok (.iconst 3, 1) := by decide +kernel
theorem dX4_differsFrom_26 : decode cX4_differsFrom 26 = .ok (.iaload, 1) := by decide +kernel
theorem dX4_differsFrom_27 : decode cX4_differsFrom 27 = .ok (.if_icmp .eq 5, 3) := by decide +kernel
theorem dX4_differsFrom_30 : decode cX4_differsFrom 30 = .ok (.iconst 1, 1) := by decide +kernel
theorem dX4_differsFrom_31 : decode cX4_differsFrom 31 = .ok (.ireturn, 1) := by decide +kernel
theorem dX4_differsFrom_32 : decode cX4_differsFrom 32 = .ok (.iconst 0, 1) := by decide +kernel
theorem dX4_differsFrom_33 : decode cX4_differsFrom 33 = .ok (.istore_n 2, 1) := by decide +kernel
theorem dX4_differsFrom_34 : decode cX4_differsFrom 34 = .ok (.iload_n 2, 1) := by decide +kernel
theorem dX4_differsFrom_35 : decode cX4_differsFrom 35 = .ok (.aload_n 0, 1) := by decide +kernel
theorem dX4_differsFrom_36 : decode cX4_differsFrom 36 = .ok (.getfield 46, 3) := by decide +kernel
theorem dX4_differsFrom_39 : decode cX4_differsFrom 39 = .ok (.getfield 131, 3) := by decide +kernel
theorem dX4_differsFrom_42 : decode cX4_differsFrom 42 = .ok (.if_icmp .ge 30, 3) := by decide +kernel
theorem dX4_differsFrom_45 : decode cX4_differsFrom 45 = .ok (.aload_n 0, 1) := by decide +kernel
theorem dX4_differsFrom_46 : decode cX4_differsFrom 46 = .ok (.getfield 15, 3) := by decide +kernel
theorem dX4_differsFrom_49 : decode cX4_differsFrom 49 = .ok (.iconst 1, 1) := by decide +kernel
theorem dX4_differsFrom_50 : decode cX4_differsFrom 50 = .ok (.aaload, 1) := by decide +kernel
theorem dX4_differsFrom_51 : decode cX4_differsFrom 51 = .ok (.iload_n 2, 1) := by decide +kernel
theorem dX4_differsFrom_52 : decode cX4_differsFrom 52 = .ok (.iaload, 1) := by decide +kernel
theorem dX4_differsFrom_53 : decode cX4_differsFrom 53 = .ok (.aload_n 1, 1) := by decide +kernel
theorem dX4_differsFrom_54 : decode cX4_differsFrom 54 = .ok (.getfield 15, 3) := by decide +kernel
theorem dX4_differsFrom_57 : decode cX4_differsFrom 57 = .ok (.iconst 1, 1) := by decide +kernel
theorem dX4_differsFrom_58 : decode cX4_differsFrom 58 = .ok (.aaload, 1) := by decide +kernel
theorem dX4_differsFrom_59 : decode cX4_differsFrom 59 = .ok (.iload_n 2, 1) := by decide +kernel
theorem dX4_differsFrom_60 : decode cX4_differsFrom 60 = .ok (.iaload, 1) := by decide +kernel
theorem dX4_differsFrom_61 : decode cX4_differsFrom 61 = .ok (.if_icmp .eq 5, 3) := by decide +kernel
theorem dX4_differsFrom_64 : decode cX4_differsFrom 64 = .ok (.iconst 1, 1) := by decide +kernel
theorem dX4_differsFrom_65 : decode cX4_differsFrom 65 = .ok (.ireturn, 1) := by decide +kernel
theorem dX4_differsFrom_66 : decode cX4_differsFrom 66 = .ok (.iinc 2 1, 3) := by decide +kernel
theorem dX4_differsFrom_69 : decode cX4_differsFrom 69 = .ok (.goto (-35), 3) := by decide +kernel
theorem dX4_differsFrom_72 : decode cX4_differsFrom 72 = .ok (.iconst 0, 1) := by decide +kernel
theorem dX4_differsFrom_73 : decode cX4_differsFrom 73 = .ok (.ireturn, 1) := by decide +kernel
set_option maxRecDepth 20000 in
theorem ggX4_hasOfTheYear_X0_isMember : GoodIn wsX4_hasOfTheYear wsX0_isMember := goodIn_r _ [8, 9, 31, 32, 33, 34, 35, 36, 37] (by decide +kernel) (by decide +kernel)
set_option maxRecDepth 20000 in
theorem gX4_hasOfTheYear_X0_isMember : GoodIn wsX4_hasOfTheYear (wsV RX4 134 RX0 yX0_isMember wsX0_isMember) := goodIn_app (goodIn_of _ (by decide +kernel)) ggX4_hasOfTheYear_X0_isMember
set_option maxRecDepth 20000 in
theorem ggX4_hasOfTheYear_X2_of : GoodIn wsX4_hasOfTheYear wsX2_of := goodIn_r _ [14, 15, 38] (by decide +kernel) (by decide +kernel)
set_option maxRecDepth 20000 in
theorem gX4_hasOfTheYear_X2_of : GoodIn wsX4_hasOfTheYear (wsV RX4 139 RX2 yX2_of wsX2_of) := goodIn_app (goodIn_of _ (by decide +kernel)) ggX4_hasOfTheYear_X2_of
theorem dX4_hasOfTheYear_0 : decode cX4_hasOfTheYear 0 = .ok (.aload_n 0, 1) := by decide +kernel
theorem dX4_hasOfTheYear_1 : decode cX4_hasOfTheYear 1 = .ok (.getfield 46, 3) := by decide +kernel
theorem dX4_hasOfTheYear_4 : decode cX4_hasOfTheYear 4 = .ok (.iload_n 1, 1) := by decide +kernel
theorem dX4_hasOfTheYear_5 : decode cX4_hasOfTheYear 5 = .ok (.invokevirtual 134, 3) := by decide +kernel
theorem dX4_hasOfTheYear_8 : decode cX4_hasOfTheYear 8 = .ok (.ifCond .ne 5, 3) := by decide +kernel
theorem dX4_hasOfTheYear_11 : decode cX4_hasOfTheYear 11 = .ok (.iconst 0, 1) := by decide +kernel
theorem dX4_hasOfTheYear_12 : decode cX4_hasOfTheYear 12 = .ok (.ireturn, 1) := by decide +kernel
theorem dX4_hasOfTheYear_13 : decode cX4_hasOfTheYear 13 = .ok (.aload_n 0, 1) := by decide +kernel
theorem dX4_hasOfTheYear_14 : decode cX4_hasOfTheYear 14 = .ok (.getfield 15, 3) := by decide +kernel
theorem dX4_hasOfTheYear_17 : decode cX4_hasOfTheYear 17 = .ok (.bipush 10, 2) := by decide +kernel
theorem dX4_hasOfTheYear_19 : decode cX4_hasOfTheYear 19 = .ok (.aaload, 1) := by decide +kernel
theorem dX4_hasOfTheYear_20 : decode cX4_hasOfTheYear 20 = .ok (.iload_n 1, 1) := by decide +kernel
theorem dX4_hasOfTheYear_21 : decode cX4_hasOfTheYear 21 = .ok (.iaload, 1) := by decide +kernel
theorem dX4_hasOfTheYear_22 : decode cX4_hasOfTheYear 22 = .ok (.aload_n 0, 1) := by decide +kernel
theorem dX4_hasOfTheYear_23 : decode cX4_hasOfTheYear 23 = .ok (.getfield 15, 3) := by decide +kernel
theorem dX4_hasOfTheYear_26 : decode cX4_hasOfTheYear 26 = .ok (.bipush 8, 2) := by decide +kernel
theorem dX4_hasOfTheYear_28 : decode cX4_hasOfTheYear 28 = .ok (.aaload, 1) := by decide +kernel
theorem dX4_hasOfTheYear_29 : decode cX4_hasOfTheYear 29 = .ok (.iload_n 1, 1) := by decide +kernel
theorem dX4_hasOfTheYear_30 : decode cX4_hasOfTheYear 30 = .ok (.iaload, 1) := by decide +kernel
theorem dX4_hasOfTheYear_31 : decode cX4_hasOfTheYear 31 = .ok (.iadd, 1) := by decide +kernel
theorem dX4_hasOfTheYear_32 : decode cX4_hasOfTheYear 32 = .ok (.aload_n 0, 1) := by decide +kernel
theorem dX4_hasOfTheYear_33 : decode cX4_hasOfTheYear 33 = .ok (.getfield 15, 3) := by decide +kernel
theorem dX4_hasOfTheYear_36 : decode cX4_hasOfTheYear 36 = .ok (.iconst 2, 1) := by decide +kernel
theorem dX4_hasOfTheYear_37 : decode cX4_hasOfTheYear 37 = .ok (.aaload, 1) := by decide +kernel
theorem dX4_hasOfTheYear_38 : decode cX4_hasOfTheYear 38 = .ok (.iload_n 1, 1) := by decide +kernel
theorem dX4_hasOfTheYear_39 : decode cX4_hasOfTheYear 39 = .ok (.iaload, 1) := by decide +kernel
theorem dX4_hasOfTheYear_40 : decode cX4_hasOfTheYear 40 = .ok (.iadd, 1) := by decide +kernel
theorem dX4_hasOfTheYear_41 : decode cX4_hasOfTheYear 41 = .ok (.istore_n 2, 1) := by decide +kernel
theorem dX4_hasOfTheYear_42 : decode cX4_hasOfTheYear 42 = .ok (.aload_n 0, 1) := by decide +kernel
theorem dX4_hasOfTheYear_43 : decode cX4_hasOfTheYear 43 = .ok (.getfield 15, 3) := by decide +kernel
theorem dX4_hasOfTheYear_46 : decode cX4_hasOfTheYear 46 = .ok (.bipush 12, 2) := by decide +kernel
theorem dX4_hasOfTheYear_48 : decode cX4_hasOfTheYear 48 = .ok (.aaload, 1) := by decide +kernel
theorem dX4_hasOfTheYear_49 : decode cX4_hasOfTheYear 49 = .ok (.iload_n 1, 1) := by decide +kernel
theorem dX4_hasOfTheYear_50 : decode cX4_hasOfTheYear 50 = .ok (.iaload, 1) := by decide +kernel
theorem dX4_hasOfTheYear_51 : decode cX4_hasOfTheYear 51 = .ok (.aload_n 0, 1) := by decide +kernel
theorem dX4_hasOfTheYear_52 : decode cX4_hasOfTheYear 52 = .ok (.getfield 50, 3) := by decide +kernel
theorem dX4_hasOfTheYear_55 : decode cX4_hasOfTheYear 55 = .ok (.iconst 0, 1) := by decide +kernel
theorem dX4_hasOfTheYear_56 : decode cX4_hasOfTheYear 56 = .ok (.invokevirtual 139, 3) := by decide +kernel
theorem dX4_hasOfTheYear_59 : decode cX4_hasOfTheYear 59 = .ok (.imul, 1) := by decide +kernel
theorem dX4_hasOfTheYear_60 : decode cX4_hasOfTheYear 60 = .ok (.istore_n 3, 1) := by decide +kernel
theorem dX4_hasOfTheYear_61 : decode cX4_hasOfTheYear 61 = .ok (.iload_n 2, 1) := by decide +kernel
theorem dX4_hasOfTheYear_62 : decode cX4_hasOfTheYear 62 = .ok (.aload_n 0, 1) := by decide +kernel
theorem dX4_hasOfTheYear_63 : decode cX4_hasOfTheYear 63 = .ok (.getfield 15, 3) := by decide +kernel
theorem dX4_hasOfTheYear_66 : decode cX4_hasOfTheYear 66 = .ok (.iconst 3, 1) := by decide +kernel
theorem dX4_hasOfTheYear_67 : decode cX4_hasOfTheYear 67 = .ok (.aaload, 1) := by decide +kernel
theorem dX4_hasOfTheYear_68 : decode cX4_hasOfTheYear 68 = .ok (.iload_n 1, 1) := by decide +kernel
theorem dX4_hasOfTheYear_69 : decode cX4_hasOfTheYear 69 = .ok (.iaload, 1) := by decide +kernel
theorem dX4_hasOfTheYear_70 : decode cX4_hasOfTheYear 70 = .ok (.isub, 1) := by decide +kernel
theorem dX4_hasOfTheYear_71 : decode cX4_hasOfTheYear 71 = .ok (.iload_n 3, 1) := by decide +kernel
theorem dX4_hasOfTheYear_72 : decode cX4_hasOfTheYear 72 = .ok (.isub, 1) := by decide +kernel
theorem dX4_hasOfTheYear_73 : decode cX4_hasOfTheYear 73 = .ok (.aload_n 0, 1) := by decide +kernel
theorem dX4_hasOfTheYear_74 : decode cX4_hasOfTheYear 74 = .ok (.getfield 15, 3) := by decide +kernel
theorem dX4_hasOfTheYear_77 : decode cX4_hasOfTheYear 77 = .ok (.iconst 4, 1) := by decide +kernel
theorem dX4_hasOfTheYear_78 : decode cX4_hasOfTheYear 78 = .ok (.aaload, 1) := by decide +kernel
theorem dX4_hasOfTheYear_79 : decode cX4_hasOfTheYear 79 = .ok (.iload_n 1, 1) := by decide +kernel
theorem dX4_hasOfTheYear_80 : decode cX4_hasOfTheYear 80 = .ok (.iaload, 1) := by decide +kernel
theorem dX4_hasOfTheYear_81 : decode cX4_hasOfTheYear 81 = .ok (.isub, 1) := by decide +kernel
theorem dX4_hasOfTheYear_82 : decode cX4_hasOfTheYear 82 = .ok (.ireturn, 1) := by decide +kernel
set_option maxRecDepth 20000 in
theorem ggX4_handOutKeys_X2_of : GoodIn wsX4_handOutKeys wsX2_of := goodIn_r _ [13, 14, 51] (by decide +kernel) (by decide +kernel)
set_option maxRecDepth 20000 in
theorem gX4_handOutKeys_X2_of : GoodIn wsX4_handOutKeys (wsV RX4 139 RX2 yX2_of wsX2_of) := goodIn_app (goodIn_of _ (by decide +kernel)) ggX4_handOutKeys_X2_of
set_option maxRecDepth 20000 in
theorem ggX4_handOutKeys_X4_isGone : GoodIn wsX4_handOutKeys wsX4_isGone := goodIn_r _ [19, 20, 29, 30, 31, 32, 33, 34, 35, 36, 37, 38, 39, 40, 41, 42, 43] (by decide +kernel) (by decide +kernel)
set_option maxRecDepth 20000 in
theorem gX4_handOutKeys_X4_isGone : GoodIn wsX4_handOutKeys (wsV RX4 148 RX4 yX4_isGone wsX4_isGone) := goodIn_app (goodIn_of _ (by decide +kernel)) ggX4_handOutKeys_X4_isGone
set_option maxRecDepth 20000 in
theorem ggX4_handOutKeys_X4_nextWithoutKey : GoodIn wsX4_handOutKeys wsX4_nextWithoutKey := goodIn_r _ [24, 4, 15, 16, 17, 18, 19, 20, 25, 26, 27, 28, 3, 29, 30, 31, 32, 33, 34, 35, 36, 37, 38, 39, 40, 41, 42, 43, 44, 45, 46, 47, 48, 49, 50] (by decide +kernel) (by decide +kernel)
set_option maxRecDepth 20000 in
theorem gX4_handOutKeys_X4_nextWithoutKey : GoodIn wsX4_handOutKeys (wsV RX4 151 RX4 yX4_nextWithoutKey wsX4_nextWithoutKey) := goodIn_app (goodIn_of _ (by decide +kernel)) ggX4_handOutKeys_X4_nextWithoutKey
theorem dX4_handOutKeys_0 : decode cX4_handOutKeys 0 = .ok (.aload_n 0, 1) := by decide +kernel
theorem dX4_handOutKeys_1 : decode cX4_handOutKeys 1 = .ok (.getfield 50, 3) := by decide +kernel
theorem dX4_handOutKeys_4 : decode cX4_handOutKeys 4 = .ok (.bipush 10, 2) := by decide +kernel
theorem dX4_handOutKeys_6 : decode cX4_handOutKeys 6 = .ok (.invokevirtual 139, 3) := by decide +kernel
theorem dX4_handOutKeys_9 : decode cX4_handOutKeys 9 = .ok (.istore_n 1, 1) := by decide +kernel
theorem dX4_handOutKeys_10 : decode cX4_handOutKeys 10 = .ok (.iload_n 1, 1) := by decide +kernel
theorem dX4_handOutKeys_11 : decode cX4_handOutKeys 11 = .ok (.iconst 1, 1) := by decide +kernel
theorem dX4_handOutKeys_12 : decode cX4_handOutKeys 12 = .ok (.if_icmp .ge 7, 3) := by decide +kernel
theorem dX4_handOutKeys_15 : decode cX4_handOutKeys 15 = .ok (.iconst 0, 1) := by decide +kernel
theorem dX4_handOutKeys_16 : decode cX4_handOutKeys 16 = .ok (.goto 11, 3) := by decide +kernel
theorem dX4_handOutKeys_19 : decode cX4_handOutKeys 19 = .ok (.iconst 3, 1) := by decide +kernel
theorem dX4_handOutKeys_20 : decode cX4_handOutKeys 20 = .ok (.aload_n 0, 1) := by decide +kernel
theorem dX4_handOutKeys_21 : decode cX4_handOutKeys 21 = .ok (.getfield 89, 3) := by decide +kernel
theorem dX4_handOutKeys_24 : decode cX4_handOutKeys 24 = .ok (.iload_n 1, 1) := by decide +kernel
theorem dX4_handOutKeys_25 : decode cX4_handOutKeys 25 = .ok (.idiv, 1) := by decide +kernel
theorem dX4_handOutKeys_26 : decode cX4_handOutKeys 26 = .ok (.imul, 1) := by decide +kernel
theorem dX4_handOutKeys_27 : decode cX4_handOutKeys 27 = .ok (.istore_n 2, 1) := by decide +kernel
theorem dX4_handOutKeys_28 : decode cX4_handOutKeys 28 = .ok (.iconst 0, 1) := by decide +kernel
theorem dX4_handOutKeys_29 : decode cX4_handOutKeys 29 = .ok (.istore_n 3, 1) := by decide +kernel
theorem dX4_handOutKeys_30 : decode cX4_handOutKeys 30 = .ok (.iload_n 3, 1) := by decide +kernel
theorem dX4_handOutKeys_31 : decode cX4_handOutKeys 31 = .ok (.iconst 3, 1) := by decide +kernel
theorem dX4_handOutKeys_32 : decode cX4_handOutKeys 32 = .ok (.if_icmp .ge 30, 3) := by decide +kernel
theorem dX4_handOutKeys_35 : decode cX4_handOutKeys 35 = .ok (.aload_n 0, 1) := by decide +kernel
theorem dX4_handOutKeys_36 : decode cX4_handOutKeys 36 = .ok (.getfield 25, 3) := by decide +kernel
theorem dX4_handOutKeys_39 : decode cX4_handOutKeys 39 = .ok (.iload_n 3, 1) := by decide +kernel
theorem dX4_handOutKeys_40 : decode cX4_handOutKeys 40 = .ok (.iload_n 2, 1) := by decide +kernel
theorem dX4_handOutKeys_41 : decode cX4_handOutKeys 41 = .ok (.iload_n 3, 1) := by decide +kernel
theorem dX4_handOutKeys_42 : decode cX4_handOutKeys 42 = .ok (.iadd, 1) := by decide +kernel
theorem dX4_handOutKeys_43 : decode cX4_handOutKeys 43 = .ok (.aload_n 0, 1) := by decide +kernel
theorem dX4_handOutKeys_44 : decode cX4_handOutKeys 44 = .ok (.getfield 46, 3) := by decide +kernel
theorem dX4_handOutKeys_47 : decode cX4_handOutKeys 47 = .ok (.getfield 131, 3) := by decide +kernel
theorem dX4_handOutKeys_50 : decode cX4_handOutKeys 50 = .ok (.iconst 1, 1) := by decide +kernel
theorem dX4_handOutKeys_51 : decode cX4_handOutKeys 51 = .ok (.invokestatic 142, 3) := by decide +kernel
theorem dX4_handOutKeys_54 : decode cX4_handOutKeys 54 = .ok (.irem, 1) := by decide +kernel
theorem dX4_handOutKeys_55 : decode cX4_handOutKeys 55 = .ok (.iastore, 1) := by decide +kernel
theorem dX4_handOutKeys_56 : decode cX4_handOutKeys 56 = .ok (.iinc 3 1, 3) := by decide +kernel
theorem dX4_handOutKeys_59 : decode cX4_handOutKeys 59 = .ok (.goto (-29), 3) := by decide +kernel
theorem dX4_handOutKeys_62 : decode cX4_handOutKeys 62 = .ok (.iconst 0, 1) := by decide +kernel
theorem dX4_handOutKeys_63 : decode cX4_handOutKeys 63 = .ok (.istore_n 3, 1) := by decide +kernel
theorem dX4_handOutKeys_64 : decode cX4_handOutKeys 64 = .ok (.iload_n 3, 1) := by decide +kernel
theorem dX4_handOutKeys_65 : decode cX4_handOutKeys 65 = .ok (.iconst 3, 1) := by decide +kernel
theorem dX4_handOutKeys_66 : decode cX4_handOutKeys 66 = .ok (.if_icmp .ge 38, 3) := by decide +kernel
theorem dX4_handOutKeys_69 : decode cX4_handOutKeys 69 = .ok (.aload_n 0, 1) := by decide +kernel
theorem dX4_handOutKeys_70 : decode cX4_handOutKeys 70 = .ok (.aload_n 0, 1) := by decide +kernel
theorem dX4_handOutKeys_71 : decode cX4_handOutKeys 71 = .ok (.getfield 25, 3) := by decide +kernel
theorem dX4_handOutKeys_74 : decode cX4_handOutKeys 74 = .ok (.iload_n 3, 1) := by decide +kernel
theorem dX4_handOutKeys_75 : decode cX4_handOutKeys 75 = .ok (.iaload, 1) := by decide +kernel
theorem dX4_handOutKeys_76 : decode cX4_handOutKeys 76 = .ok (.invokevirtual 148, 3) := by decide +kernel
theorem dX4_handOutKeys_79 : decode cX4_handOutKeys 79 = .ok (.ifCond .eq 19, 3) := by decide +kernel
theorem dX4_handOutKeys_82 : decode cX4_handOutKeys 82 = .ok (.aload_n 0, 1) := by decide +kernel
theorem dX4_handOutKeys_83 : decode cX4_handOutKeys 83 = .ok (.getfield 25, 3) := by decide +kernel
theorem dX4_handOutKeys_86 : decode cX4_handOutKeys 86 = .ok (.iload_n 3, 1) := by decide +kernel
theorem dX4_handOutKeys_87 : decode cX4_handOutKeys 87 = .ok (.aload_n 0, 1) := by decide +kernel
theorem dX4_handOutKeys_88 : decode cX4_handOutKeys 88 = .ok (.aload_n 0, 1) := by decide +kernel
theorem dX4_handOutKeys_89 : decode cX4_handOutKeys 89 = .ok (.getfield 25, 3) := by decide +kernel
theorem dX4_handOutKeys_92 : decode cX4_handOutKeys 92 = .ok (.iload_n 3, 1) := by decide +kernel
theorem dX4_handOutKeys_93 : decode cX4_handOutKeys 93 = .ok (.iaload, 1) := by decide +kernel
theorem dX4_handOutKeys_94 : decode cX4_handOutKeys 94 = .ok (.invokevirtual 151, 3) := by decide +kernel
theorem dX4_handOutKeys_97 : decode cX4_handOutKeys 97 = .ok (.iastore, 1) := by decide +kernel
theorem dX4_handOutKeys_98 : decode cX4_handOutKeys 98 = .ok (.iinc 3 1, 3) := by decide +kernel
theorem dX4_handOutKeys_101 : decode cX4_handOutKeys 101 = .ok (.goto (-37), 3) := by decide +kernel
theorem dX4_handOutKeys_104 : decode cX4_handOutKeys 104 = .ok (.return_, 1) := by decide +kernel
set_option maxRecDepth 20000 in
theorem ggX4_nextWithoutKey_X4_isGone : GoodIn wsX4_nextWithoutKey wsX4_isGone := goodIn_r _ [6, 7, 13, 14, 15, 16, 17, 18, 19, 20, 21, 22, 23, 24, 25, 26, 27] (by decide +kernel) (by decide +kernel)
set_option maxRecDepth 20000 in
theorem gX4_nextWithoutKey_X4_isGone : GoodIn wsX4_nextWithoutKey (wsV RX4 148 RX4 yX4_isGone wsX4_isGone) := goodIn_app (goodIn_of _ (by decide +kernel)) ggX4_nextWithoutKey_X4_isGone
set_option maxRecDepth 20000 in
theorem ggX4_nextWithoutKey_X4_hasKey : GoodIn wsX4_nextWithoutKey wsX4_hasKey := goodIn_r _ [11, 12, 13, 14, 15, 16, 17, 18, 19, 20, 21, 22, 23, 24, 25, 26, 27] (by decide +kernel) (by decide +kernel)
set_option maxRecDepth 20000 in
theorem gX4_nextWithoutKey_X4_hasKey : GoodIn wsX4_nextWithoutKey (wsV RX4 154 RX4 yX4_hasKey wsX4_hasKey) := goodIn_app (goodIn_of _ (by decide +kernel)) ggX4_nextWithoutKey_X4_hasKey
theorem dX4_nextWithoutKey_0 : decode cX4_nextWithoutKey 0 = .ok (.iconst 1, 1) := by decide +kernel
theorem dX4_nextWithoutKey_1 : decode cX4_nextWithoutKey 1 = .ok (.istore_n 2, 1) := by decide +kernel
theorem dX4_nextWithoutKey_2 : decode cX4_nextWithoutKey 2 = .ok (.iload_n 2, 1) := by decide +kernel
theorem dX4_nextWithoutKey_3 : decode cX4_nextWithoutKey 3 = .ok (.aload_n 0, 1) := by decide +kernel
theorem dX4_nextWithoutKey_4 : decode cX4_nextWithoutKey 4 = .ok (.getfield 46, 3) := by decide +kernel
theorem dX4_nextWithoutKey_7 : decode cX4_nextWithoutKey 7 = .ok (.getfield 131, 3) := by decide +kernel
theorem dX4_nextWithoutKey_10 : decode cX4_nextWithoutKey 10 = .ok (.if_icmp .ge 39, 3) := by decide +kernel
theorem dX4_nextWithoutKey_13 : decode cX4_nextWithoutKey 13 = .ok (.iload_n 1, 1) := by decide +kernel
theorem dX4_nextWithoutKey_14 : decode cX4_nextWithoutKey 14 = .ok (.iload_n 2, 1) := by decide +kernel
theorem dX4_nextWithoutKey_15 : decode cX4_nextWithoutKey 15 = .ok (.iadd, 1) := by decide +kernel
theorem dX4_nextWithoutKey_16 : decode cX4_nextWithoutKey 16 = .ok (.aload_n 0, 1) := by decide +kernel
theorem dX4_nextWithoutKey_17 : decode cX4_nextWithoutKey 17 = .ok (.getfield 46, 3) := by decide +kernel
theorem dX4_nextWithoutKey_20 : decode cX4_nextWithoutKey 20 = .ok (.getfield 131, 3) := by decide +kernel
theorem dX4_nextWithoutKey_23 : decode cX4_nextWithoutKey 23 = .ok (.irem, 1) := by decide +kernel
theorem dX4_nextWithoutKey_24 : decode cX4_nextWithoutKey 24 = .ok (.istore_n 3, 1) := by decide +kernel
theorem dX4_nextWithoutKey_25 : decode cX4_nextWithoutKey 25 = .ok (.aload_n 0, 1) := by decide +kernel
theorem dX4_nextWithoutKey_26 : decode cX4_nextWithoutKey 26 = .ok (.iload_n 3, 1) := by decide +kernel
theorem dX4_nextWithoutKey_27 : decode cX4_nextWithoutKey 27 = .ok (.invokevirtual 148, 3) := by decide +kernel
theorem dX4_nextWithoutKey_30 : decode cX4_nextWithoutKey 30 = .ok (.ifCond .ne 13, 3) := by decide +kernel
theorem dX4_nextWithoutKey_33 : decode cX4_nextWithoutKey 33 = .ok (.aload_n 0, 1) := by decide +kernel
theorem dX4_nextWithoutKey_34 : decode cX4_nextWithoutKey 34 = .ok (.iload_n 3, 1) := by decide +kernel
theorem dX4_nextWithoutKey_35 : decode cX4_nextWithoutKey 35 = .ok (.invokevirtual 154, 3) := by decide +kernel
theorem dX4_nextWithoutKey_38 : decode cX4_nextWithoutKey 38 = .ok (.ifCond .ne 5, 3) := by decide +kernel
theorem dX4_nextWithoutKey_41 : decode cX4_nextWithoutKey 41 = .ok (.iload_n 3, 1) := by decide +kernel
theorem dX4_nextWithoutKey_42 : decode cX4_nextWithoutKey 42 = .ok (.ireturn, 1) := by decide +kernel
theorem dX4_nextWithoutKey_43 : decode cX4_nextWithoutKey 43 = .ok (.iinc 2 1, 3) := by decide +kernel
theorem dX4_nextWithoutKey_46 : decode cX4_nextWithoutKey 46 = .ok (.goto (-44), 3) := by decide +kernel
theorem dX4_nextWithoutKey_49 : decode cX4_nextWithoutKey 49 = .ok (.iconst (-1), 1) := by decide +kernel
theorem dX4_nextWithoutKey_50 : decode cX4_nextWithoutKey 50 = .ok (.ireturn, 1) := by decide +kernel
theorem dX4_hasKey_0 : decode cX4_hasKey 0 = .ok (.aload_n 0, 1) := by decide +kernel
theorem dX4_hasKey_1 : decode cX4_hasKey 1 = .ok (.getfield 25, 3) := by decide +kernel
theorem dX4_hasKey_4 : decode cX4_hasKey 4 = .ok (.iconst 0, 1) := by decide +kernel
theorem dX4_hasKey_5 : decode cX4_hasKey 5 = .ok (.iaload, 1) := by decide +kernel
theorem dX4_hasKey_6 : decode cX4_hasKey 6 = .ok (.iload_n 1, 1) := by decide +kernel
theorem dX4_hasKey_7 : decode cX4_hasKey 7 = .ok (.if_icmp .eq 23, 3) := by decide +kernel
theorem dX4_hasKey_10 : decode cX4_hasKey 10 = .ok (.aload_n 0, 1) := by decide +kernel
theorem dX4_hasKey_11 : decode cX4_hasKey 11 = .ok (.getfield 25, 3) := by decide +kernel
theorem dX4_hasKey_14 : decode cX4_hasKey 14 = .ok (.iconst 1, 1) := by decide +kernel
theorem dX4_hasKey_15 : decode cX4_hasKey 15 = .ok (.iaload, 1) := by decide +kernel
theorem dX4_hasKey_16 : decode cX4_hasKey 16 = .ok (.iload_n 1, 1) := by decide +kernel
theorem dX4_hasKey_17 : decode cX4_hasKey 17 = .ok (.if_icmp .eq 13, 3) := by decide +kernel
theorem dX4_hasKey_20 : decode cX4_hasKey 20 = .ok (.aload_n 0, 1) := by decide +kernel
theorem dX4_hasKey_21 : decode cX4_hasKey 21 = .ok (.getfield 25, 3) := by decide +kernel
theorem dX4_hasKey_24 : decode cX4_hasKey 24 = .ok (.iconst 2, 1) := by decide +kernel
theorem dX4_hasKey_25 : decode cX4_hasKey 25 = .ok (.iaload, 1) := by decide +kernel
theorem dX4_hasKey_26 : decode cX4_hasKey 26 = .ok (.iload_n 1, 1) := by decide +kernel
theorem dX4_hasKey_27 : decode cX4_hasKey 27 = .ok (.if_icmp .ne 7, 3) := by decide +kernel
theorem dX4_hasKey_30 : decode cX4_hasKey 30 = .ok (.iconst 1, 1) := by decide +kernel
theorem dX4_hasKey_31 : decode cX4_hasKey 31 = .ok (.goto 4, 3) := by decide +kernel
theorem dX4_hasKey_34 : decode cX4_hasKey 34 = .ok (.iconst 0, 1) := by decide +kernel
theorem dX4_hasKey_35 : decode cX4_hasKey 35 = .ok (.ireturn, 1) := by decide +kernel
set_option maxRecDepth 20000 in
theorem ggX4_isOpen_X4_isThere : GoodIn wsX4_isOpen wsX4_isThere := goodIn_r _ [6, 7, 8, 9, 10, 11, 12, 13, 14, 15, 16, 17, 18, 19, 20, 21, 22] (by decide +kernel) (by decide +kernel)
set_option maxRecDepth 20000 in
theorem gX4_isOpen_X4_isThere : GoodIn wsX4_isOpen (wsV RX4 157 RX4 yX4_isThere wsX4_isThere) := goodIn_app (goodIn_of _ (by decide +kernel)) ggX4_isOpen_X4_isThere
theorem dX4_isOpen_0 : decode cX4_isOpen 0 = .ok (.iconst 0, 1) := by decide +kernel
theorem dX4_isOpen_1 : decode cX4_isOpen 1 = .ok (.istore_n 1, 1) := by decide +kernel
theorem dX4_isOpen_2 : decode cX4_isOpen 2 = .ok (.iconst 0, 1) := by decide +kernel
theorem dX4_isOpen_3 : decode cX4_isOpen 3 = .ok (.istore_n 2, 1) := by decide +kernel
theorem dX4_isOpen_4 : decode cX4_isOpen 4 = .ok (.iload_n 2, 1) := by decide +kernel
theorem dX4_isOpen_5 : decode cX4_isOpen 5 = .ok (.iconst 3, 1) := by decide +kernel
theorem dX4_isOpen_6 : decode cX4_isOpen 6 = .ok (.if_icmp .ge 36, 3) := by decide +kernel
theorem dX4_isOpen_9 : decode cX4_isOpen 9 = .ok (.aload_n 0, 1) := by decide +kernel
theorem dX4_isOpen_10 : decode cX4_isOpen 10 = .ok (.getfield 25, 3) := by decide +kernel
theorem dX4_isOpen_13 : decode cX4_isOpen 13 = .ok (.iload_n 2, 1) := by decide +kernel
theorem dX4_isOpen_14 : decode cX4_isOpen 14 = .ok (.iaload, 1) := by decide +kernel
theorem dX4_isOpen_15 : decode cX4_isOpen 15 = .ok (.iconst (-1), 1) := by decide +kernel
theorem dX4_isOpen_16 : decode cX4_isOpen 16 = .ok (.if_icmp .eq 20, 3) := by decide +kernel
theorem dX4_isOpen_19 : decode cX4_isOpen 19 = .ok (.iconst 1, 1) := by decide +kernel
theorem dX4_isOpen_20 : decode cX4_isOpen 20 = .ok (.istore_n 1, 1) := by decide +kernel
theorem dX4_isOpen_21 : decode cX4_isOpen 21 = .ok (.aload_n 0, 1) := by decide +kernel
theorem dX4_isOpen_22 : decode cX4_isOpen 22 = .ok (.aload_n 0, 1) := by decide +kernel
theorem dX4_isOpen_23 : decode cX4_isOpen 23 = .ok (.getfield 25, 3) := by decide +kernel
theorem dX4_isOpen_26 : decode cX4_isOpen 26 = .ok (.iload_n 2, 1) := by decide +kernel
theorem dX4_isOpen_27 : decode cX4_isOpen 27 = .ok (.iaload, 1) := by decide +kernel
theorem dX4_isOpen_28 : decode cX4_isOpen 28 = .ok (.invokevirtual 157, 3) := by decide +kernel
theorem dX4_isOpen_31 : decode cX4_isOpen 31 = .ok (.ifCond .ne 5, 3) := by decide +kernel
theorem dX4_isOpen_34 : decode cX4_isOpen 34 = .ok (.iconst 0, 1) := by decide +kernel
theorem dX4_isOpen_35 : decode cX4_isOpen 35 = .ok (.ireturn, 1) := by decide +kernel
theorem dX4_isOpen_36 : decode cX4_isOpen 36 = .ok (.iinc 2 1, 3) := by decide +kernel
theorem dX4_isOpen_39 : decode cX4_isOpen 39 = .ok (.goto (-35), 3) := by decide +kernel
theorem dX4_isOpen_42 : decode cX4_isOpen 42 = .ok (.iload_n 1, 1) := by decide +kernel
theorem dX4_isOpen_43 : decode cX4_isOpen 43 = .ok (.ireturn, 1) := by decide +kernel
theorem dX4_isThere_0 : decode cX4_isThere 0 = .ok (.aload_n 0, 1) := by decide +kernel
theorem dX4_isThere_1 : decode cX4_isThere 1 = .ok (.getfield 95, 3) := by decide +kernel
theorem dX4_isThere_4 : decode cX4_isThere 4 = .ok (.iload_n 1, 1) := by decide +kernel
theorem dX4_isThere_5 : decode cX4_isThere 5 = .ok (.ishr, 1) := by decide +kernel
theorem dX4_isThere_6 : decode cX4_isThere 6 = .ok (.iconst 1, 1) := by decide +kernel
theorem dX4_isThere_7 : decode cX4_isThere 7 = .ok (.iand, 1) := by decide +kernel
theorem dX4_isThere_8 : decode cX4_isThere 8 = .ok (.iconst 1, 1) := by decide +kernel
theorem dX4_isThere_9 : decode cX4_isThere 9 = .ok (.if_icmp .ne 7, 3) := by decide +kernel
theorem dX4_isThere_12 : decode cX4_isThere 12 = .ok (.iconst 1, 1) := by decide +kernel
theorem dX4_isThere_13 : decode cX4_isThere 13 = .ok (.goto 4, 3) := by decide +kernel
theorem dX4_isThere_16 : decode cX4_isThere 16 = .ok (.iconst 0, 1) := by decide +kernel
theorem dX4_isThere_17 : decode cX4_isThere 17 = .ok (.ireturn, 1) := by decide +kernel
theorem dX4_isGone_0 : decode cX4_isGone 0 = .ok (.aload_n 0, 1) := by decide +kernel
theorem dX4_isGone_1 : decode cX4_isGone 1 = .ok (.getfield 15, 3) := by decide +kernel
theorem dX4_isGone_4 : decode cX4_isGone 4 = .ok (.bipush 7, 2) := by decide +kernel
theorem dX4_isGone_6 : decode cX4_isGone 6 = .ok (.aaload, 1) := by decide +kernel
theorem dX4_isGone_7 : decode cX4_isGone 7 = .ok (.iload_n 1, 1) := by decide +kernel
theorem dX4_isGone_8 : decode cX4_isGone 8 = .ok (.iaload, 1) := by decide +kernel
theorem dX4_isGone_9 : decode cX4_isGone 9 = .ok (.iconst 1, 1) := by decide +kernel
theorem dX4_isGone_10 : decode cX4_isGone 10 = .ok (.if_icmp .ne 7, 3) := by decide +kernel
theorem dX4_isGone_13 : decode cX4_isGone 13 = .ok (.iconst 1, 1) := by decide +kernel
theorem dX4_isGone_14 : decode cX4_isGone 14 = .ok (.goto 4, 3) := by decide +kernel
theorem dX4_isGone_17 : decode cX4_isGone 17 = .ok (.iconst 0, 1) := by decide +kernel
theorem dX4_isGone_18 : decode cX4_isGone 18 = .ok (.ireturn, 1) := by decide +kernel
set_option maxRecDepth 20000 in
theorem ggX4_collectDues_X4_isGone : GoodIn wsX4_collectDues wsX4_isGone := goodIn_r _ [7, 8, 25, 26, 27, 28, 29, 30, 31, 32, 33, 34, 35, 36, 37, 38, 39] (by decide +kernel) (by decide +kernel)
set_option maxRecDepth 20000 in
theorem gX4_collectDues_X4_isGone : GoodIn wsX4_collectDues (wsV RX4 148 RX4 yX4_isGone wsX4_isGone) := goodIn_app (goodIn_of _ (by decide +kernel)) ggX4_collectDues_X4_isGone
set_option maxRecDepth 20000 in
theorem ggX4_collectDues_X4_isThere : GoodIn wsX4_collectDues wsX4_isThere := goodIn_r _ [12, 13, 25, 26, 27, 28, 29, 30, 31, 32, 33, 34, 35, 36, 37, 38, 39] (by decide +kernel) (by decide +kernel)
set_option maxRecDepth 20000 in
theorem gX4_collectDues_X4_isThere : GoodIn wsX4_collectDues (wsV RX4 157 RX4 yX4_isThere wsX4_isThere) := goodIn_app (goodIn_of _ (by decide +kernel)) ggX4_collectDues_X4_isThere
set_option maxRecDepth 20000 in
theorem ggX4_collectDues_X2_of : GoodIn wsX4_collectDues wsX2_of := goodIn_r _ [18, 19, 47] (by decide +kernel) (by decide +kernel)
set_option maxRecDepth 20000 in
theorem gX4_collectDues_X2_of : GoodIn wsX4_collectDues (wsV RX4 139 RX2 yX2_of wsX2_of) := goodIn_app (goodIn_of _ (by decide +kernel)) ggX4_collectDues_X2_of
set_option maxRecDepth 20000 in
theorem ggX4_collectDues_X4_payDue : GoodIn wsX4_collectDues wsX4_payDue := goodIn_r _ [23, 24, 8, 25, 26, 27, 28, 29, 30, 31, 32, 33, 34, 35, 36, 37, 38, 39] (by decide +kernel) (by decide +kernel)
set_option maxRecDepth 20000 in
theorem gX4_collectDues_X4_payDue : GoodIn wsX4_collectDues (wsV RX4 160 RX4 yX4_payDue wsX4_payDue) := goodIn_app (goodIn_of _ (by decide +kernel)) ggX4_collectDues_X4_payDue
theorem dX4_collectDues_0 : decode cX4_collectDues 0 = .ok (.iconst 0, 1) := by decide +kernel
theorem dX4_collectDues_1 : decode cX4_collectDues 1 = .ok (.istore_n 1, 1) := by decide +kernel
theorem dX4_collectDues_2 : decode cX4_collectDues 2 = .ok (.iload_n 1, 1) := by decide +kernel
theorem dX4_collectDues_3 : decode cX4_collectDues 3 = .ok (.aload_n 0, 1) := by decide +kernel
theorem dX4_collectDues_4 : decode cX4_collectDues 4 = .ok (.getfield 46, 3) := by decide +kernel
theorem dX4_collectDues_7 : decode cX4_collectDues 7 = .ok (.getfield 131, 3) := by decide +kernel
theorem dX4_collectDues_10 : decode cX4_collectDues 10 = .ok (.if_icmp .ge 61, 3) := by decide +kernel
theorem dX4_collectDues_13 : decode cX4_collectDues 13 = .ok (.aload_n 0, 1) := by decide +kernel
theorem dX4_collectDues_14 : decode cX4_collectDues 14 = .ok (.iload_n 1, 1) := by decide +kernel
theorem dX4_collectDues_15 : decode cX4_collectDues 15 = .ok (.invokevirtual 148, 3) := by decide +kernel
theorem dX4_collectDues_18 : decode cX4_collectDues 18 = .ok (.ifCond .eq 6, 3) := by decide +kernel
theorem dX4_collectDues_21 : decode cX4_collectDues 21 = .ok (.goto 44, 3) := by decide +kernel
theorem dX4_collectDues_24 : decode cX4_collectDues 24 = .ok (.aload_n 0, 1) := by decide +kernel
theorem dX4_collectDues_25 : decode cX4_collectDues 25 = .ok (.iload_n 1, 1) := by decide +kernel
theorem dX4_collectDues_26 : decode cX4_collectDues 26 = .ok (.invokevirtual 157, 3) := by decide +kernel
theorem dX4_collectDues_29 : decode cX4_collectDues 29 = .ok (.ifCond .eq 21, 3) := by decide +kernel
theorem dX4_collectDues_32 : decode cX4_collectDues 32 = .ok (.aload_n 0, 1) := by decide +kernel
theorem dX4_collectDues_33 : decode cX4_collectDues 33 = .ok (.iload_n 1, 1) := by decide +kernel
theorem dX4_collectDues_34 : decode cX4_collectDues 34 = .ok (.aload_n 0, 1) := by decide +kernel
theorem dX4_collectDues_35 : decode cX4_collectDues 35 = .ok (.getfield 50, 3) := by decide +kernel
theorem dX4_collectDues_38 : decode cX4_collectDues 38 = .ok (.bipush 8, 2) := by decide +kernel
theorem dX4_collectDues_40 : decode cX4_collectDues 40 = .ok (.invokevirtual 139, 3) := by decide +kernel
theorem dX4_collectDues_43 : decode cX4_collectDues 43 = .ok (.iconst 3, 1) := by decide +kernel
theorem dX4_collectDues_44 : decode cX4_collectDues 44 = .ok (.invokevirtual 160, 3) := by decide +kernel
theorem dX4_collectDues_47 : decode cX4_collectDues 47 = .ok (.goto 18, 3) := by decide +kernel
theorem dX4_collectDues_50 : decode cX4_collectDues 50 = .ok (.aload_n 0, 1) := by decide +kernel
theorem dX4_collectDues_51 : decode cX4_collectDues 51 = .ok (.iload_n 1, 1) := by decide +kernel
theorem dX4_collectDues_52 : decode cX4_collectDues 52 = .ok (.aload_n 0, 1) := by decide +kernel
theorem dX4_collectDues_53 : decode cX4_collectDues 53 = .ok (.getfield 50, 3) := by decide +kernel
theorem dX4_collectDues_56 : decode cX4_collectDues 56 = .ok (.bipush 7, 2) := by decide +kernel
theorem dX4_collectDues_58 : decode cX4_collectDues 58 = .ok (.invokevirtual 139, 3) := by decide +kernel
theorem dX4_collectDues_61 : decode cX4_collectDues 61 = .ok (.iconst 2, 1) := by decide +kernel
theorem dX4_collectDues_62 : decode cX4_collectDues 62 = .ok (.invokevirtual 160, 3) := by decide +kernel
theorem dX4_collectDues_65 : decode cX4_collectDues 65 = .ok (.iinc 1 1, 3) := by decide +kernel
theorem dX4_collectDues_68 : decode cX4_collectDues 68 = .ok (.goto (-66), 3) := by decide +kernel
theorem dX4_collectDues_71 : decode cX4_collectDues 71 = .ok (.return_, 1) := by decide +kernel
set_option maxRecDepth 20000 in
theorem ggX4_growFallingLoans_X2_of : GoodIn wsX4_growFallingLoans wsX2_of := goodIn_r _ [8, 9, 48] (by decide +kernel) (by decide +kernel)
set_option maxRecDepth 20000 in
theorem gX4_growFallingLoans_X2_of : GoodIn wsX4_growFallingLoans (wsV RX4 139 RX2 yX2_of wsX2_of) := goodIn_app (goodIn_of _ (by decide +kernel)) ggX4_growFallingLoans_X2_of
set_option maxRecDepth 20000 in
theorem ggX4_growFallingLoans_X4_growFallingLoan : GoodIn wsX4_growFallingLoans wsX4_growFallingLoan := goodIn_r _ [14, 15, 16, 3, 17, 18, 13, 19, 20, 21, 22, 23, 24, 25, 26, 27, 28, 29, 30, 31, 32, 33, 34, 35, 36, 37, 38, 39, 40] (by decide +kernel) (by decide +kernel)
set_option maxRecDepth 20000 in
theorem gX4_growFallingLoans_X4_growFallingLoan : GoodIn wsX4_growFallingLoans (wsV RX4 164 RX4 yX4_growFallingLoan wsX4_growFallingLoan) := goodIn_app (goodIn_of _ (by decide +kernel)) ggX4_growFallingLoans_X4_growFallingLoan
theorem dX4_growFallingLoans_0 : decode cX4_growFallingLoans 0 = .ok (.aload_n 0, 1) := by decide +kernel
theorem dX4_growFallingLoans_1 : decode cX4_growFallingLoans 1 = .ok (.getfield 50, 3) := by decide +kernel
theorem dX4_growFallingLoans_4 : decode cX4_growFallingLoans 4 = .ok (.iconst 4, 1) := by decide +kernel
theorem dX4_growFallingLoans_5 : decode cX4_growFallingLoans 5 = .ok (.invokevirtual 139, 3) := by decide +kernel
theorem dX4_growFallingLoans_8 : decode cX4_growFallingLoans 8 = .ok (.istore_n 1, 1) := by decide +kernel
theorem dX4_growFallingLoans_9 : decode cX4_growFallingLoans 9 = .ok (.iload_n 1, 1) := by decide +kernel
theorem dX4_growFallingLoans_10 : decode cX4_growFallingLoans 10 = .ok (.iconst (-1), 1) := by decide +kernel
theorem dX4_growFallingLoans_11 : decode cX4_growFallingLoans 11 = .ok (.if_icmp .ne 4, 3) := by decide +kernel
theorem dX4_growFallingLoans_14 : decode cX4_growFallingLoans 14 = .ok (.return_, 1) := by decide +kernel
theorem dX4_growFallingLoans_15 : decode cX4_growFallingLoans 15 = .ok (.iconst 0, 1) := by decide +kernel
theorem dX4_growFallingLoans_16 : decode cX4_growFallingLoans 16 = .ok (.istore_n 2, 1) := by decide +kernel
theorem dX4_growFallingLoans_17 : decode cX4_growFallingLoans 17 = .ok (.iload_n 2, 1) := by decide +kernel
theorem dX4_growFallingLoans_18 : decode cX4_growFallingLoans 18 = .ok (.aload_n 0, 1) := by decide +kernel
theorem dX4_growFallingLoans_19 : decode cX4_growFallingLoans 19 = .ok (.getfield 46, 3) := by decide +kernel
theorem dX4_growFallingLoans_22 : decode cX4_growFallingLoans 22 = .ok (.getfield 131, 3) := by decide +kernel
theorem dX4_growFallingLoans_25 : decode cX4_growFallingLoans 25 = .ok (.if_icmp .ge 26, 3) := by decide +kernel
theorem dX4_growFallingLoans_28 : decode cX4_growFallingLoans 28 = .ok (.aload_n 0, 1) := by decide +kernel
theorem dX4_growFallingLoans_29 : decode cX4_growFallingLoans 29 = .ok (.getfield 15, 3) := by decide +kernel
theorem dX4_growFallingLoans_32 : decode cX4_growFallingLoans 32 = .ok (.iconst 1, 1) := by decide +kernel
theorem dX4_growFallingLoans_33 : decode cX4_growFallingLoans 33 = .ok (.aaload, 1) := by decide +kernel
theorem dX4_growFallingLoans_34 : decode cX4_growFallingLoans 34 = .ok (.iload_n 2, 1) := by decide +kernel
theorem dX4_growFallingLoans_35 : decode cX4_growFallingLoans 35 = .ok (.iaload, 1) := by decide +kernel
theorem dX4_growFallingLoans_36 : decode cX4_growFallingLoans 36 = .ok (.ifCond .le 9, 3) := by decide +kernel
theorem dX4_growFallingLoans_39 : decode cX4_growFallingLoans 39 = .ok (.aload_n 0, 1) := by decide +kernel
theorem dX4_growFallingLoans_40 : decode cX4_growFallingLoans 40 = .ok (.iload_n 2, 1) := by decide +kernel
theorem dX4_growFallingLoans_41 : decode cX4_growFallingLoans 41 = .ok (.iload_n 1, 1) := by decide +kernel
theorem dX4_growFallingLoans_42 : decode cX4_growFallingLoans 42 = .ok (.invokevirtual 164, 3) := by decide +kernel
theorem dX4_growFallingLoans_45 : decode cX4_growFallingLoans 45 = .ok (.iinc 2 1, 3) := by decide +kernel
theorem dX4_growFallingLoans_48 : decode cX4_growFallingLoans 48 = .ok (.goto (-31), 3) := by decide +kernel
theorem dX4_growFallingLoans_51 : decode cX4_growFallingLoans 51 = .ok (.return_, 1) := by decide +kernel
set_option maxRecDepth 20000 in
theorem ggX4_growFallingLoan_X4_hundredths : GoodIn wsX4_growFallingLoan wsX4_hundredths := goodIn_r _ [7, 8] (by decide +kernel) (by decide +kernel)
set_option maxRecDepth 20000 in
theorem gX4_growFallingLoan_X4_hundredths : GoodIn wsX4_growFallingLoan (va_wsS RX4 168 yX4_hundredths wsX4_hundredths) := goodIn_app (goodIn_of _ (by decide +kernel)) ggX4_growFallingLoan_X4_hundredths
set_option maxRecDepth 20000 in
theorem ggX4_growFallingLoan_X4_putInterest : GoodIn wsX4_growFallingLoan wsX4_putInterest := goodIn_r _ [12, 3, 13, 14, 15, 16, 17, 18, 19, 20, 21, 22, 23, 24, 25, 26, 27, 28] (by decide +kernel) (by decide +kernel)
set_option maxRecDepth 20000 in
theorem gX4_growFallingLoan_X4_putInterest : GoodIn wsX4_growFallingLoan (wsV RX4 171 RX4 yX4_putInterest wsX4_putInterest) := goodIn_app (goodIn_of _ (by decide +kernel)) ggX4_growFallingLoan_X4_putInterest
theorem dX4_growFallingLoan_0 : decode cX4_growFallingLoan 0 = .ok (.aload_n 0, 1) := by decide +kernel
theorem dX4_growFallingLoan_1 : decode cX4_growFallingLoan 1 = .ok (.getfield 31, 3) := by decide +kernel
theorem dX4_growFallingLoan_4 : decode cX4_growFallingLoan 4 = .ok (.iload_n 1, 1) := by decide +kernel
theorem dX4_growFallingLoan_5 : decode cX4_growFallingLoan 5 = .ok (.iaload, 1) := by decide +kernel
theorem dX4_growFallingLoan_6 : decode cX4_growFallingLoan 6 = .ok (.iconst 4, 1) := by decide +kernel
theorem dX4_growFallingLoan_7 : decode cX4_growFallingLoan 7 = .ok (.iadd, 1) := by decide +kernel
theorem dX4_growFallingLoan_8 : decode cX4_growFallingLoan 8 = .ok (.istore_n 3, 1) := by decide +kernel
theorem dX4_growFallingLoan_9 : decode cX4_growFallingLoan 9 = .ok (.iload_n 3, 1) := by decide +kernel
theorem dX4_growFallingLoan_10 : decode cX4_growFallingLoan 10 = .ok (.aload_n 0, 1) := by decide +kernel
theorem dX4_growFallingLoan_11 : decode cX4_growFallingLoan 11 = .ok (.getfield 89, 3) := by decide +kernel
theorem dX4_growFallingLoan_14 : decode cX4_growFallingLoan 14 = .ok (.if_icmp .gt 33, 3) := by decide +kernel
theorem dX4_growFallingLoan_17 : decode cX4_growFallingLoan 17 = .ok (.aload_n 0, 1) := by decide +kernel
theorem dX4_growFallingLoan_18 : decode cX4_growFallingLoan 18 = .ok (.iload_n 1, 1) := by decide +kernel
theorem dX4_growFallingLoan_19 : decode cX4_growFallingLoan 19 = .ok (.aload_n 0, 1) := by decide +kernel
theorem dX4_growFallingLoan_20 : decode cX4_growFallingLoan 20 = .ok (.getfield 15, 3) := by decide +kernel
theorem dX4_growFallingLoan_23 : decode cX4_growFallingLoan 23 = .ok (.iconst 1, 1) := by decide +kernel
theorem dX4_growFallingLoan_24 : decode cX4_growFallingLoan 24 = .ok (.aaload, 1) := by decide +kernel
theorem dX4_growFallingLoan_25 : decode cX4_growFallingLoan 25 = .ok (.iload_n 1, 1) := by decide +kernel
theorem dX4_growFallingLoan_26 : decode cX4_growFallingLoan 26 = .ok (.iaload, 1) := by decide +kernel
theorem dX4_growFallingLoan_27 : decode cX4_growFallingLoan 27 = .ok (.iload_n 2, 1) := by decide +kernel
theorem dX4_growFallingLoan_28 : decode cX4_growFallingLoan 28 = .ok (.invokestatic 168, 3) := by decide +kernel
theorem dX4_growFallingLoan_31 : decode cX4_growFallingLoan 31 = .ok (.invokevirtual 171, 3) := by decide +kernel
theorem dX4_growFallingLoan_34 : decode cX4_growFallingLoan 34 = .ok (.aload_n 0, 1) := by decide +kernel
theorem dX4_growFallingLoan_35 : decode cX4_growFallingLoan 35 = .ok (.getfield 31, 3) := by decide +kernel
theorem dX4_growFallingLoan_38 : decode cX4_growFallingLoan 38 = .ok (.iload_n 1, 1) := by decide +kernel
theorem dX4_growFallingLoan_39 : decode cX4_growFallingLoan 39 = .ok (.iload_n 3, 1) := by decide +kernel
theorem dX4_growFallingLoan_40 : decode cX4_growFallingLoan 40 = .ok (.iastore, 1) := by decide +kernel
theorem dX4_growFallingLoan_41 : decode cX4_growFallingLoan 41 = .ok (.iinc 3 4, 3) := by decide +kernel
theorem dX4_growFallingLoan_44 : decode cX4_growFallingLoan 44 = .ok (.goto (-35), 3) := by decide +kernel
theorem dX4_growFallingLoan_47 : decode cX4_growFallingLoan 47 = .ok (.return_, 1) := by decide +kernel
set_option maxRecDepth 20000 in
theorem ggX4_collectLateDues_X2_of : GoodIn wsX4_collectLateDues wsX2_of := goodIn_r _ [10, 11, 40] (by decide +kernel) (by decide +kernel)
set_option maxRecDepth 20000 in
theorem gX4_collectLateDues_X2_of : GoodIn wsX4_collectLateDues (wsV RX4 139 RX2 yX2_of wsX2_of) := goodIn_app (goodIn_of _ (by decide +kernel)) ggX4_collectLateDues_X2_of
set_option maxRecDepth 20000 in
theorem ggX4_collectLateDues_X4_payDue : GoodIn wsX4_collectLateDues wsX4_payDue := goodIn_r _ [16, 17, 2, 18, 19, 20, 21, 22, 23, 24, 25, 26, 27, 28, 29, 30, 31, 32] (by decide +kernel) (by decide +kernel)
set_option maxRecDepth 20000 in
theorem gX4_collectLateDues_X4_payDue : GoodIn wsX4_collectLateDues (wsV RX4 160 RX4 yX4_payDue wsX4_payDue) := goodIn_app (goodIn_of _ (by decide +kernel)) ggX4_collectLateDues_X4_payDue
theorem dX4_collectLateDues_0 : decode cX4_collectLateDues 0 = .ok (.iconst 0, 1) := by decide +kernel
theorem dX4_collectLateDues_1 : decode cX4_collectLateDues 1 = .ok (.istore_n 1, 1) := by decide +kernel
theorem dX4_collectLateDues_2 : decode cX4_collectLateDues 2 = .ok (.iload_n 1, 1) := by decide +kernel
theorem dX4_collectLateDues_3 : decode cX4_collectLateDues 3 = .ok (.aload_n 0, 1) := by decide +kernel
theorem dX4_collectLateDues_4 : decode cX4_collectLateDues 4 = .ok (.getfield 46, 3) := by decide +kernel
theorem dX4_collectLateDues_7 : decode cX4_collectLateDues 7 = .ok (.getfield 131, 3) := by decide +kernel
theorem dX4_collectLateDues_10 : decode cX4_collectLateDues 10 = .ok (.if_icmp .ge 57, 3) := by decide +kernel
theorem dX4_collectLateDues_13 : decode cX4_collectLateDues 13 = .ok (.aload_n 0, 1) := by decide +kernel
theorem dX4_collectLateDues_14 : decode cX4_collectLateDues 14 = .ok (.getfield 15, 3) := by decide +kernel
theorem dX4_collectLateDues_17 : decode cX4_collectLateDues 17 = .ok (.iconst 1, 1) := by decide +kernel
theorem dX4_collectLateDues_18 : decode cX4_collectLateDues 18 = .ok (.aaload, 1) := by decide +kernel
theorem dX4_collectLateDues_19 : decode cX4_collectLateDues 19 = .ok (.iload_n 1, 1) := by decide +kernel
theorem dX4_collectLateDues_20 : decode cX4_collectLateDues 20 = .ok (.iaload, 1) := by decide +kernel
theorem dX4_collectLateDues_21 : decode cX4_collectLateDues 21 = .ok (.ifCond .le 40, 3) := by decide +kernel
theorem dX4_collectLateDues_24 : decode cX4_collectLateDues 24 = .ok (.aload_n 0, 1) := by decide +kernel
theorem dX4_collectLateDues_25 : decode cX4_collectLateDues 25 = .ok (.getfield 89, 3) := by decide +kernel
theorem dX4_collectLateDues_28 : decode cX4_collectLateDues 28 = .ok (.aload_n 0, 1) := by decide +kernel
theorem dX4_collectLateDues_29 : decode cX4_collectLateDues 29 = .ok (.getfield 28, 3) := by decide +kernel
theorem dX4_collectLateDues_32 : decode cX4_collectLateDues 32 = .ok (.iload_n 1, 1) := by decide +kernel
theorem dX4_collectLateDues_33 : decode cX4_collectLateDues 33 = .ok (.iaload, 1) := by decide +kernel
theorem dX4_collectLateDues_34 : decode cX4_collectLateDues 34 = .ok (.isub, 1) := by decide +kernel
theorem dX4_collectLateDues_35 : decode cX4_collectLateDues 35 = .ok (.aload_n 0, 1) := by decide +kernel
theorem dX4_collectLateDues_36 : decode cX4_collectLateDues 36 = .ok (.getfield 50, 3) := by decide +kernel
theorem dX4_collectLateDues_39 : decode cX4_collectLateDues 39 = .ok (.iconst 5, 1) := by decide +kernel
theorem dX4_collectLateDues_40 : decode cX4_collectLateDues 40 = .ok (.invokevirtual 139, 3) := by decide +kernel
theorem dX4_collectLateDues_43 : decode cX4_collectLateDues 43 = .ok (.if_icmp .lt 18, 3) := by decide +kernel
theorem dX4_collectLateDues_46 : decode cX4_collectLateDues 46 = .ok (.aload_n 0, 1) := by decide +kernel
theorem dX4_collectLateDues_47 : decode cX4_collectLateDues 47 = .ok (.iload_n 1, 1) := by decide +kernel
theorem dX4_collectLateDues_48 : decode cX4_collectLateDues 48 = .ok (.aload_n 0, 1) := by decide +kernel
theorem dX4_collectLateDues_49 : decode cX4_collectLateDues 49 = .ok (.getfield 50, 3) := by decide +kernel
theorem dX4_collectLateDues_52 : decode cX4_collectLateDues 52 = .ok (.bipush 6, 2) := by decide +kernel
theorem dX4_collectLateDues_54 : decode cX4_collectLateDues 54 = .ok (.invokevirtual 139, 3) := by decide +kernel
theorem dX4_collectLateDues_57 : decode cX4_collectLateDues 57 = .ok (.iconst 2, 1) := by decide +kernel
theorem dX4_collectLateDues_58 : decode cX4_collectLateDues 58 = .ok (.invokevirtual 160, 3) := by decide +kernel
theorem dX4_collectLateDues_61 : decode cX4_collectLateDues 61 = .ok (.iinc 1 1, 3) := by decide +kernel
theorem dX4_collectLateDues_64 : decode cX4_collectLateDues 64 = .ok (.goto (-62), 3) := by decide +kernel
theorem dX4_collectLateDues_67 : decode cX4_collectLateDues 67 = .ok (.return_, 1) := by decide +kernel
theorem dX4_payDue_0 : decode cX4_payDue 0 = .ok (.aload_n 0, 1) := by decide +kernel
theorem dX4_payDue_1 : decode cX4_payDue 1 = .ok (.getfield 21, 3) := by decide +kernel
theorem dX4_payDue_4 : decode cX4_payDue 4 = .ok (.iload_n 3, 1) := by decide +kernel
theorem dX4_payDue_5 : decode cX4_payDue 5 = .ok (.dup2, 1) := by decide +kernel
theorem dX4_payDue_6 : decode cX4_payDue 6 = .ok (.iaload, 1) := by decide +kernel
theorem dX4_payDue_7 : decode cX4_payDue 7 = .ok (.iload_n 2, 1) := by decide +kernel
theorem dX4_payDue_8 : decode cX4_payDue 8 = .ok (.iadd, 1) := by decide +kernel
theorem dX4_payDue_9 : decode cX4_payDue 9 = .ok (.iastore, 1) := by decide +kernel
theorem dX4_payDue_10 : decode cX4_payDue 10 = .ok (.aload_n 0, 1) := by decide +kernel
theorem dX4_payDue_11 : decode cX4_payDue 11 = .ok (.getfield 15, 3) := by decide +kernel
theorem dX4_payDue_14 : decode cX4_payDue 14 = .ok (.iconst 4, 1) := by decide +kernel
theorem dX4_payDue_15 : decode cX4_payDue 15 = .ok (.aaload, 1) := by decide +kernel
theorem dX4_payDue_16 : decode cX4_payDue 16 = .ok (.iload_n 1, 1) := by decide +kernel
theorem dX4_payDue_17 : decode cX4_payDue 17 = .ok (.dup2, 1) := by decide +kernel
theorem dX4_payDue_18 : decode cX4_payDue 18 = .ok (.iaload, 1) := by decide +kernel
theorem dX4_payDue_19 : decode cX4_payDue 19 = .ok (.iload_n 2, 1) := by decide +kernel
theorem dX4_payDue_20 : decode cX4_payDue 20 = .ok (.iadd, 1) := by decide +kernel
theorem dX4_payDue_21 : decode cX4_payDue 21 = .ok (.iastore, 1) := by decide +kernel
theorem dX4_payDue_22 : decode cX4_payDue 22 = .ok (.return_, 1) := by decide +kernel
theorem dX4_putInterest_0 : decode cX4_putInterest 0 = .ok (.aload_n 0, 1) := by decide +kernel
theorem dX4_putInterest_1 : decode cX4_putInterest 1 = .ok (.getfield 15, 3) := by decide +kernel
theorem dX4_putInterest_4 : decode cX4_putInterest 4 = .ok (.iconst 1, 1) := by decide +kernel
theorem dX4_putInterest_5 : decode cX4_putInterest 5 = .ok (.aaload, 1) := by decide +kernel
theorem dX4_putInterest_6 : decode cX4_putInterest 6 = .ok (.iload_n 1, 1) := by decide +kernel
theorem dX4_putInterest_7 : decode cX4_putInterest 7 = .ok (.dup2, 1) := by decide +kernel
theorem dX4_putInterest_8 : decode cX4_putInterest 8 = .ok (.iaload, 1) := by decide +kernel
theorem dX4_putInterest_9 : decode cX4_putInterest 9 = .ok (.iload_n 2, 1) := by decide +kernel
theorem dX4_putInterest_10 : decode cX4_putInterest 10 = .ok (.iadd, 1) := by decide +kernel
theorem dX4_putInterest_11 : decode cX4_putInterest 11 = .ok (.iastore, 1) := by decide +kernel
theorem dX4_putInterest_12 : decode cX4_putInterest 12 = .ok (.aload_n 0, 1) := by decide +kernel
theorem dX4_putInterest_13 : decode cX4_putInterest 13 = .ok (.getfield 21, 3) := by decide +kernel
theorem dX4_putInterest_16 : decode cX4_putInterest 16 = .ok (.bipush 11, 2) := by decide +kernel
theorem dX4_putInterest_18 : decode cX4_putInterest 18 = .ok (.dup2, 1) := by decide +kernel
theorem dX4_putInterest_19 : decode cX4_putInterest 19 = .ok (.iaload, 1) := by decide +kernel
theorem dX4_putInterest_20 : decode cX4_putInterest 20 = .ok (.iload_n 2, 1) := by decide +kernel
theorem dX4_putInterest_21 : decode cX4_putInterest 21 = .ok (.iadd, 1) := by decide +kernel
theorem dX4_putInterest_22 : decode cX4_putInterest 22 = .ok (.iastore, 1) := by decide +kernel
theorem dX4_putInterest_23 : decode cX4_putInterest 23 = .ok (.return_, 1) := by decide +kernel
set_option maxRecDepth 20000 in
theorem ggX4_doEntry_X4_takeFrom : GoodIn wsX4_doEntry wsX4_takeFrom := goodIn_r _ [7, 1, 8, 9, 10, 11, 75, 76, 77, 78, 79, 80, 81, 82, 83, 84, 85, 86, 87, 88, 89] (by decide +kernel) (by decide +kernel)
set_option maxRecDepth 20000 in
theorem gX4_doEntry_X4_takeFrom : GoodIn wsX4_doEntry (wsV RX4 174 RX4 yX4_takeFrom wsX4_takeFrom) := goodIn_app (goodIn_of _ (by decide +kernel)) ggX4_doEntry_X4_takeFrom
set_option maxRecDepth 20000 in
theorem ggX4_doEntry_X4_isGone : GoodIn wsX4_doEntry wsX4_isGone := goodIn_r _ [15, 16, 75, 76, 77, 78, 79, 80, 81, 82, 83, 84, 85, 86, 87, 88, 89] (by decide +kernel) (by decide +kernel)
set_option maxRecDepth 20000 in
theorem gX4_doEntry_X4_isGone : GoodIn wsX4_doEntry (wsV RX4 148 RX4 yX4_isGone wsX4_isGone) := goodIn_app (goodIn_of _ (by decide +kernel)) ggX4_doEntry_X4_isGone
set_option maxRecDepth 20000 in
theorem ggX4_doEntry_X2_of : GoodIn wsX4_doEntry wsX2_of := goodIn_r _ [21, 22, 90] (by decide +kernel) (by decide +kernel)
set_option maxRecDepth 20000 in
theorem gX4_doEntry_X2_of : GoodIn wsX4_doEntry (wsV RX4 139 RX2 yX2_of wsX2_of) := goodIn_app (goodIn_of _ (by decide +kernel)) ggX4_doEntry_X2_of
set_option maxRecDepth 20000 in
theorem ggX4_doEntry_X4_leave : GoodIn wsX4_doEntry wsX4_leave := goodIn_r _ [26, 1, 16, 27, 28, 10, 29, 30, 31, 32, 33, 6, 34, 35, 36, 37, 38, 3, 4, 5, 7, 8, 9, 11, 39, 40, 41, 42, 43, 44, 75, 76, 77, 78, 79, 80, 81, 82, 83, 84, 85, 86, 87, 88, 89, 91, 92, 93, 94, 95, 96, 97] (by decide +kernel) (by decide +kernel)
set_option maxRecDepth 20000 in
theorem gX4_doEntry_X4_leave : GoodIn wsX4_doEntry (wsV RX4 177 RX4 yX4_leave wsX4_leave) := goodIn_app (goodIn_of _ (by decide +kernel)) ggX4_doEntry_X4_leave
set_option maxRecDepth 20000 in
theorem ggX4_doEntry_X4_isThere : GoodIn wsX4_doEntry wsX4_isThere := goodIn_r _ [48, 49, 75, 76, 77, 78, 79, 80, 81, 82, 83, 84, 85, 86, 87, 88, 89] (by decide +kernel) (by decide +kernel)
set_option maxRecDepth 20000 in
theorem gX4_doEntry_X4_isThere : GoodIn wsX4_doEntry (wsV RX4 157 RX4 yX4_isThere wsX4_isThere) := goodIn_app (goodIn_of _ (by decide +kernel)) ggX4_doEntry_X4_isThere
set_option maxRecDepth 20000 in
theorem ggX4_doEntry_X4_doEntryOfOneThere : GoodIn wsX4_doEntry wsX4_doEntryOfOneThere := goodIn_r _ [53, 54, 55, 56, 6, 57, 2, 58, 8, 9, 10, 11, 16, 1, 17, 18, 19, 20, 21, 22, 59, 60, 61, 62, 30, 43, 44, 63, 64, 65, 66, 67, 68, 69, 70, 71, 72, 73, 74, 75, 76, 77, 78, 79, 80, 81, 82, 83, 84, 85, 86, 87, 88, 89, 90] (by decide +kernel) (by decide +kernel)
set_option maxRecDepth 20000 in
theorem gX4_doEntry_X4_doEntryOfOneThere : GoodIn wsX4_doEntry (wsV RX4 180 RX4 yX4_doEntryOfOneThere wsX4_doEntryOfOneThere) := goodIn_app (goodIn_of _ (by decide +kernel)) ggX4_doEntry_X4_doEntryOfOneThere
theorem dX4_doEntry_0 : decode cX4_doEntry 0 = .ok (.iload_n 1, 1) := by decide +kernel
theorem dX4_doEntry_1 : decode cX4_doEntry 1 = .ok (.bipush 7, 2) := by decide +kernel
theorem dX4_doEntry_3 : decode cX4_doEntry 3 = .ok (.if_icmp .ne 20, 3) := by decide +kernel
theorem dX4_doEntry_6 : decode cX4_doEntry 6 = .ok (.aload_n 0, 1) := by decide +kernel
theorem dX4_doEntry_7 : decode cX4_doEntry 7 = .ok (.getfield 21, 3) := by decide +kernel
theorem dX4_doEntry_10 : decode cX4_doEntry 10 = .ok (.bipush 9, 2) := by decide +kernel
theorem dX4_doEntry_12 : decode cX4_doEntry 12 = .ok (.dup2, 1) := by decide +kernel
theorem dX4_doEntry_13 : decode cX4_doEntry 13 = .ok (.iaload, 1) := by decide +kernel
theorem dX4_doEntry_14 : decode cX4_doEntry 14 = .ok (.aload_n 0, 1) := by decide +kernel
theorem dX4_doEntry_15 : decode cX4_doEntry 15 = .ok (.iconst 2, 1) := by decide +kernel
theorem dX4_doEntry_16 : decode cX4_doEntry 16 = .ok (.iload_n 3, 1) := by decide +kernel
theorem dX4_doEntry_17 : decode cX4_doEntry 17 = .ok (.invokevirtual 174, 3) := by decide +kernel
theorem dX4_doEntry_20 : decode cX4_doEntry 20 = .ok (.iadd, 1) := by decide +kernel
theorem dX4_doEntry_21 : decode cX4_doEntry 21 = .ok (.iastore, 1) := by decide +kernel
theorem dX4_doEntry_22 : decode cX4_doEntry 22 = .ok (.return_, 1) := by decide +kernel
theorem dX4_doEntry_23 : decode cX4_doEntry 23 = .ok (.iload 4, 2) := by decide +kernel
theorem dX4_doEntry_25 : decode cX4_doEntry 25 = .ok (.ifCond .eq 11, 3) := by decide +kernel
theorem dX4_doEntry_28 : decode cX4_doEntry 28 = .ok (.aload_n 0, 1) := by decide +kernel
theorem dX4_doEntry_29 : decode cX4_doEntry 29 = .ok (.iload_n 2, 1) := by decide +kernel
theorem dX4_doEntry_30 : decode cX4_doEntry 30 = .ok (.invokevirtual 148, 3) := by decide +kernel
theorem dX4_doEntry_33 : decode cX4_doEntry 33 = .ok (.ifCond .eq 4, 3) := by decide +kernel
theorem dX4_doEntry_36 : decode cX4_doEntry 36 = .ok (.return_, 1) := by decide +kernel
theorem dX4_doEntry_37 : decode cX4_doEntry 37 = .ok (.iload_n 1, 1) := by decide +kernel
theorem dX4_doEntry_38 : decode cX4_doEntry 38 = .ok (.iconst 5, 1) := by decide +kernel
theorem dX4_doEntry_39 : decode cX4_doEntry 39 = .ok (.if_icmp .ne 35, 3) := by decide +kernel
theorem dX4_doEntry_42 : decode cX4_doEntry 42 = .ok (.aload_n 0, 1) := by decide +kernel
theorem dX4_doEntry_43 : decode cX4_doEntry 43 = .ok (.getfield 21, 3) := by decide +kernel
theorem dX4_doEntry_46 : decode cX4_doEntry 46 = .ok (.bipush 10, 2) := by decide +kernel
theorem dX4_doEntry_48 : decode cX4_doEntry 48 = .ok (.dup2, 1) := by decide +kernel
theorem dX4_doEntry_49 : decode cX4_doEntry 49 = .ok (.iaload, 1) := by decide +kernel
theorem dX4_doEntry_50 : decode cX4_doEntry 50 = .ok (.aload_n 0, 1) := by decide +kernel
theorem dX4_doEntry_51 : decode cX4_doEntry 51 = .ok (.iconst 3, 1) := by decide +kernel
theorem dX4_doEntry_52 : decode cX4_doEntry 52 = .ok (.aload_n 0, 1) := by decide +kernel
theorem dX4_doEntry_53 : decode cX4_doEntry 53 = .ok (.getfield 50, 3) := by decide +kernel
theorem dX4_doEntry_56 : decode cX4_doEntry 56 = .ok (.bipush 9, 2) := by decide +kernel
theorem dX4_doEntry_58 : decode cX4_doEntry 58 = .ok (.invokevirtual 139, 3) := by decide +kernel
theorem dX4_doEntry_61 : decode cX4_doEntry 61 = .ok (.invokevirtual 174, 3) := by decide +kernel
theorem dX4_doEntry_64 : decode cX4_doEntry 64 = .ok (.iadd, 1) := by decide +kernel
theorem dX4_doEntry_65 : decode cX4_doEntry 65 = .ok (.iastore, 1) := by decide +kernel
theorem dX4_doEntry_66 : decode cX4_doEntry 66 = .ok (.aload_n 0, 1) := by decide +kernel
theorem dX4_doEntry_67 : decode cX4_doEntry 67 = .ok (.iload_n 2, 1) := by decide +kernel
theorem dX4_doEntry_68 : decode cX4_doEntry 68 = .ok (.invokevirtual 177, 3) := by decide +kernel
theorem dX4_doEntry_71 : decode cX4_doEntry 71 = .ok (.goto 32, 3) := by decide +kernel
theorem dX4_doEntry_74 : decode cX4_doEntry 74 = .ok (.iload_n 1, 1) := by decide +kernel
theorem dX4_doEntry_75 : decode cX4_doEntry 75 = .ok (.bipush 6, 2) := by decide +kernel
theorem dX4_doEntry_77 : decode cX4_doEntry 77 = .ok (.if_icmp .ne 11, 3) := by decide +kernel
theorem dX4_doEntry_80 : decode cX4_doEntry 80 = .ok (.aload_n 0, 1) := by decide +kernel
theorem dX4_doEntry_81 : decode cX4_doEntry 81 = .ok (.iload_n 2, 1) := by decide +kernel
theorem dX4_doEntry_82 : decode cX4_doEntry 82 = .ok (.invokevirtual 177, 3) := by decide +kernel
theorem dX4_doEntry_85 : decode cX4_doEntry 85 = .ok (.goto 18, 3) := by decide +kernel
end
section
abbrev vwCl : List vw_C := [(RX0, TX0, 7), (RX1, TX1, 8), (RX2, TX2, 1), (RX3, TX3, 2), (RX4, TX4, 15), (RX5, TX5, 8), (RX6, TX6, 50)]
end
section
/-! The world of the two objects: every cell has a static number k < 161, its address is g.1 k, its ints are f k j. -/
abbrev kM : Type := Nat → Nat → Int32
abbrev kG : Type := (Nat → Nat) × va_G × (Nat → ClassId) × (Nat → Nat)
def kN : Nat := 161
abbrev kE : Type := (Nat → Int32) → va_E
def kHead (g : kG) : List kE := [fun r => .inr (5, [.ref (g.1 1), .ref (g.1 3), .ref (g.1 8), .ref (g.1 17), .ref (g.1 21), .ref (g.1 55), .ref (g.1 89), .int (r 7)]),
  fun r => .inr (3, [.ref (g.1 2), .int (r 1)]),
  fun r => .inl (g.2.2.1 0, 500, .inl r),
  fun r => .inr (0, [.ref (g.1 4), .ref (g.1 5), .ref (g.1 6), .ref (g.1 7), .int (r 4), .int (r 5), .int (r 6)]),
  fun r => .inl (g.2.2.1 1, 300, .inl r),
  fun r => .inl (g.2.2.1 1, 300, .inl r),
  fun r => .inl (g.2.2.1 1, 300, .inl r),
  fun r => .inl (g.2.2.1 1, 52, .inl r),
  fun _ => .inl (g.2.2.1 3, 4, .inr (.inr (.inr (.inr (fun i => some (g.1 (9 + 2 * i))))))),
  fun _ => .inr (2, [.ref (g.1 10)]),
  fun r => .inl (g.2.2.1 1, 12, .inl r),
  fun _ => .inr (2, [.ref (g.1 12)]),
  fun r => .inl (g.2.2.1 1, 12, .inl r),
  fun _ => .inr (2, [.ref (g.1 14)]),
  fun r => .inl (g.2.2.1 1, 12, .inl r),
  fun _ => .inr (2, [.ref (g.1 16)]),
  fun r => .inl (g.2.2.1 1, 12, .inl r),
  fun r => .inr (1, [.ref (g.1 1), .ref (g.1 18), .ref (g.1 20), .int (r 3), .int (r 4), .int (r 5), .int (r 6), .int (r 7)]),
  fun _ => .inr (2, [.ref (g.1 19)]),
  fun r => .inl (g.2.2.1 1, 12, .inl r),
  fun r => .inl (g.2.2.1 2, 12, .inl r)]
def kYear (g : kG) (b : Nat) : List kE := [fun r => .inr (4, [.ref (g.1 3), .ref (g.1 (b + 1)), .ref (g.1 (b + 15)), .ref (g.1 (b + 26)), .ref (g.1 (b + 27)), .ref (g.1 (b + 28)), .ref (g.1 (b + 29)), .ref (g.1 (b + 30)), .ref (g.1 (b + 31)), .ref (g.1 (b + 32)), .ref (g.1 (b + 33)), .int (r 11), .int (r 12), .int (r 13), .ref (g.1 (9 + 2 * (r 14).toNatClampNeg))]),
  fun _ => .inl (g.2.2.1 4, 13, .inr (.inr (.inr (.inr (fun i => some (g.1 (b + (2 + i)))))))),
  fun r => .inl (g.2.2.1 1, 24, .inl r),
  fun r => .inl (g.2.2.1 1, 24, .inl r),
  fun r => .inl (g.2.2.1 1, 24, .inl r),
  fun r => .inl (g.2.2.1 1, 24, .inl r),
  fun r => .inl (g.2.2.1 1, 24, .inl r),
  fun r => .inl (g.2.2.1 1, 24, .inl r),
  fun r => .inl (g.2.2.1 1, 24, .inl r),
  fun r => .inl (g.2.2.1 1, 24, .inl r),
  fun r => .inl (g.2.2.1 1, 24, .inl r),
  fun r => .inl (g.2.2.1 1, 24, .inl r),
  fun r => .inl (g.2.2.1 1, 24, .inl r),
  fun r => .inl (g.2.2.1 1, 24, .inl r),
  fun r => .inl (g.2.2.1 1, 24, .inl r),
  fun _ => .inl (g.2.2.1 4, 10, .inr (.inr (.inr (.inr (fun i => some (g.1 (b + (16 + i)))))))),
  fun r => .inl (g.2.2.1 1, 52, .inl r),
  fun r => .inl (g.2.2.1 1, 52, .inl r),
  fun r => .inl (g.2.2.1 1, 52, .inl r),
  fun r => .inl (g.2.2.1 1, 52, .inl r),
  fun r => .inl (g.2.2.1 1, 52, .inl r),
  fun r => .inl (g.2.2.1 1, 52, .inl r),
  fun r => .inl (g.2.2.1 1, 52, .inl r),
  fun r => .inl (g.2.2.1 1, 52, .inl r),
  fun r => .inl (g.2.2.1 1, 52, .inl r),
  fun r => .inl (g.2.2.1 1, 52, .inl r),
  fun r => .inl (g.2.2.1 1, 12, .inl r),
  fun r => .inl (g.2.2.1 1, 3, .inl r),
  fun r => .inl (g.2.2.1 1, 24, .inl r),
  fun r => .inl (g.2.2.1 1, 24, .inl r),
  fun r => .inl (g.2.2.1 1, 24, .inl r),
  fun r => .inl (g.2.2.1 1, 24, .inl r),
  fun r => .inl (g.2.2.1 1, 24, .inl r),
  fun r => .inl (g.2.2.1 1, 24, .inl r)]
def kModel (g : kG) : List kE := [fun r => .inr (6, [.ref (g.1 124), .int (r 1), .int (r 2), .int (r 3), .int (r 4), .int (r 5), .int (r 6), .int (r 7), .int (r 8), .int (r 9), .ref (g.1 125), .int (r 11), .int (r 12), .ref (g.1 126), .ref (g.1 127), .ref (g.1 128), .ref (g.1 129), .ref (g.1 130), .ref (g.1 131), .ref (g.1 132), .ref (g.1 133), .ref (g.1 134), .ref (g.1 135), .ref (g.1 136), .ref (g.1 137), .ref (g.1 138), .ref (g.1 139), .ref (g.1 140), .ref (g.1 141), .ref (g.1 142), .ref (g.1 143), .ref (g.1 144), .ref (g.1 145), .ref (g.1 146), .ref (g.1 147), .ref (g.1 148), .ref (g.1 149), .ref (g.1 150), .ref (g.1 151), .ref (g.1 152), .ref (g.1 153), .ref (g.1 154), .ref (g.1 155), .ref (g.1 156), .ref (g.1 157), .ref (g.1 158), .ref (g.1 159), .ref (g.1 160), .int (r 48), .int (r 49)]),
  fun r => .inl (g.2.2.1 0, 500, .inl r),
  fun r => .inl (g.2.2.1 1, 60, .inl r),
  fun r => .inl (g.2.2.1 1, 300, .inl r),
  fun r => .inl (g.2.2.1 1, 300, .inl r),
  fun r => .inl (g.2.2.1 1, 300, .inl r),
  fun r => .inl (g.2.2.1 1, 3, .inl r),
  fun r => .inl (g.2.2.1 1, 3, .inl r),
  fun r => .inl (g.2.2.1 1, 3, .inl r),
  fun r => .inl (g.2.2.1 1, 72, .inl r),
  fun r => .inl (g.2.2.1 1, 72, .inl r),
  fun r => .inl (g.2.2.1 1, 72, .inl r),
  fun r => .inl (g.2.2.1 1, 72, .inl r),
  fun r => .inl (g.2.2.1 1, 72, .inl r),
  fun r => .inl (g.2.2.1 1, 72, .inl r),
  fun r => .inl (g.2.2.1 1, 72, .inl r),
  fun r => .inl (g.2.2.1 1, 72, .inl r),
  fun r => .inl (g.2.2.1 1, 72, .inl r),
  fun r => .inl (g.2.2.1 1, 72, .inl r),
  fun r => .inl (g.2.2.1 2, 72, .inl r),
  fun r => .inl (g.2.2.1 1, 72, .inl r),
  fun r => .inl (g.2.2.1 1, 72, .inl r),
  fun r => .inl (g.2.2.1 1, 72, .inl r),
  fun r => .inl (g.2.2.1 2, 72, .inl r),
  fun r => .inl (g.2.2.1 1, 72, .inl r),
  fun r => .inl (g.2.2.1 1, 72, .inl r),
  fun r => .inl (g.2.2.1 1, 72, .inl r),
  fun r => .inl (g.2.2.1 1, 3, .inl r),
  fun r => .inl (g.2.2.1 1, 3, .inl r),
  fun r => .inl (g.2.2.1 1, 3, .inl r),
  fun r => .inl (g.2.2.1 1, 3, .inl r),
  fun r => .inl (g.2.2.1 1, 3, .inl r),
  fun r => .inl (g.2.2.1 1, 3, .inl r),
  fun r => .inl (g.2.2.1 1, 3, .inl r),
  fun r => .inl (g.2.2.1 1, 3, .inl r),
  fun r => .inl (g.2.2.1 1, 3, .inl r),
  fun r => .inl (g.2.2.1 1, 9, .inl r),
  fun r => .inl (g.2.2.1 1, 520, .inl r)]
def kCells (g : kG) : List kE := kHead g ++ (kYear g 21 ++ (kYear g 55 ++ (kYear g 89 ++ kModel g)))
def cE (g : kG) (k : Nat) : kE := (kCells g).getD k (fun _ => .inr (0, []))
theorem e_KB (g : kG) (r : Nat → Int32) : cE g 0 r = .inr (5, [.ref (g.1 1), .ref (g.1 3), .ref (g.1 8), .ref (g.1 17), .ref (g.1 21), .ref (g.1 55), .ref (g.1 89), .int (r 7)]) := rfl
theorem e_TP (g : kG) (r : Nat → Int32) : cE g 1 r = .inr (3, [.ref (g.1 2), .int (r 1)]) := rfl
theorem e_TB (g : kG) (r : Nat → Int32) : cE g 2 r = .inl (g.2.2.1 0, 500, .inl r) := rfl
theorem e_LG (g : kG) (r : Nat → Int32) : cE g 3 r = .inr (0, [.ref (g.1 4), .ref (g.1 5), .ref (g.1 6), .ref (g.1 7), .int (r 4), .int (r 5), .int (r 6)]) := rfl
theorem e_kinds (g : kG) (r : Nat → Int32) : cE g 4 r = .inl (g.2.2.1 1, 300, .inl r) := rfl
theorem e_whos (g : kG) (r : Nat → Int32) : cE g 5 r = .inl (g.2.2.1 1, 300, .inl r) := rfl
theorem e_amounts (g : kG) (r : Nat → Int32) : cE g 6 r = .inl (g.2.2.1 1, 300, .inl r) := rfl
theorem e_starts (g : kG) (r : Nat → Int32) : cE g 7 r = .inl (g.2.2.1 1, 52, .inl r) := rfl
theorem e_RSA (g : kG) (r : Nat → Int32) : cE g 8 r = .inl (g.2.2.1 3, 4, .inr (.inr (.inr (.inr (fun i => some (g.1 (9 + 2 * i))))))) := rfl
theorem e_RS0 (g : kG) (r : Nat → Int32) : cE g 9 r = .inr (2, [.ref (g.1 10)]) := rfl
theorem e_RV0 (g : kG) (r : Nat → Int32) : cE g 10 r = .inl (g.2.2.1 1, 12, .inl r) := rfl
theorem e_RS1 (g : kG) (r : Nat → Int32) : cE g 11 r = .inr (2, [.ref (g.1 12)]) := rfl
theorem e_RV1 (g : kG) (r : Nat → Int32) : cE g 12 r = .inl (g.2.2.1 1, 12, .inl r) := rfl
theorem e_RS2 (g : kG) (r : Nat → Int32) : cE g 13 r = .inr (2, [.ref (g.1 14)]) := rfl
theorem e_RV2 (g : kG) (r : Nat → Int32) : cE g 14 r = .inl (g.2.2.1 1, 12, .inl r) := rfl
theorem e_RS3 (g : kG) (r : Nat → Int32) : cE g 15 r = .inr (2, [.ref (g.1 16)]) := rfl
theorem e_RV3 (g : kG) (r : Nat → Int32) : cE g 16 r = .inl (g.2.2.1 1, 12, .inl r) := rfl
theorem e_RR (g : kG) (r : Nat → Int32) : cE g 17 r = .inr (1, [.ref (g.1 1), .ref (g.1 18), .ref (g.1 20), .int (r 3), .int (r 4), .int (r 5), .int (r 6), .int (r 7)]) := rfl
theorem e_DR (g : kG) (r : Nat → Int32) : cE g 18 r = .inr (2, [.ref (g.1 19)]) := rfl
theorem e_DV (g : kG) (r : Nat → Int32) : cE g 19 r = .inl (g.2.2.1 1, 12, .inl r) := rfl
theorem e_TD (g : kG) (r : Nat → Int32) : cE g 20 r = .inl (g.2.2.1 2, 12, .inl r) := rfl
theorem ey_Y (g : kG) {y : Nat} (hy : y < 3) (r : Nat → Int32) : cE g (21 + 34 * y + 0) r = .inr (4, [.ref (g.1 3), .ref (g.1 ((21 + 34 * y) + 1)), .ref (g.1 ((21 + 34 * y) + 15)), .ref (g.1 ((21 + 34 * y) + 26)), .ref (g.1 ((21 + 34 * y) + 27)), .ref (g.1 ((21 + 34 * y) + 28)), .ref (g.1 ((21 + 34 * y) + 29)), .ref (g.1 ((21 + 34 * y) + 30)), .ref (g.1 ((21 + 34 * y) + 31)), .ref (g.1 ((21 + 34 * y) + 32)), .ref (g.1 ((21 + 34 * y) + 33)), .int (r 11), .int (r 12), .int (r 13), .ref (g.1 (9 + 2 * (r 14).toNatClampNeg))]) := by
  rcases (show y = 0 ∨ y = 1 ∨ y = 2 by omega) with rfl | rfl | rfl <;> rfl
theorem ey_OM (g : kG) {y : Nat} (hy : y < 3) (r : Nat → Int32) : cE g (21 + 34 * y + 1) r = .inl (g.2.2.1 4, 13, .inr (.inr (.inr (.inr (fun i => some (g.1 ((21 + 34 * y) + (2 + i)))))))) := by
  rcases (show y = 0 ∨ y = 1 ∨ y = 2 by omega) with rfl | rfl | rfl <;> rfl
theorem ey_om0 (g : kG) {y : Nat} (hy : y < 3) (r : Nat → Int32) : cE g (21 + 34 * y + 2) r = .inl (g.2.2.1 1, 24, .inl r) := by
  rcases (show y = 0 ∨ y = 1 ∨ y = 2 by omega) with rfl | rfl | rfl <;> rfl
theorem ey_om1 (g : kG) {y : Nat} (hy : y < 3) (r : Nat → Int32) : cE g (21 + 34 * y + 3) r = .inl (g.2.2.1 1, 24, .inl r) := by
  rcases (show y = 0 ∨ y = 1 ∨ y = 2 by omega) with rfl | rfl | rfl <;> rfl
theorem ey_om2 (g : kG) {y : Nat} (hy : y < 3) (r : Nat → Int32) : cE g (21 + 34 * y + 4) r = .inl (g.2.2.1 1, 24, .inl r) := by
  rcases (show y = 0 ∨ y = 1 ∨ y = 2 by omega) with rfl | rfl | rfl <;> rfl
theorem ey_om3 (g : kG) {y : Nat} (hy : y < 3) (r : Nat → Int32) : cE g (21 + 34 * y + 5) r = .inl (g.2.2.1 1, 24, .inl r) := by
  rcases (show y = 0 ∨ y = 1 ∨ y = 2 by omega) with rfl | rfl | rfl <;> rfl
theorem ey_om4 (g : kG) {y : Nat} (hy : y < 3) (r : Nat → Int32) : cE g (21 + 34 * y + 6) r = .inl (g.2.2.1 1, 24, .inl r) := by
  rcases (show y = 0 ∨ y = 1 ∨ y = 2 by omega) with rfl | rfl | rfl <;> rfl
theorem ey_om5 (g : kG) {y : Nat} (hy : y < 3) (r : Nat → Int32) : cE g (21 + 34 * y + 7) r = .inl (g.2.2.1 1, 24, .inl r) := by
  rcases (show y = 0 ∨ y = 1 ∨ y = 2 by omega) with rfl | rfl | rfl <;> rfl
theorem ey_om6 (g : kG) {y : Nat} (hy : y < 3) (r : Nat → Int32) : cE g (21 + 34 * y + 8) r = .inl (g.2.2.1 1, 24, .inl r) := by
  rcases (show y = 0 ∨ y = 1 ∨ y = 2 by omega) with rfl | rfl | rfl <;> rfl
theorem ey_om7 (g : kG) {y : Nat} (hy : y < 3) (r : Nat → Int32) : cE g (21 + 34 * y + 9) r = .inl (g.2.2.1 1, 24, .inl r) := by
  rcases (show y = 0 ∨ y = 1 ∨ y = 2 by omega) with rfl | rfl | rfl <;> rfl
theorem ey_om8 (g : kG) {y : Nat} (hy : y < 3) (r : Nat → Int32) : cE g (21 + 34 * y + 10) r = .inl (g.2.2.1 1, 24, .inl r) := by
  rcases (show y = 0 ∨ y = 1 ∨ y = 2 by omega) with rfl | rfl | rfl <;> rfl
theorem ey_om9 (g : kG) {y : Nat} (hy : y < 3) (r : Nat → Int32) : cE g (21 + 34 * y + 11) r = .inl (g.2.2.1 1, 24, .inl r) := by
  rcases (show y = 0 ∨ y = 1 ∨ y = 2 by omega) with rfl | rfl | rfl <;> rfl
theorem ey_om10 (g : kG) {y : Nat} (hy : y < 3) (r : Nat → Int32) : cE g (21 + 34 * y + 12) r = .inl (g.2.2.1 1, 24, .inl r) := by
  rcases (show y = 0 ∨ y = 1 ∨ y = 2 by omega) with rfl | rfl | rfl <;> rfl
theorem ey_om11 (g : kG) {y : Nat} (hy : y < 3) (r : Nat → Int32) : cE g (21 + 34 * y + 13) r = .inl (g.2.2.1 1, 24, .inl r) := by
  rcases (show y = 0 ∨ y = 1 ∨ y = 2 by omega) with rfl | rfl | rfl <;> rfl
theorem ey_om12 (g : kG) {y : Nat} (hy : y < 3) (r : Nat → Int32) : cE g (21 + 34 * y + 14) r = .inl (g.2.2.1 1, 24, .inl r) := by
  rcases (show y = 0 ∨ y = 1 ∨ y = 2 by omega) with rfl | rfl | rfl <;> rfl
theorem ey_OT (g : kG) {y : Nat} (hy : y < 3) (r : Nat → Int32) : cE g (21 + 34 * y + 15) r = .inl (g.2.2.1 4, 10, .inr (.inr (.inr (.inr (fun i => some (g.1 ((21 + 34 * y) + (16 + i)))))))) := by
  rcases (show y = 0 ∨ y = 1 ∨ y = 2 by omega) with rfl | rfl | rfl <;> rfl
theorem ey_ot0 (g : kG) {y : Nat} (hy : y < 3) (r : Nat → Int32) : cE g (21 + 34 * y + 16) r = .inl (g.2.2.1 1, 52, .inl r) := by
  rcases (show y = 0 ∨ y = 1 ∨ y = 2 by omega) with rfl | rfl | rfl <;> rfl
theorem ey_ot1 (g : kG) {y : Nat} (hy : y < 3) (r : Nat → Int32) : cE g (21 + 34 * y + 17) r = .inl (g.2.2.1 1, 52, .inl r) := by
  rcases (show y = 0 ∨ y = 1 ∨ y = 2 by omega) with rfl | rfl | rfl <;> rfl
theorem ey_ot2 (g : kG) {y : Nat} (hy : y < 3) (r : Nat → Int32) : cE g (21 + 34 * y + 18) r = .inl (g.2.2.1 1, 52, .inl r) := by
  rcases (show y = 0 ∨ y = 1 ∨ y = 2 by omega) with rfl | rfl | rfl <;> rfl
theorem ey_ot3 (g : kG) {y : Nat} (hy : y < 3) (r : Nat → Int32) : cE g (21 + 34 * y + 19) r = .inl (g.2.2.1 1, 52, .inl r) := by
  rcases (show y = 0 ∨ y = 1 ∨ y = 2 by omega) with rfl | rfl | rfl <;> rfl
theorem ey_ot4 (g : kG) {y : Nat} (hy : y < 3) (r : Nat → Int32) : cE g (21 + 34 * y + 20) r = .inl (g.2.2.1 1, 52, .inl r) := by
  rcases (show y = 0 ∨ y = 1 ∨ y = 2 by omega) with rfl | rfl | rfl <;> rfl
theorem ey_ot5 (g : kG) {y : Nat} (hy : y < 3) (r : Nat → Int32) : cE g (21 + 34 * y + 21) r = .inl (g.2.2.1 1, 52, .inl r) := by
  rcases (show y = 0 ∨ y = 1 ∨ y = 2 by omega) with rfl | rfl | rfl <;> rfl
theorem ey_ot6 (g : kG) {y : Nat} (hy : y < 3) (r : Nat → Int32) : cE g (21 + 34 * y + 22) r = .inl (g.2.2.1 1, 52, .inl r) := by
  rcases (show y = 0 ∨ y = 1 ∨ y = 2 by omega) with rfl | rfl | rfl <;> rfl
theorem ey_ot7 (g : kG) {y : Nat} (hy : y < 3) (r : Nat → Int32) : cE g (21 + 34 * y + 23) r = .inl (g.2.2.1 1, 52, .inl r) := by
  rcases (show y = 0 ∨ y = 1 ∨ y = 2 by omega) with rfl | rfl | rfl <;> rfl
theorem ey_ot8 (g : kG) {y : Nat} (hy : y < 3) (r : Nat → Int32) : cE g (21 + 34 * y + 24) r = .inl (g.2.2.1 1, 52, .inl r) := by
  rcases (show y = 0 ∨ y = 1 ∨ y = 2 by omega) with rfl | rfl | rfl <;> rfl
theorem ey_ot9 (g : kG) {y : Nat} (hy : y < 3) (r : Nat → Int32) : cE g (21 + 34 * y + 25) r = .inl (g.2.2.1 1, 52, .inl r) := by
  rcases (show y = 0 ∨ y = 1 ∨ y = 2 by omega) with rfl | rfl | rfl <;> rfl
theorem ey_sums (g : kG) {y : Nat} (hy : y < 3) (r : Nat → Int32) : cE g (21 + 34 * y + 26) r = .inl (g.2.2.1 1, 12, .inl r) := by
  rcases (show y = 0 ∨ y = 1 ∨ y = 2 by omega) with rfl | rfl | rfl <;> rfl
theorem ey_keys (g : kG) {y : Nat} (hy : y < 3) (r : Nat → Int32) : cE g (21 + 34 * y + 27) r = .inl (g.2.2.1 1, 3, .inl r) := by
  rcases (show y = 0 ∨ y = 1 ∨ y = 2 by omega) with rfl | rfl | rfl <;> rfl
theorem ey_given (g : kG) {y : Nat} (hy : y < 3) (r : Nat → Int32) : cE g (21 + 34 * y + 28) r = .inl (g.2.2.1 1, 24, .inl r) := by
  rcases (show y = 0 ∨ y = 1 ∨ y = 2 by omega) with rfl | rfl | rfl <;> rfl
theorem ey_reck (g : kG) {y : Nat} (hy : y < 3) (r : Nat → Int32) : cE g (21 + 34 * y + 29) r = .inl (g.2.2.1 1, 24, .inl r) := by
  rcases (show y = 0 ∨ y = 1 ∨ y = 2 by omega) with rfl | rfl | rfl <;> rfl
theorem ey_today (g : kG) {y : Nat} (hy : y < 3) (r : Nat → Int32) : cE g (21 + 34 * y + 30) r = .inl (g.2.2.1 1, 24, .inl r) := by
  rcases (show y = 0 ∨ y = 1 ∨ y = 2 by omega) with rfl | rfl | rfl <;> rfl
theorem ey_asked (g : kG) {y : Nat} (hy : y < 3) (r : Nat → Int32) : cE g (21 + 34 * y + 31) r = .inl (g.2.2.1 1, 24, .inl r) := by
  rcases (show y = 0 ∨ y = 1 ∨ y = 2 by omega) with rfl | rfl | rfl <;> rfl
theorem ey_queue (g : kG) {y : Nat} (hy : y < 3) (r : Nat → Int32) : cE g (21 + 34 * y + 32) r = .inl (g.2.2.1 1, 24, .inl r) := by
  rcases (show y = 0 ∨ y = 1 ∨ y = 2 by omega) with rfl | rfl | rfl <;> rfl
theorem ey_serv (g : kG) {y : Nat} (hy : y < 3) (r : Nat → Int32) : cE g (21 + 34 * y + 33) r = .inl (g.2.2.1 1, 24, .inl r) := by
  rcases (show y = 0 ∨ y = 1 ∨ y = 2 by omega) with rfl | rfl | rfl <;> rfl
theorem e_MO (g : kG) (r : Nat → Int32) : cE g 123 r = .inr (6, [.ref (g.1 124), .int (r 1), .int (r 2), .int (r 3), .int (r 4), .int (r 5), .int (r 6), .int (r 7), .int (r 8), .int (r 9), .ref (g.1 125), .int (r 11), .int (r 12), .ref (g.1 126), .ref (g.1 127), .ref (g.1 128), .ref (g.1 129), .ref (g.1 130), .ref (g.1 131), .ref (g.1 132), .ref (g.1 133), .ref (g.1 134), .ref (g.1 135), .ref (g.1 136), .ref (g.1 137), .ref (g.1 138), .ref (g.1 139), .ref (g.1 140), .ref (g.1 141), .ref (g.1 142), .ref (g.1 143), .ref (g.1 144), .ref (g.1 145), .ref (g.1 146), .ref (g.1 147), .ref (g.1 148), .ref (g.1 149), .ref (g.1 150), .ref (g.1 151), .ref (g.1 152), .ref (g.1 153), .ref (g.1 154), .ref (g.1 155), .ref (g.1 156), .ref (g.1 157), .ref (g.1 158), .ref (g.1 159), .ref (g.1 160), .int (r 48), .int (r 49)]) := rfl
theorem em_tape (g : kG) (r : Nat → Int32) : cE g 124 r = .inl (g.2.2.1 0, 500, .inl r) := rfl
theorem em_rules (g : kG) (r : Nat → Int32) : cE g 125 r = .inl (g.2.2.1 1, 60, .inl r) := rfl
theorem em_kind (g : kG) (r : Nat → Int32) : cE g 126 r = .inl (g.2.2.1 1, 300, .inl r) := rfl
theorem em_who (g : kG) (r : Nat → Int32) : cE g 127 r = .inl (g.2.2.1 1, 300, .inl r) := rfl
theorem em_much (g : kG) (r : Nat → Int32) : cE g 128 r = .inl (g.2.2.1 1, 300, .inl r) := rfl
theorem em_by (g : kG) (r : Nat → Int32) : cE g 129 r = .inl (g.2.2.1 1, 3, .inl r) := rfl
theorem em_box (g : kG) (r : Nat → Int32) : cE g 130 r = .inl (g.2.2.1 1, 3, .inl r) := rfl
theorem em_fund (g : kG) (r : Nat → Int32) : cE g 131 r = .inl (g.2.2.1 1, 3, .inl r) := rfl
theorem em_stamps (g : kG) (r : Nat → Int32) : cE g 132 r = .inl (g.2.2.1 1, 72, .inl r) := rfl
theorem em_bought (g : kG) (r : Nat → Int32) : cE g 133 r = .inl (g.2.2.1 1, 72, .inl r) := rfl
theorem em_owes (g : kG) (r : Nat → Int32) : cE g 134 r = .inl (g.2.2.1 1, 72, .inl r) := rfl
theorem em_since (g : kG) (r : Nat → Int32) : cE g 135 r = .inl (g.2.2.1 1, 72, .inl r) := rfl
theorem em_grown (g : kG) (r : Nat → Int32) : cE g 136 r = .inl (g.2.2.1 1, 72, .inl r) := rfl
theorem em_lent (g : kG) (r : Nat → Int32) : cE g 137 r = .inl (g.2.2.1 1, 72, .inl r) := rfl
theorem em_paidBack (g : kG) (r : Nat → Int32) : cE g 138 r = .inl (g.2.2.1 1, 72, .inl r) := rfl
theorem em_dues (g : kG) (r : Nat → Int32) : cE g 139 r = .inl (g.2.2.1 1, 72, .inl r) := rfl
theorem em_waited (g : kG) (r : Nat → Int32) : cE g 140 r = .inl (g.2.2.1 1, 72, .inl r) := rfl
theorem em_refused (g : kG) (r : Nat → Int32) : cE g 141 r = .inl (g.2.2.1 1, 72, .inl r) := rfl
theorem em_gone (g : kG) (r : Nat → Int32) : cE g 142 r = .inl (g.2.2.1 2, 72, .inl r) := rfl
theorem em_gotGone (g : kG) (r : Nat → Int32) : cE g 143 r = .inl (g.2.2.1 1, 72, .inl r) := rfl
theorem em_share (g : kG) (r : Nat → Int32) : cE g 144 r = .inl (g.2.2.1 1, 72, .inl r) := rfl
theorem em_gets (g : kG) (r : Nat → Int32) : cE g 145 r = .inl (g.2.2.1 1, 72, .inl r) := rfl
theorem em_isOut (g : kG) (r : Nat → Int32) : cE g 146 r = .inl (g.2.2.1 2, 72, .inl r) := rfl
theorem em_asks (g : kG) (r : Nat → Int32) : cE g 147 r = .inl (g.2.2.1 1, 72, .inl r) := rfl
theorem em_askAt (g : kG) (r : Nat → Int32) : cE g 148 r = .inl (g.2.2.1 1, 72, .inl r) := rfl
theorem em_today (g : kG) (r : Nat → Int32) : cE g 149 r = .inl (g.2.2.1 1, 72, .inl r) := rfl
theorem em_opened (g : kG) (r : Nat → Int32) : cE g 150 r = .inl (g.2.2.1 1, 3, .inl r) := rfl
theorem em_shut (g : kG) (r : Nat → Int32) : cE g 151 r = .inl (g.2.2.1 1, 3, .inl r) := rfl
theorem em_total (g : kG) (r : Nat → Int32) : cE g 152 r = .inl (g.2.2.1 1, 3, .inl r) := rfl
theorem em_rest (g : kG) (r : Nat → Int32) : cE g 153 r = .inl (g.2.2.1 1, 3, .inl r) := rfl
theorem em_lostGone (g : kG) (r : Nat → Int32) : cE g 154 r = .inl (g.2.2.1 1, 3, .inl r) := rfl
theorem em_lostOut (g : kG) (r : Nat → Int32) : cE g 155 r = .inl (g.2.2.1 1, 3, .inl r) := rfl
theorem em_robbed (g : kG) (r : Nat → Int32) : cE g 156 r = .inl (g.2.2.1 1, 3, .inl r) := rfl
theorem em_fundPaid (g : kG) (r : Nat → Int32) : cE g 157 r = .inl (g.2.2.1 1, 3, .inl r) := rfl
theorem em_interest (g : kG) (r : Nat → Int32) : cE g 158 r = .inl (g.2.2.1 1, 3, .inl r) := rfl
theorem em_key (g : kG) (r : Nat → Int32) : cE g 159 r = .inl (g.2.2.1 1, 9, .inl r) := rfl
theorem em_told (g : kG) (r : Nat → Int32) : cE g 160 r = .inl (g.2.2.1 1, 520, .inl r) := rfl
end
section
/-! Rows over the world: the kit's rows, for a cell by its static number. -/
def ru (f : kM) (k : Nat) (r : Nat → Int32) : kM := fun k' => if k' = k then r else f k'
def mu (f : kM) (k j : Nat) (x : Int32) : kM := ru f k (upd (f k) j x)
theorem ru_s (f : kM) (k : Nat) (r : Nat → Int32) : ru f k r k = r := by simp [ru]
theorem ru_n {f : kM} {k k' : Nat} {r : Nat → Int32} (h : k' ≠ k) : ru f k r k' = f k' := by simp [ru, h]
theorem mu_s (f : kM) (k j : Nat) (x : Int32) : mu f k j x k j = x := by simp [mu, ru, upd]
theorem mu_j {f : kM} {k j j' : Nat} {x : Int32} (h : j' ≠ j) : mu f k j x k j' = f k j' := by simp [mu, ru, upd, h]
theorem mu_n {f : kM} {k k' j : Nat} {x : Int32} (h : k' ≠ k) : mu f k j x k' = f k' := by simp [mu, ru, h]
theorem mu_r (f : kM) (k j : Nat) (x : Int32) : mu f k j x k = upd (f k) j x := by simp [mu, ru]
def wl (g : kG) (f : kM) : va_W := (List.range kN).map (fun k => (g.1 k, cE g k (f k)))
theorem wl_len (g : kG) (f : kM) : (wl g f).length = kN := by simp [wl]
theorem wl_at (g : kG) (f : kM) {k : Nat} (hk : k < kN) : (wl g f)[k]? = some (g.1 k, cE g k (f k)) := by
  unfold wl
  rw [List.getElem?_map, List.getElem?_range hk]
  rfl
theorem wl_of {g : kG} {f : kM} {k : Nat} {x : Nat × va_E} (h : (wl g f)[k]? = some x) : k < kN ∧ x = (g.1 k, cE g k (f k)) := by
  have hk : k < kN := by
    have := (List.getElem?_eq_some_iff.mp h).1
    rw [wl_len] at this
    exact this
  rw [wl_at g f hk] at h
  exact ⟨hk, (Option.some.inj h).symm⟩
theorem wl_set (g : kG) (f : kM) {k : Nat} (hk : k < kN) (r : Nat → Int32) : (wl g f).set k (g.1 k, cE g k r) = wl g (ru f k r) := by
  apply List.ext_getElem?
  intro i
  by_cases hi : i < kN
  · rw [wl_at g _ hi]
    by_cases e : i = k
    · subst e
      rw [List.getElem?_set_self (by rw [wl_len]; exact hi), ru_s]
    · rw [List.getElem?_set_ne (Ne.symm e), wl_at g f hi, ru_n e]
  · rw [List.getElem?_eq_none (by rw [List.length_set, wl_len]; omega), List.getElem?_eq_none (by rw [wl_len]; omega)]
def gA (g : kG) : Nat → Prop := fun q => ∃ k : Nat, k < kN ∧ q = g.1 k
def Gd (g : kG) : Prop := ∀ i j : Nat, i < kN → j < kN → g.1 i = g.1 j → i = j
theorem wl_D {g : kG} (hg : Gd g) (f : kM) : va_D (gA g) (wl g f) := by
  refine ⟨fun i j x y hi hj hxy => ?_, fun k x hx => ?_⟩
  · obtain ⟨h1, rfl⟩ := wl_of hi
    obtain ⟨h2, rfl⟩ := wl_of hj
    exact hg i j h1 h2 hxy
  · obtain ⟨h1, rfl⟩ := wl_of hx
    exact ⟨k, h1, rfl⟩
abbrev kTys (g : kG) : List (ClassId × FieldType) := [(g.2.2.1 0, .byte), (g.2.2.1 1, .int), (g.2.2.1 2, .boolean), (g.2.2.1 3, .object RX2), (g.2.2.1 4, .array .int)]
/-- the tables of the class that nobody writes -/
def tLeast : Nat → Int32 := fun j => match j with | 1 => 1 | 2 => 1 | 3 => 1 | 4 => 1 | 7 => 1 | _ => 0
def tMost : Nat → Int32 := fun j => match j with | 1 => 9 | 2 => 100000 | 3 => 100000 | 4 => 1000 | 7 => 1000000 | _ => 0
def tUntold : Nat → Int32 := fun j => match j with | 0 => 10 | 1 => 5 | 2 => 300 | 3 => 10 | 4 => -1 | 5 => 12 | 8 => 1 | 9 => 100 | 10 => 4 | _ => 0
def tLowest : Nat → Int32 := fun j => match j with | 0 => 1 | 1 => 1 | 5 => 1 | 10 => 1 | _ => 0
def tHighest : Nat → Int32 := fun j => match j with | 0 => 1000 | 1 => 9 | 2 => 900 | 3 => 50 | 4 => 50 | 5 => 40 | 6 => 1000 | 7 => 1000 | 8 => 1000 | 9 => 50000 | 10 => 52 | 11 => 2 | _ => 0
def kNest : List Cond := [.fieldLinkNest "KeyBox" 100 "KeyBox$RuleReader" "faultPlace" "I" "KeyBox", .fieldLinkNest "KeyBox" 110 "KeyBox$Year" "sums" "[I" "KeyBox", .fieldLinkNest "KeyBox" 117 "KeyBox$Year" "ofMember" "[[I" "KeyBox", .fieldLinkNest "KeyBox" 124 "KeyBox$Year" "ofMeeting" "[[I" "KeyBox", .fieldLinkNest "KeyBox" 130 "KeyBox$Log" "meetingCount" "I" "KeyBox", .fieldLinkNest "KeyBox" 144 "KeyBox$Log" "memberCount" "I" "KeyBox", .fieldLinkNest "KeyBox" 147 "KeyBox$Log" "size" "I" "KeyBox", .fieldLinkNest "KeyBox" 66 "KeyBox$Tape" "length" "I" "KeyBox", .fieldLinkNest "KeyBox" 97 "KeyBox$RuleReader" "faultKind" "I" "KeyBox", .fieldLinkNest "KeyBox$RuleReader" 117 "KeyBox$Tape" "length" "I" "KeyBox", .fieldLinkNest "KeyBox$Year" 117 "KeyBox$Log" "kinds" "[I" "KeyBox", .fieldLinkNest "KeyBox$Year" 131 "KeyBox$Log" "memberCount" "I" "KeyBox", .fieldLinkNest "KeyBox$Year" 58 "KeyBox$Log" "meetingCount" "I" "KeyBox", .fieldLinkNest "KeyBox$Year" 86 "KeyBox$Log" "whos" "[I" "KeyBox", .fieldLinkNest "KeyBox$Year" 92 "KeyBox$Log" "amounts" "[I" "KeyBox"]
theorem kNest_form : ∀ w ∈ kNest, ∃ a i b n d h, w = Cond.fieldLinkNest a i b n d h := by
  intro w hw
  simp only [kNest, List.mem_cons, List.not_mem_nil, or_false] at hw
  rcases hw with rfl | rfl | rfl | rfl | rfl | rfl | rfl | rfl | rfl | rfl | rfl | rfl | rfl | rfl | rfl <;> exact ⟨_, _, _, _, _, _, rfl⟩
def kTab (C n : String) (t N : Nat) (f : Nat → Int32) (A : Nat → Prop) (U : State) (H : Heap) : Prop := va_Z C n "[I" (.ref t) A U H ∧ va_T .int t N (fun j => .int (f j)) A U H
/-- what stays as it was at the start, over any A -/
def kSt (A : Nat → Prop) (st : Nat → Nat) (U : State) (H : Heap) : Prop :=
  kTab "KeyBox$Log" "LEAST_N" (st 0) 8 tLeast A U H ∧ kTab "KeyBox$Log" "MOST_N" (st 1) 8 tMost A U H ∧ kTab "KeyBox$RuleSet" "UNTOLD" (st 2) 12 tUntold A U H ∧
  kTab "KeyBox$RuleSet" "LOWEST" (st 3) 12 tLowest A U H ∧ kTab "KeyBox$RuleSet" "HIGHEST" (st 4) 12 tHighest A U H ∧ ∀ w ∈ kNest, va_Nw w U
theorem kTab.go {C n : String} {t N : Nat} {f : Nat → Int32} {A : Nat → Prop} {u U : State} {H H1 : Heap} (h : kTab C n t N f A u H) (hvm : u.vm.Alike U.vm) (hq : ∀ a : Nat, a < H.size → ¬ A a → H1[a]? = H[a]?) : kTab C n t N f A U H1 :=
  ⟨(h.1.moved hvm).kept hq, (h.2.moved hvm).kept hq⟩
theorem kSt.go {A : Nat → Prop} {st : Nat → Nat} {u U : State} {H H1 : Heap} (h : kSt A st u H) (hvm : u.vm.Alike U.vm) (hn : ∀ w ∈ kNest, va_Nw w U) (hq : ∀ a : Nat, a < H.size → ¬ A a → H1[a]? = H[a]?) : kSt A st U H1 :=
  ⟨h.1.go hvm hq, h.2.1.go hvm hq, h.2.2.1.go hvm hq, h.2.2.2.1.go hvm hq, h.2.2.2.2.1.go hvm hq, hn⟩
theorem kNest_warm {u U : State} (hW : u.WarmedH U.vm) (h : ∀ w ∈ kNest, va_Nw w u) : ∀ w ∈ kNest, va_Nw w U := by
  intro w hw
  obtain ⟨a, i, b, n, d, h0, rfl⟩ := kNest_form w hw
  exact (h _ hw).warmF hW
theorem kNest_same {u U : State} (hvm : u.vm = U.vm) (h : ∀ w ∈ kNest, va_Nw w u) : ∀ w ∈ kNest, va_Nw w U := by
  intro w hw
  obtain ⟨a, i, b, n, d, h0, rfl⟩ := kNest_form w hw
  exact va_Nw.same rfl hvm (h _ hw)
def Kpre (g : kG) (f : kM) (U : State) : Prop := va_K g.2.1 vwCl (kTys g) U ∧ va_P g.2.1 vwCl (wl g f) U.heap ∧ kSt (gA g) g.2.2.2 U U.heap
def Kpost (g : kG) (f : kM) (t : State) : Prop := va_K g.2.1 vwCl (kTys g) t ∧ va_P g.2.1 vwCl (wl g f) t.heap
theorem Kpre_blind {g : kG} {f : kM} {av : List Value} : FrameBlind (va_Pc av (Kpre g f)) := by
  intro a U g0 mk q
  obtain ⟨q0, qK, qP, qS⟩ := q
  exact ⟨q0, va_K.moved (u := U) (U := U.calling g0 mk a) (Vm.Alike.refl U.vm) qK, qP, kSt.go (u := U) (U := U.calling g0 mk a) qS (Vm.Alike.refl U.vm) (kNest_same (u := U) rfl qS.2.2.2.2.2) (fun _ _ _ => rfl)⟩
/-- the contracts: an int (or boolean) comes back, or nothing; no cell is made -/
abbrev MetI (l : Launch) (y : MethodName) (ws : List Cond) (rm : Room) (g : kG) (av : List Value) (f : kM) (post : Int32 → kM → Prop) : Prop := Met l y ws rm (va_Pc av (Kpre g f)) (va_Qi post (Kpost g) (gA g)) 0 0 (gA g)
abbrev MetV (l : Launch) (y : MethodName) (ws : List Cond) (rm : Room) (g : kG) (av : List Value) (f : kM) (post : kM → Prop) : Prop := Met l y ws rm (va_Pc av (Kpre g f)) (va_Qv post (Kpost g) (gA g)) 0 0 (gA g)
/-- the world inside a method -/
def Gw (g : kG) (s : State) (f : kM) (H : Heap) (locs : List Loc) : Prop := Gd g ∧ va_K g.2.1 vwCl (kTys g) s ∧ kSt (gA g) g.2.2.2 s s.heap ∧ va_P g.2.1 vwCl (wl g f) H ∧ va_S (gA g) s.heap H locs
theorem Gw.pre {g : kG} {s : State} {f : kM} {H : Heap} {locs : List Loc} (h : Gw g s f H locs) (U : State) (hU : U.heap = H) (hW : s.WarmedH U.vm) : Kpre g f U :=
  ⟨va_K.moved hW.alike h.2.1, by rw [hU]; exact h.2.2.2.1, h.2.2.1.go hW.alike (kNest_warm hW h.2.2.1.2.2.2.2.2) (fun a h1 h2 => by rw [hU]; exact h.2.2.2.2.2.1 a h1 h2)⟩
/-- a method's fixed facts -/
def Cx (p : Program) (s : State) (m : MethodId) (args : Array Value) (meth : Method) (c : Code) (cc : ByteArray) (nL : Nat) (ret : Option FieldType) (Ts : List Cond) (own : String) : Prop :=
  p.tables.exec = Jvm.exec ∧ c.code = cc ∧ c.maxLocals = nL ∧ s.vm.findClass own = some m.cls ∧ (∀ w ∈ Ts, w.before args s = true) ∧ meth.sig.returnType = ret ∧ meth.locks = false
theorem MetI.of {l : Launch} {y : MethodName} {ws ws' : List Cond} {rm : Room} {g : kG} {av : List Value} {f : kM} {post : Int32 → kM → Prop} {cc : ByteArray} {maxL : Nat} {ret : Option FieldType} (hg : Gd g) (hy : plainName y.cls = true) (hw : ws = Cond.code y cc maxL ret :: ws') (hn : (lg_sl av).length ≤ maxL)
    (body : ∀ (p : Program) (e : Env) (s : State) (m : MethodId) (below : List Frame) (meth : Method) (c : Code), Cx p s m av.toArray meth c cc maxL ret ws y.cls → Gw g s f s.heap [] → ∀ ls : Array Slot, lv_has ls maxL (lv_args 0 av) →
      W p l e (headSpec ws rm).room s m av.toArray below meth c s.heap [] 0 0 (MQ below (va_Qi post (Kpost g) (gA g)) av.toArray s 0 0 (gA g)) (F0 m 0 ls [])) : MetI l y ws rm g av f post := by
  refine Met.ofW hy hw ?_
  intro p e s m args below meth c s₁ B hml hv
  obtain ⟨rfl, hK, hP, hS⟩ := hv
  rw [lg_entry_eq]
  exact body p e s m below meth c ⟨B.exec, B.bytes, hml, findClass_of_methodNamed B.named, atoms_spec (ws := ws) B.pre, B.returns, B.notSynchronized⟩ ⟨hg, hK, hS, hP, va_S.rf⟩ _ (lv_entry av hn)
theorem MetV.of {l : Launch} {y : MethodName} {ws ws' : List Cond} {rm : Room} {g : kG} {av : List Value} {f : kM} {post : kM → Prop} {cc : ByteArray} {maxL : Nat} {ret : Option FieldType} (hg : Gd g) (hy : plainName y.cls = true) (hw : ws = Cond.code y cc maxL ret :: ws') (hn : (lg_sl av).length ≤ maxL)
    (body : ∀ (p : Program) (e : Env) (s : State) (m : MethodId) (below : List Frame) (meth : Method) (c : Code), Cx p s m av.toArray meth c cc maxL ret ws y.cls → Gw g s f s.heap [] → ∀ ls : Array Slot, lv_has ls maxL (lv_args 0 av) →
      W p l e (headSpec ws rm).room s m av.toArray below meth c s.heap [] 0 0 (MQ below (va_Qv post (Kpost g) (gA g)) av.toArray s 0 0 (gA g)) (F0 m 0 ls [])) : MetV l y ws rm g av f post := by
  refine Met.ofW hy hw ?_
  intro p e s m args below meth c s₁ B hml hv
  obtain ⟨rfl, hK, hP, hS⟩ := hv
  rw [lg_entry_eq]
  exact body p e s m below meth c ⟨B.exec, B.bytes, hml, findClass_of_methodNamed B.named, atoms_spec (ws := ws) B.pre, B.returns, B.notSynchronized⟩ ⟨hg, hK, hS, hP, va_S.rf⟩ _ (lv_entry av hn)
section KROWS
variable {p : Program} {l : Launch} {e : Env} {R : Room} {s : State} {m : MethodId} {args : Array Value} {below : List Frame} {meth : Method} {c : Code} {H : Heap} {locs : List Loc} {cells slots : Nat} {Q : State → Prop}
variable {cc : ByteArray} {pc nL : Nat} {ls : Array Slot} {rest : List Value} {g : kG} {f : kM} {ret : Option FieldType} {Ts : List Cond} {own : String}
theorem g_iret {post : Int32 → kM → Prop} {v : Int32} (C : Cx p s m args meth c cc nL (some .int) Ts own) (h : Gw g s f H locs) (hp : post v f) (hdg : decode cc pc = .ok (.ireturn, 1)) :
    W p l e R s m args below meth c H locs 0 0 (MQ below (va_Qi post (Kpost g) (gA g)) args s 0 0 (gA g)) (F0 m pc ls [.int v]) :=
  W.iret C.1 C.2.1 C.2.2.2.2.2.1 (fun t ht hW => ⟨⟨v, f, rfl, hp, va_K.moved hW.alike h.2.1, by rw [ht]; exact h.2.2.2.1⟩, h.2.2.2.2.F ht⟩) h.2.2.2.2.2.2 hdg C.2.2.2.2.2.2
theorem g_zret {post : Int32 → kM → Prop} {v : Int32} {ty : FieldType} (C : Cx p s m args meth c cc nL (some ty) Ts own) (h : Gw g s f H locs) (hn : narrow ty (.int v) = .int v) (hp : post v f) (hdg : decode cc pc = .ok (.ireturn, 1)) :
    W p l e R s m args below meth c H locs 0 0 (MQ below (va_Qi post (Kpost g) (gA g)) args s 0 0 (gA g)) (F0 m pc ls [.int v]) :=
  W.zret C.1 C.2.1 C.2.2.2.2.2.1 hn (fun t ht hW => ⟨⟨v, f, rfl, hp, va_K.moved hW.alike h.2.1, by rw [ht]; exact h.2.2.2.1⟩, h.2.2.2.2.F ht⟩) h.2.2.2.2.2.2 hdg C.2.2.2.2.2.2
theorem g_vret {post : kM → Prop} (C : Cx p s m args meth c cc nL none Ts own) (h : Gw g s f H locs) (hp : post f) (hdg : decode cc pc = .ok (.return_, 1)) :
    W p l e R s m args below meth c H locs 0 0 (MQ below (va_Qv post (Kpost g) (gA g)) args s 0 0 (gA g)) (F0 m pc ls []) :=
  W.vret C.1 C.2.1 C.2.2.2.2.2.1 (fun t ht hW => ⟨⟨f, rfl, hp, va_K.moved hW.alike h.2.1, by rw [ht]; exact h.2.2.2.1⟩, h.2.2.2.2.F ht⟩) h.2.2.2.2.2.2 hdg C.2.2.2.2.2.2
theorem k_in {x : Int32} {j n : Nat} (hi : x = nI j) (hj : j < n) (hn : n < 2 ^ 31) : vp_in x n := by rw [hi]; exact vp_in_nI hj hn
theorem k_cl {x : Int32} {j n : Nat} (hi : x = nI j) (hj : j < n) (hn : n < 2 ^ 31) : x.toNatClampNeg = j := by rw [hi]; exact nI_clamp (Nat.lt_trans hj hn)
/-- getfield of a cell's own class, or of a nest mate's -/
theorem g_get {ref D : String} {T : u_T} {N ci index : Nat} (C : Cx p s m args meth c cc nL ret Ts own) (hin : ∀ w ∈ u_ws D T N, w ∈ Ts) (h : Gw g s f H locs) (k : Nat) (hk : k < kN) {fs : List Value} (he : cE g k (f k) = .inr (ci, fs)) (hc : vwCl[ci]? = some (D, T, N)) (q : Nat) (hq : q < N) (hlink : (Cond.fieldLink own index ref (T q).2.1 (T q).2.2.1).before args s = true) (hsame : (T q).1 = ref) {v : Value} (hv : fs[q]? = some v) (hdg : decode cc pc = .ok (.getfield index, 3))
    (kk : W p l e R s m args below meth c H locs cells slots Q (F0 m (pc + 3) ls (v :: rest))) : W p l e R s m args below meth c H locs cells slots Q (F0 m pc ls (.ref (g.1 k) :: rest)) :=
  va_get C.1 C.2.1 C.2.2.2.2.1 hin C.2.2.2.1 h.2.1 h.2.2.2.1 k (by rw [wl_at g f hk, he]) hc q hq hlink (fun x hx => by rw [hsame] at hx; exact hx) hv hdg kk
theorem g_getN {ref D host : String} {T : u_T} {N ci index : Nat} (C : Cx p s m args meth c cc nL ret Ts own) (hin : ∀ w ∈ u_ws D T N, w ∈ Ts) (h : Gw g s f H locs) (k : Nat) (hk : k < kN) {fs : List Value} (he : cE g k (f k) = .inr (ci, fs)) (hc : vwCl[ci]? = some (D, T, N)) (q : Nat) (hq : q < N) (hlink : Cond.fieldLinkNest own index ref (T q).2.1 (T q).2.2.1 host ∈ kNest) (hsame : (T q).1 = ref) {v : Value} (hv : fs[q]? = some v) (hdg : decode cc pc = .ok (.getfield index, 3))
    (kk : W p l e R s m args below meth c H locs cells slots Q (F0 m (pc + 3) ls (v :: rest))) : W p l e R s m args below meth c H locs cells slots Q (F0 m pc ls (.ref (g.1 k) :: rest)) :=
  va_getN C.1 C.2.1 C.2.2.2.2.1 hin C.2.2.2.1 h.2.1 h.2.2.2.1 k (by rw [wl_at g f hk, he]) hc q hq ((h.2.2.1.2.2.2.2.2 _ hlink).use rfl) (fun x hx => by rw [hsame] at hx; exact hx) hv hdg kk
theorem g_put {ref D : String} {T : u_T} {N ci index : Nat} (C : Cx p s m args meth c cc nL ret Ts own) (hin : ∀ w ∈ u_ws D T N, w ∈ Ts) (ty0 : Nat → FieldType) (hty : ∀ k, k < N → parseFieldDescriptor (T k).2.2.1 = some (ty0 k)) (hnm : ∀ a, a < N → ∀ b, b < N → a ≠ b → (T a).2.1 ≠ (T b).2.1) (h : Gw g s f H locs) (k : Nat) (hk : k < kN) {fs : List Value} (he : cE g k (f k) = .inr (ci, fs)) (hc : vwCl[ci]? = some (D, T, N)) (q : Nat) (hq : q < N) (hlink : (Cond.fieldLink own index ref (T q).2.1 (T q).2.2.1).before args s = true) (hsame : (T q).1 = ref) (hfin : (T q).2.2.2 = false) {ty : FieldType} {v : Value} (hd : parseFieldDescriptor (T q).2.2.1 = some ty) (hn : narrow ty v = v) (hfit : fits ty v = true) (hl : q < fs.length)
    {x : Int32} (hs : .inr (ci, fs.set q v) = cE g k (upd (f k) q x)) (hdg : decode cc pc = .ok (.putfield index, 3)) (kk : ∀ (H1 : Heap) (locs1 : List Loc), Gw g s (mu f k q x) H1 locs1 → W p l e R s m args below meth c H1 locs1 cells slots Q (F0 m (pc + 3) ls rest)) : W p l e R s m args below meth c H locs cells slots Q (F0 m pc ls (v :: .ref (g.1 k) :: rest)) :=
  va_put C.1 C.2.1 C.2.2.2.2.1 hin ty0 hty hnm C.2.2.2.1 h.2.1 h.2.2.2.1 (wl_D h.1 f) h.2.2.2.2 k (by rw [wl_at g f hk, he]) hc q hq hlink (fun x hx => by rw [hsame] at hx; exact hx) hfin hd hn hfit hl hdg (fun H1 locs1 hP _ hS => kk H1 locs1 ⟨h.1, h.2.1, h.2.2.1, by rw [hs, wl_set g f hk] at hP; exact hP, hS⟩)
theorem g_putN {ref D host : String} {T : u_T} {N ci index : Nat} (C : Cx p s m args meth c cc nL ret Ts own) (hin : ∀ w ∈ u_ws D T N, w ∈ Ts) (ty0 : Nat → FieldType) (hty : ∀ k, k < N → parseFieldDescriptor (T k).2.2.1 = some (ty0 k)) (hnm : ∀ a, a < N → ∀ b, b < N → a ≠ b → (T a).2.1 ≠ (T b).2.1) (h : Gw g s f H locs) (k : Nat) (hk : k < kN) {fs : List Value} (he : cE g k (f k) = .inr (ci, fs)) (hc : vwCl[ci]? = some (D, T, N)) (q : Nat) (hq : q < N) (hlink : Cond.fieldLinkNest own index ref (T q).2.1 (T q).2.2.1 host ∈ kNest) (hsame : (T q).1 = ref) (hfin : (T q).2.2.2 = false) {ty : FieldType} {v : Value} (hd : parseFieldDescriptor (T q).2.2.1 = some ty) (hn : narrow ty v = v) (hfit : fits ty v = true) (hl : q < fs.length)
    {x : Int32} (hs : .inr (ci, fs.set q v) = cE g k (upd (f k) q x)) (hdg : decode cc pc = .ok (.putfield index, 3)) (kk : ∀ (H1 : Heap) (locs1 : List Loc), Gw g s (mu f k q x) H1 locs1 → W p l e R s m args below meth c H1 locs1 cells slots Q (F0 m (pc + 3) ls rest)) : W p l e R s m args below meth c H locs cells slots Q (F0 m pc ls (v :: .ref (g.1 k) :: rest)) :=
  va_putN C.1 C.2.1 C.2.2.2.2.1 hin ty0 hty hnm C.2.2.2.1 h.2.1 h.2.2.2.1 (wl_D h.1 f) h.2.2.2.2 k (by rw [wl_at g f hk, he]) hc q hq ((h.2.2.1.2.2.2.2.2 _ hlink).use rfl) (fun x hx => by rw [hsame] at hx; exact hx) hfin hd hn hfit hl hdg (fun H1 locs1 hP _ hS => kk H1 locs1 ⟨h.1, h.2.1, h.2.2.1, by rw [hs, wl_set g f hk] at hP; exact hP, hS⟩)
/-- loads and stores of arrays of ints, bytes, booleans -/
theorem g_iald {N : Nat} (C : Cx p s m args meth c cc nL ret Ts own) (h : Gw g s f H locs) (k : Nat) (hk : k < kN) (he : ∀ r, cE g k r = .inl (g.2.2.1 1, N, .inl r)) {i : Int32} (j : Nat) (hi : i = nI j) (hj : j < N) (hN : N < 2 ^ 31) (hdg : decode cc pc = .ok (.iaload, 1))
    (kk : W p l e R s m args below meth c H locs cells slots Q (F0 m (pc + 1) ls (.int (f k j) :: rest))) : W p l e R s m args below meth c H locs cells slots Q (F0 m pc ls (.int i :: .ref (g.1 k) :: rest)) :=
  va_iald C.1 C.2.1 h.2.1 h.2.2.2.1 k 1 (by rw [wl_at g f hk, he]) rfl (k_in hi hj hN) hdg (by rw [k_cl hi hj hN]; exact kk)
theorem g_zald {N : Nat} (C : Cx p s m args meth c cc nL ret Ts own) (h : Gw g s f H locs) (k : Nat) (hk : k < kN) (he : ∀ r, cE g k r = .inl (g.2.2.1 2, N, .inl r)) {i : Int32} (j : Nat) (hi : i = nI j) (hj : j < N) (hN : N < 2 ^ 31) (hdg : decode cc pc = .ok (.baload, 1))
    (kk : W p l e R s m args below meth c H locs cells slots Q (F0 m (pc + 1) ls (.int (f k j) :: rest))) : W p l e R s m args below meth c H locs cells slots Q (F0 m pc ls (.int i :: .ref (g.1 k) :: rest)) :=
  va_zald C.1 C.2.1 h.2.1 h.2.2.2.1 k 2 (by rw [wl_at g f hk, he]) rfl (k_in hi hj hN) hdg (by rw [k_cl hi hj hN]; exact kk)
theorem g_bald {N : Nat} (C : Cx p s m args meth c cc nL ret Ts own) (h : Gw g s f H locs) (k : Nat) (hk : k < kN) (he : ∀ r, cE g k r = .inl (g.2.2.1 0, N, .inl r)) {i : Int32} (j : Nat) (hi : i = nI j) (hj : j < N) (hN : N < 2 ^ 31) (hdg : decode cc pc = .ok (.baload, 1))
    (kk : W p l e R s m args below meth c H locs cells slots Q (F0 m (pc + 1) ls (.int (f k j) :: rest))) : W p l e R s m args below meth c H locs cells slots Q (F0 m pc ls (.int i :: .ref (g.1 k) :: rest)) :=
  va_bald C.1 C.2.1 h.2.1 h.2.2.2.1 k 0 (by rw [wl_at g f hk, he]) rfl (k_in hi hj hN) hdg (by rw [k_cl hi hj hN]; exact kk)
theorem g_iast {N : Nat} (C : Cx p s m args meth c cc nL ret Ts own) (h : Gw g s f H locs) (k : Nat) (hk : k < kN) (he : ∀ r, cE g k r = .inl (g.2.2.1 1, N, .inl r)) {i x : Int32} (j : Nat) (hi : i = nI j) (hj : j < N) (hN : N < 2 ^ 31) (hdg : decode cc pc = .ok (.iastore, 1))
    (kk : ∀ (H1 : Heap) (locs1 : List Loc), Gw g s (mu f k j x) H1 locs1 → W p l e R s m args below meth c H1 locs1 cells slots Q (F0 m (pc + 1) ls rest)) : W p l e R s m args below meth c H locs cells slots Q (F0 m pc ls (.int x :: .int i :: .ref (g.1 k) :: rest)) :=
  va_iast C.1 C.2.1 h.2.1 h.2.2.2.1 (wl_D h.1 f) h.2.2.2.2 k 1 (by rw [wl_at g f hk, he]) rfl (k_in hi hj hN) hdg (fun H1 locs1 hP _ hS => kk H1 locs1 ⟨h.1, h.2.1, h.2.2.1, by rw [k_cl hi hj hN, ← he, wl_set g f hk] at hP; exact hP, hS⟩)
theorem g_zast {N : Nat} (C : Cx p s m args meth c cc nL ret Ts own) (h : Gw g s f H locs) (k : Nat) (hk : k < kN) (he : ∀ r, cE g k r = .inl (g.2.2.1 2, N, .inl r)) {i x : Int32} (j : Nat) (hi : i = nI j) (hj : j < N) (hN : N < 2 ^ 31) (hdg : decode cc pc = .ok (.bastore, 1))
    (kk : ∀ (H1 : Heap) (locs1 : List Loc), Gw g s (mu f k j (vp_nar .boolean x)) H1 locs1 → W p l e R s m args below meth c H1 locs1 cells slots Q (F0 m (pc + 1) ls rest)) : W p l e R s m args below meth c H locs cells slots Q (F0 m pc ls (.int x :: .int i :: .ref (g.1 k) :: rest)) :=
  va_zast C.1 C.2.1 h.2.1 h.2.2.2.1 (wl_D h.1 f) h.2.2.2.2 k 2 (by rw [wl_at g f hk, he]) rfl (k_in hi hj hN) hdg (fun H1 locs1 hP _ hS => kk H1 locs1 ⟨h.1, h.2.1, h.2.2.1, by rw [k_cl hi hj hN, ← he, wl_set g f hk] at hP; exact hP, hS⟩)
theorem g_bast {N : Nat} (C : Cx p s m args meth c cc nL ret Ts own) (h : Gw g s f H locs) (k : Nat) (hk : k < kN) (he : ∀ r, cE g k r = .inl (g.2.2.1 0, N, .inl r)) {i x : Int32} (j : Nat) (hi : i = nI j) (hj : j < N) (hN : N < 2 ^ 31) (hdg : decode cc pc = .ok (.bastore, 1))
    (kk : ∀ (H1 : Heap) (locs1 : List Loc), Gw g s (mu f k j (vp_nar .byte x)) H1 locs1 → W p l e R s m args below meth c H1 locs1 cells slots Q (F0 m (pc + 1) ls rest)) : W p l e R s m args below meth c H locs cells slots Q (F0 m pc ls (.int x :: .int i :: .ref (g.1 k) :: rest)) :=
  va_bast C.1 C.2.1 h.2.1 h.2.2.2.1 (wl_D h.1 f) h.2.2.2.2 k 0 (by rw [wl_at g f hk, he]) rfl (k_in hi hj hN) hdg (fun H1 locs1 hP _ hS => kk H1 locs1 ⟨h.1, h.2.1, h.2.2.1, by rw [k_cl hi hj hN, ← he, wl_set g f hk] at hP; exact hP, hS⟩)
/-- a row of a grid, a set of rules by its number -/
theorem g_aald {N t : Nat} {ty : FieldType} {o : Nat → Option Nat} (C : Cx p s m args meth c cc nL ret Ts own) (h : Gw g s f H locs) (k : Nat) (hk : k < kN) {cA : ClassId} (he : cE g k (f k) = .inl (cA, N, .inr (.inr (.inr (.inr o))))) (ht : (kTys g)[t]? = some (cA, ty)) (hty : refKind ty = true) {i : Int32} (j : Nat) (hi : i = nI j) (hj : j < N) (hN : N < 2 ^ 31) {a : Nat} (ho : o j = some a) (hdg : decode cc pc = .ok (.aaload, 1))
    (kk : W p l e R s m args below meth c H locs cells slots Q (F0 m (pc + 1) ls (.ref a :: rest))) : W p l e R s m args below meth c H locs cells slots Q (F0 m pc ls (.int i :: .ref (g.1 k) :: rest)) := by
  have hP := h.2.2.2.1 k (g.1 k, .inl (cA, N, .inr (.inr (.inr (.inr o))))) (by rw [wl_at g f hk, he])
  refine W.aald (v := .ref a) (ty := ty) C.1 C.2.1 hP ((h.2.1.2 t _ ht).1 N (fun j => va_rf (o j))) hty (fun q => by cases q) (by show ¬ (i < 0 ∨ (arrV _ _ _).slots.size ≤ _); rw [arrV_size]; exact k_in hi hj hN) (by show (arrV _ _ _).slots[_]? = _; rw [k_cl hi hj hN, arrV_read _ _ hj, ho]; rfl) rfl rfl hdg kk
theorem g_alen {N t : Nat} {ty : FieldType} {cA : ClassId} {x : vp_A} (C : Cx p s m args meth c cc nL ret Ts own) (h : Gw g s f H locs) (k : Nat) (hk : k < kN) (he : cE g k (f k) = .inl (cA, x)) (ht : (kTys g)[t]? = some (cA, ty)) {v : Int32} (hv : Int32.ofNat x.1 = v) (hdg : decode cc pc = .ok (.arraylength, 1))
    (kk : W p l e R s m args below meth c H locs cells slots Q (F0 m (pc + 1) ls (.int v :: rest))) : W p l e R s m args below meth c H locs cells slots Q (F0 m pc ls (.ref (g.1 k) :: rest)) :=
  va_alen C.1 C.2.1 h.2.1 h.2.2.2.1 k t (by rw [wl_at g f hk, he]) ht hv hdg kk
/-- the tables -/
theorem g_gets {D n : String} {t N index : Nat} {tf : Nat → Int32} (C : Cx p s m args meth c cc nL ret Ts own) (h : Gw g s f H locs) (hT : kTab D n t N tf (gA g) s s.heap) (hlink : (Cond.fieldLink own index D n "[I").before args s = true) (hdg : decode cc pc = .ok (.getstatic index, 3))
    (kk : W p l e R s m args below meth c H locs cells slots Q (F0 m (pc + 3) ls (.ref t :: rest))) : W p l e R s m args below meth c H locs cells slots Q (F0 m pc ls rest) :=
  va_gets C.1 C.2.1 hT.1 h.2.2.2.2 C.2.2.2.1 hlink (fun _ q => q) hdg kk
theorem g_ti {D n : String} {t N : Nat} {tf : Nat → Int32} (C : Cx p s m args meth c cc nL ret Ts own) (h : Gw g s f H locs) (hT : kTab D n t N tf (gA g) s s.heap) {i : Int32} (j : Nat) (hi : i = nI j) (hj : j < N) (hN : N < 2 ^ 31) (hdg : decode cc pc = .ok (.iaload, 1))
    (kk : W p l e R s m args below meth c H locs cells slots Q (F0 m (pc + 1) ls (.int (tf j) :: rest))) : W p l e R s m args below meth c H locs cells slots Q (F0 m pc ls (.int i :: .ref t :: rest)) :=
  va_ti C.1 C.2.1 hT.2 h.2.2.2.2 (k_in hi hj hN) (by rw [k_cl hi hj hN]) hdg kk
/-- calls: the world goes in, the world comes out -/
theorem g_callVi {y : MethodName} {bytes : ByteArray} {maxL n index ci : Nat} {rt : Option FieldType} {ws : List Cond} {rm : Room} {D : String} {T : u_T} {N : Nat} {As st0 : List Value} {fs : List Value} {post : Int32 → kM → Prop} (C : Cx p s m args meth c cc nL ret Ts own) (h : Gw g s f H locs) (k : Nat) (hk : k < kN) (he : cE g k (f k) = .inr (ci, fs)) (hc : vwCl[ci]? = some (D, T, N))
    (hM : MetI l y ws rm g (.ref (g.1 k) :: As) f post) (cw : CallW R s args own D index y bytes maxL rt ws rm 0 0 n) (hn : As.length = n) (hsize : lv_has ls nL []) (hst : st0 = As.reverse ++ .ref (g.1 k) :: rest) (hW : (rest.map fun v => v.category).sum ≤ 8) (hdg : decode cc pc = .ok (.invokevirtual index, 3)) (hf : cells ≤ R.cells ∧ slots ≤ R.slots)
    (kk : ∀ (r : Int32) (f1 : kM) (H1 : Heap) (locs1 : List Loc), post r f1 → Gw g s f1 H1 locs1 → W p l e R s m args below meth c H1 locs1 cells slots Q (F0 m (pc + 3) ls (.int r :: rest))) : W p l e R s m args below meth c H locs cells slots Q (F0 m pc ls st0) :=
  va_calli (va_runV (As := As) (rest := rest) (⟨C.1, C.2.1, C.2.2.1, C.2.2.2.1, C.2.2.2.2.1⟩ : CallFix p m c cc nL s args Ts own) hM cw ⟨Kpre_blind, va_recv h.2.1 h.2.2.2.1 (q0 := k) hc (by rw [wl_at g f hk, he]), fun U hU hWm => ⟨rfl, h.pre U hU hWm⟩⟩ rfl hn hsize.1 hst (lv_room hW) hdg hf) h.2.2.2.2 (fun _ _ q => q) (fun _ q => q) (fun r u t H1 locs1 ht _ hw hB _ _ hS => kk r u H1 locs1 hw ⟨h.1, h.2.1, h.2.2.1, by rw [← ht]; exact hB.2, hS⟩)
theorem g_callVv {y : MethodName} {bytes : ByteArray} {maxL n index ci : Nat} {rt : Option FieldType} {ws : List Cond} {rm : Room} {D : String} {T : u_T} {N : Nat} {As st0 : List Value} {fs : List Value} {post : kM → Prop} (C : Cx p s m args meth c cc nL ret Ts own) (h : Gw g s f H locs) (k : Nat) (hk : k < kN) (he : cE g k (f k) = .inr (ci, fs)) (hc : vwCl[ci]? = some (D, T, N))
    (hM : MetV l y ws rm g (.ref (g.1 k) :: As) f post) (cw : CallW R s args own D index y bytes maxL rt ws rm 0 0 n) (hn : As.length = n) (hsize : lv_has ls nL []) (hst : st0 = As.reverse ++ .ref (g.1 k) :: rest) (hW : (rest.map fun v => v.category).sum ≤ 8) (hdg : decode cc pc = .ok (.invokevirtual index, 3)) (hf : cells ≤ R.cells ∧ slots ≤ R.slots)
    (kk : ∀ (f1 : kM) (H1 : Heap) (locs1 : List Loc), post f1 → Gw g s f1 H1 locs1 → W p l e R s m args below meth c H1 locs1 cells slots Q (F0 m (pc + 3) ls rest)) : W p l e R s m args below meth c H locs cells slots Q (F0 m pc ls st0) :=
  va_callv (va_runV (As := As) (rest := rest) (⟨C.1, C.2.1, C.2.2.1, C.2.2.2.1, C.2.2.2.2.1⟩ : CallFix p m c cc nL s args Ts own) hM cw ⟨Kpre_blind, va_recv h.2.1 h.2.2.2.1 (q0 := k) hc (by rw [wl_at g f hk, he]), fun U hU hWm => ⟨rfl, h.pre U hU hWm⟩⟩ rfl hn hsize.1 hst (lv_room hW) hdg hf) h.2.2.2.2 (fun _ _ q => q) (fun _ q => q) (fun u t H1 locs1 ht _ hw hB _ _ hS => kk u H1 locs1 hw ⟨h.1, h.2.1, h.2.2.1, by rw [← ht]; exact hB.2, hS⟩)
theorem g_callSi {y : MethodName} {bytes : ByteArray} {maxL n index : Nat} {rt : Option FieldType} {ws : List Cond} {rm : Room} {As st0 : List Value} {post : Int32 → kM → Prop} (C : Cx p s m args meth c cc nL ret Ts own) (h : Gw g s f H locs)
    (hM : MetI l y ws rm g As f post) (cw : CallB R s args own index y bytes maxL rt ws rm 0 0 n ∧ (Cond.static y).before args s = true) (hn : As.length = n) (hsize : lv_has ls nL []) (hst : st0 = As.reverse ++ rest) (hW : (rest.map fun v => v.category).sum ≤ 8) (hdg : decode cc pc = .ok (.invokestatic index, 3)) (hf : cells ≤ R.cells ∧ slots ≤ R.slots)
    (kk : ∀ (r : Int32) (f1 : kM) (H1 : Heap) (locs1 : List Loc), post r f1 → Gw g s f1 H1 locs1 → W p l e R s m args below meth c H1 locs1 cells slots Q (F0 m (pc + 3) ls (.int r :: rest))) : W p l e R s m args below meth c H locs cells slots Q (F0 m pc ls st0) :=
  va_calli (va_runS (As := As) (rest := rest) (⟨C.1, C.2.1, C.2.2.1, C.2.2.2.1, C.2.2.2.2.1⟩ : CallFix p m c cc nL s args Ts own) hM cw ⟨Kpre_blind, fun U hU hWm => ⟨rfl, h.pre U hU hWm⟩⟩ rfl hn hsize.1 hst (lv_room hW) hdg hf) h.2.2.2.2 (fun _ _ q => q) (fun _ q => q) (fun r u t H1 locs1 ht _ hw hB _ _ hS => kk r u H1 locs1 hw ⟨h.1, h.2.1, h.2.2.1, by rw [← ht]; exact hB.2, hS⟩)
theorem g_callSv {y : MethodName} {bytes : ByteArray} {maxL n index : Nat} {rt : Option FieldType} {ws : List Cond} {rm : Room} {As st0 : List Value} {post : kM → Prop} (C : Cx p s m args meth c cc nL ret Ts own) (h : Gw g s f H locs)
    (hM : MetV l y ws rm g As f post) (cw : CallB R s args own index y bytes maxL rt ws rm 0 0 n ∧ (Cond.static y).before args s = true) (hn : As.length = n) (hsize : lv_has ls nL []) (hst : st0 = As.reverse ++ rest) (hW : (rest.map fun v => v.category).sum ≤ 8) (hdg : decode cc pc = .ok (.invokestatic index, 3)) (hf : cells ≤ R.cells ∧ slots ≤ R.slots)
    (kk : ∀ (f1 : kM) (H1 : Heap) (locs1 : List Loc), post f1 → Gw g s f1 H1 locs1 → W p l e R s m args below meth c H1 locs1 cells slots Q (F0 m (pc + 3) ls rest)) : W p l e R s m args below meth c H locs cells slots Q (F0 m pc ls st0) :=
  va_callv (va_runS (As := As) (rest := rest) (⟨C.1, C.2.1, C.2.2.1, C.2.2.2.1, C.2.2.2.2.1⟩ : CallFix p m c cc nL s args Ts own) hM cw ⟨Kpre_blind, fun U hU hWm => ⟨rfl, h.pre U hU hWm⟩⟩ rfl hn hsize.1 hst (lv_room hW) hdg hf) h.2.2.2.2 (fun _ _ q => q) (fun _ q => q) (fun u t H1 locs1 ht _ hw hB _ _ hS => kk u H1 locs1 hw ⟨h.1, h.2.1, h.2.2.1, by rw [← ht]; exact hB.2, hS⟩)
end KROWS
end
section
theorem yk {y o : Nat} (hy : y < 3) (ho : o < 34) : 21 + 34 * y + o < kN := by unfold kN; omega
theorem rk {e : Nat} (h : e < 4) : 9 + 2 * e < kN := by unfold kN; omega
theorem rk2 {e : Nat} (h : e < 4) : 10 + 2 * e < kN := by unfold kN; omega
theorem ers_o (g : kG) {e : Nat} (h : e < 4) (r : Nat → Int32) : cE g (9 + 2 * e) r = .inr (2, [.ref (g.1 (10 + 2 * e))]) := by
  rcases (show e = 0 ∨ e = 1 ∨ e = 2 ∨ e = 3 by omega) with rfl | rfl | rfl | rfl <;> rfl
theorem ers_v (g : kG) {e : Nat} (h : e < 4) (r : Nat → Int32) : cE g (10 + 2 * e) r = .inl (g.2.2.1 1, 12, .inl r) := by
  rcases (show e = 0 ∨ e = 1 ∨ e = 2 ∨ e = 3 by omega) with rfl | rfl | rfl | rfl <;> rfl
theorem eom (g : kG) {y i : Nat} (hy : y < 3) (hi : i < 13) (r : Nat → Int32) : cE g (21 + 34 * y + (2 + i)) r = .inl (g.2.2.1 1, 24, .inl r) := by
  rcases (show y = 0 ∨ y = 1 ∨ y = 2 by omega) with rfl | rfl | rfl <;> rcases (show i = 0 ∨ i = 1 ∨ i = 2 ∨ i = 3 ∨ i = 4 ∨ i = 5 ∨ i = 6 ∨ i = 7 ∨ i = 8 ∨ i = 9 ∨ i = 10 ∨ i = 11 ∨ i = 12 by omega) with rfl | rfl | rfl | rfl | rfl | rfl | rfl | rfl | rfl | rfl | rfl | rfl | rfl <;> rfl
theorem eot (g : kG) {y i : Nat} (hy : y < 3) (hi : i < 10) (r : Nat → Int32) : cE g (21 + 34 * y + (16 + i)) r = .inl (g.2.2.1 1, 52, .inl r) := by
  rcases (show y = 0 ∨ y = 1 ∨ y = 2 by omega) with rfl | rfl | rfl <;> rcases (show i = 0 ∨ i = 1 ∨ i = 2 ∨ i = 3 ∨ i = 4 ∨ i = 5 ∨ i = 6 ∨ i = 7 ∨ i = 8 ∨ i = 9 by omega) with rfl | rfl | rfl | rfl | rfl | rfl | rfl | rfl | rfl | rfl <;> rfl
theorem ys_rs (g : kG) {y e : Nat} (hy : y < 3) (he : e < 4) (r : Nat → Int32) : (.inr (4, [.ref (g.1 3), .ref (g.1 ((21 + 34 * y) + 1)), .ref (g.1 ((21 + 34 * y) + 15)), .ref (g.1 ((21 + 34 * y) + 26)), .ref (g.1 ((21 + 34 * y) + 27)), .ref (g.1 ((21 + 34 * y) + 28)), .ref (g.1 ((21 + 34 * y) + 29)), .ref (g.1 ((21 + 34 * y) + 30)), .ref (g.1 ((21 + 34 * y) + 31)), .ref (g.1 ((21 + 34 * y) + 32)), .ref (g.1 ((21 + 34 * y) + 33)), .int (r 11), .int (r 12), .int (r 13), .ref (g.1 (9 + 2 * e))]) : va_E) = cE g (21 + 34 * y + 0) (upd r 14 (nI e)) := by
  rw [ey_Y g hy]
  simp [upd, nI_clamp (show e < 2 ^ 31 by omega)]
section KH
variable {p : Program} {l : Launch} {e : Env} {R : Room} {s : State} {m : MethodId} {args : Array Value} {below : List Frame} {meth : Method} {c : Code} {H : Heap} {locs : List Loc} {cells slots : Nat} {Q : State → Prop} {pc : Nat} {ls : Array Slot} {rest : List Value}
theorem k_top {x y : Int32} (h : x = y) (kk : W p l e R s m args below meth c H locs cells slots Q (F0 m pc ls (.int y :: rest))) : W p l e R s m args below meth c H locs cells slots Q (F0 m pc ls (.int x :: rest)) := by rw [h]; exact kk
end KH
theorem k_pred {n : Nat} (h : 0 < n) : nI n - 1 = nI (n - 1) := by
  obtain ⟨k, rfl⟩ : ∃ k, n = k + 1 := ⟨n - 1, by omega⟩
  exact nI_pred k
theorem k_lt (a b : Int32) : a < b ↔ a.toInt < b.toInt := Int32.lt_iff_toInt_lt
theorem k_le (a b : Int32) : a ≤ b ↔ a.toInt ≤ b.toInt := Int32.le_iff_toInt_le
theorem k_eq (a b : Int32) : a = b ↔ a.toInt = b.toInt := ⟨fun h => by rw [h], fun h => Int32.toInt_inj.mp h⟩
/-- an int between two naturals is a natural -/
theorem k_nat {x : Int32} {a b : Nat} (h1 : ¬ x.toInt < a) (h2 : ¬ (b : Int) < x.toInt) : ∃ j : Nat, a ≤ j ∧ j ≤ b ∧ x = nI j := by
  have hlt := x.toInt_lt
  obtain ⟨j, hj⟩ : ∃ j : Nat, x.toInt = (j : Int) := ⟨x.toInt.toNat, by omega⟩
  refine ⟨j, by omega, by omega, ?_⟩
  rw [k_eq, hj, nI_toInt (by omega)]
/-- a switch: outside its table, or at one of its places -/
theorem k_sw {x : Int32} (lo n : Nat) (hn : lo + n < 2 ^ 31) : (x.toInt < (lo : Int) ∨ (lo : Int) + n ≤ x.toInt) ∨ ∃ q : Nat, q < n ∧ x = nI (lo + q) := by
  by_cases h : x.toInt < (lo : Int) ∨ (lo : Int) + n ≤ x.toInt
  · exact Or.inl h
  · right
    have h1 : ¬ x.toInt < (lo : Int) := fun q => h (Or.inl q)
    have h2 : ¬ (lo : Int) + n ≤ x.toInt := fun q => h (Or.inr q)
    obtain ⟨j, a, b, e⟩ := k_nat (x := x) (a := lo) (b := lo + n - 1) h1 (by omega)
    exact ⟨j - lo, by omega, by rw [e]; congr 1; omega⟩
theorem k_swo {x : Int32} {lo n : Nat} {a b : Int} (h : x.toInt < (lo : Int) ∨ (lo : Int) + n ≤ x.toInt) (h2 : (lo : Int) = a ∧ (lo : Int) + n = b + 1) : x.toInt < a ∨ b < x.toInt := by omega
theorem k_clamp {x : Int32} {a b : Int32} {n : Nat} (ha : ¬ x < a) (hb : x ≤ b) (ea : a = nI n) {k : Nat} (eb : b = nI k) (hn : n < 2 ^ 31) (hk : k < 2 ^ 31) : ∃ j : Nat, n ≤ j ∧ j ≤ k ∧ x = nI j := by
  rw [k_lt, ea, nI_toInt hn] at ha
  rw [k_le, eb, nI_toInt hk] at hb
  exact k_nat ha (by omega)
theorem k_btw {x a b : Int32} {n k : Nat} (ha : ¬ x < a) (hb : ¬ b < x) (ea : a = nI n) (eb : b = nI k) (hn : n < 2 ^ 31) (hk : k < 2 ^ 31) : ∃ j : Nat, n ≤ j ∧ j ≤ k ∧ x = nI j := by
  rw [k_lt, ea, nI_toInt hn] at ha
  rw [k_lt, eb, nI_toInt hk] at hb
  exact k_nat ha hb
theorem k_below {x : Int32} {n : Nat} (ha : ¬ x < 0) (hb : x < nI n) (hn : n < 2 ^ 31) : ∃ j : Nat, j < n ∧ x = nI j := by
  obtain ⟨j, hj, e⟩ := nI_of ha
  rw [e] at hb
  exact ⟨j, (nI_ltI hj hn).mp hb, e⟩
theorem k_below2 {x : Int32} {n : Nat} (ha : ¬ x < 0) (hb : ¬ nI n ≤ x) (hn : n < 2 ^ 31) : ∃ j : Nat, j < n ∧ x = nI j := by
  obtain ⟨j, hj, e⟩ := nI_of ha
  rw [e, nI_leI hn hj] at hb
  exact ⟨j, by omega, e⟩
end
section
set_option maxHeartbeats 4000000 in
set_option maxRecDepth 100000 in
/-- Log.isMember(m) -/
theorem c_isMember (l : Launch) {g : kG} (hg : Gd g) (f : kM) (m0 : Int32) : MetI l yX0_isMember wsX0_isMember ({ frames := 0, cells := 0, slots := 0, locals := 0 }) g [.ref (g.1 3), .int m0] f (fun r f1 => f1 = f ∧ (r = 1 ∧ ¬ m0 < 0 ∧ ¬ f 3 6 ≤ m0 ∨ r = 0 ∧ (m0 < 0 ∨ f 3 6 ≤ m0))) := by
  refine MetI.of (cc := cX0_isMember) (maxL := 2) (ret := (some .boolean)) hg (by decide) rfl (Nat.le_of_ble_eq_true rfl) ?_
  intro p e s m below meth c C hG ls hl
  have hx := C.1
  have hb := C.2.1
  have hown := C.2.2.2.1
  have hts := C.2.2.2.2.1
  have I_X0 : ∀ w ∈ u_ws RX0 TX0 7, w ∈ wsX0_isMember := fun w h => List.mem_cons_of_mem _ (List.mem_append_right _ h)
  have L_24 := hts (.fieldLink RX0 24 "KeyBox$Log" "memberCount" "I") (by decide +kernel)
  have hl : lv_has ls 2 [(0, .ref (g.1 3)), (1, .int m0)] := hl
  refine lv_iload_n hx hb dX0_isMember_0 rfl (lv_at hl 1 rfl) ?_
  refine lv_if_lt (tgt := 16) hx hb dX0_isMember_1 (by decide) (fun c1 => ?_) (fun c1 => ?_)
  · refine lv_iconst (v := 0) hx hb dX0_isMember_16 (by decide) ?_
    exact g_zret (v := 0) C hG rfl (by simp [c1]) dX0_isMember_17
  · refine lv_iload_n hx hb dX0_isMember_4 rfl (lv_at hl 1 rfl) ?_
    refine lv_aload_n hx hb dX0_isMember_5 rfl (lv_at hl 0 rfl) ?_
    refine g_get (D := RX0) (T := TX0) (N := 7) (v := .int (f 3 6)) C I_X0 hG 3 (by decide) (e_LG g _) rfl 6 (by decide) L_24 rfl rfl dX0_isMember_6 ?_
    refine lv_icmp_ge (tgt := 16) hx hb dX0_isMember_9 (by decide) (fun c2 => ?_) (fun c2 => ?_)
    · refine lv_iconst (v := 0) hx hb dX0_isMember_16 (by decide) ?_
      exact g_zret (v := 0) C hG rfl (by simp [c1, c2]) dX0_isMember_17
    · refine lv_iconst (v := 1) hx hb dX0_isMember_12 (by decide) ?_
      refine lv_goto (tgt := 17) hx hb dX0_isMember_13 (by decide) ?_
      exact g_zret (v := 1) C hG rfl (by simp [c1, c2]) dX0_isMember_17

set_option maxHeartbeats 4000000 in
set_option maxRecDepth 100000 in
/-- Log.isMeeting(m) -/
theorem c_isMeeting (l : Launch) {g : kG} (hg : Gd g) (f : kM) (m0 : Int32) : MetI l yX0_isMeeting wsX0_isMeeting ({ frames := 0, cells := 0, slots := 0, locals := 0 }) g [.ref (g.1 3), .int m0] f (fun r f1 => f1 = f ∧ (r = 1 ∧ ¬ m0 < 0 ∧ ¬ f 3 5 ≤ m0 ∨ r = 0 ∧ (m0 < 0 ∨ f 3 5 ≤ m0))) := by
  refine MetI.of (cc := cX0_isMeeting) (maxL := 2) (ret := (some .boolean)) hg (by decide) rfl (Nat.le_of_ble_eq_true rfl) ?_
  intro p e s m below meth c C hG ls hl
  have hx := C.1
  have hb := C.2.1
  have hown := C.2.2.2.1
  have hts := C.2.2.2.2.1
  have I_X0 : ∀ w ∈ u_ws RX0 TX0 7, w ∈ wsX0_isMeeting := fun w h => List.mem_cons_of_mem _ (List.mem_append_right _ h)
  have L_28 := hts (.fieldLink RX0 28 "KeyBox$Log" "meetingCount" "I") (by decide +kernel)
  have hl : lv_has ls 2 [(0, .ref (g.1 3)), (1, .int m0)] := hl
  refine lv_iload_n hx hb dX0_isMeeting_0 rfl (lv_at hl 1 rfl) ?_
  refine lv_if_lt (tgt := 16) hx hb dX0_isMeeting_1 (by decide) (fun c1 => ?_) (fun c1 => ?_)
  · refine lv_iconst (v := 0) hx hb dX0_isMeeting_16 (by decide) ?_
    exact g_zret (v := 0) C hG rfl (by simp [c1]) dX0_isMeeting_17
  · refine lv_iload_n hx hb dX0_isMeeting_4 rfl (lv_at hl 1 rfl) ?_
    refine lv_aload_n hx hb dX0_isMeeting_5 rfl (lv_at hl 0 rfl) ?_
    refine g_get (D := RX0) (T := TX0) (N := 7) (v := .int (f 3 5)) C I_X0 hG 3 (by decide) (e_LG g _) rfl 5 (by decide) L_28 rfl rfl dX0_isMeeting_6 ?_
    refine lv_icmp_ge (tgt := 16) hx hb dX0_isMeeting_9 (by decide) (fun c2 => ?_) (fun c2 => ?_)
    · refine lv_iconst (v := 0) hx hb dX0_isMeeting_16 (by decide) ?_
      exact g_zret (v := 0) C hG rfl (by simp [c1, c2]) dX0_isMeeting_17
    · refine lv_iconst (v := 1) hx hb dX0_isMeeting_12 (by decide) ?_
      refine lv_goto (tgt := 17) hx hb dX0_isMeeting_13 (by decide) ?_
      exact g_zret (v := 1) C hG rfl (by simp [c1, c2]) dX0_isMeeting_17

set_option maxHeartbeats 4000000 in
set_option maxRecDepth 100000 in
/-- Log.setMembers(n) -/
theorem c_setMembers (l : Launch) {g : kG} (hg : Gd g) (f : kM) (n0 : Int32) : MetI l yX0_setMembers wsX0_setMembers ({ frames := 0, cells := 0, slots := 0, locals := 0 }) g [.ref (g.1 3), .int n0] f (fun r f1 => (n0 < 3 ∨ ¬ n0 ≤ 24) ∧ r = -2 ∧ f1 = f ∨ ¬ (n0 < 3 ∨ ¬ n0 ≤ 24) ∧ (¬ f 3 4 ≤ 0 ∧ r = -4 ∧ f1 = f ∨ f 3 4 ≤ 0 ∧ r = 1 ∧ f1 = mu f 3 6 n0)) := by
  refine MetI.of (cc := cX0_setMembers) (maxL := 2) (ret := (some .int)) hg (by decide) rfl (Nat.le_of_ble_eq_true rfl) ?_
  intro p e s m below meth c C hG ls hl
  have hx := C.1
  have hb := C.2.1
  have hown := C.2.2.2.1
  have hts := C.2.2.2.2.1
  have I_X0 : ∀ w ∈ u_ws RX0 TX0 7, w ∈ wsX0_setMembers := fun w h => List.mem_cons_of_mem _ (List.mem_append_right _ h)
  have L_24 := hts (.fieldLink RX0 24 "KeyBox$Log" "memberCount" "I") (by decide +kernel)
  have L_31 := hts (.fieldLink RX0 31 "KeyBox$Log" "size" "I") (by decide +kernel)
  have hl : lv_has ls 2 [(0, .ref (g.1 3)), (1, .int n0)] := hl
  refine lv_iload_n hx hb dX0_setMembers_0 rfl (lv_at hl 1 rfl) ?_
  refine lv_iconst (v := 3) hx hb dX0_setMembers_1 (by decide) ?_
  refine lv_icmp_lt (tgt := 11) hx hb dX0_setMembers_2 (by decide) (fun c1 => ?_) (fun c1 => ?_)
  · refine lv_bipush (v := (-2)) hx hb dX0_setMembers_11 (by decide) ?_
    exact g_iret (v := (-2)) C hG (by simp [c1]) dX0_setMembers_13
  · refine lv_iload_n hx hb dX0_setMembers_5 rfl (lv_at hl 1 rfl) ?_
    refine lv_bipush (v := 24) hx hb dX0_setMembers_6 (by decide) ?_
    refine lv_icmp_le (tgt := 14) hx hb dX0_setMembers_8 (by decide) (fun c2 => ?_) (fun c2 => ?_)
    · refine lv_aload_n hx hb dX0_setMembers_14 rfl (lv_at hl 0 rfl) ?_
      refine g_get (D := RX0) (T := TX0) (N := 7) (v := .int (f 3 4)) C I_X0 hG 3 (by decide) (e_LG g _) rfl 4 (by decide) L_31 rfl rfl dX0_setMembers_15 ?_
      refine lv_if_le (tgt := 24) hx hb dX0_setMembers_18 (by decide) (fun c3 => ?_) (fun c3 => ?_)
      · refine lv_aload_n hx hb dX0_setMembers_24 rfl (lv_at hl 0 rfl) ?_
        refine lv_iload_n hx hb dX0_setMembers_25 rfl (lv_at hl 1 rfl) ?_
        refine g_put (D := RX0) (T := TX0) (N := 7) (ty := .int) (v := .int n0) (x := n0) C I_X0 tyX0 tyX0_ok nmX0 hG 3 (by decide) (e_LG g _) rfl 6 (by decide) L_24 rfl rfl (by decide +kernel) rfl rfl (Nat.le_of_ble_eq_true rfl) (by rw [e_LG g] ; rfl) dX0_setMembers_26 (fun H locs hG => ?_)
        refine lv_iconst (v := 1) hx hb dX0_setMembers_29 (by decide) ?_
        exact g_iret (v := 1) C hG (by simp [c1, c2, c3]) dX0_setMembers_30
      · refine lv_bipush (v := (-4)) hx hb dX0_setMembers_21 (by decide) ?_
        exact g_iret (v := (-4)) C hG (by simp [c1, c2, c3]) dX0_setMembers_23
    · refine lv_bipush (v := (-2)) hx hb dX0_setMembers_11 (by decide) ?_
      exact g_iret (v := (-2)) C hG (by simp [c1, c2]) dX0_setMembers_13

set_option maxHeartbeats 4000000 in
set_option maxRecDepth 100000 in
/-- Log.latestWeek(): M meetings, the latest at entry J -/
theorem c_latestWeek (l : Launch) {g : kG} (hg : Gd g) (f : kM) {M J : Nat} (h1 : f 3 5 = nI M) (hM : M ≤ 52) (h2 : 0 < M → f 7 (M - 1) = nI J ∧ J < 300) : MetI l yX0_latestWeek wsX0_latestWeek ({ frames := 0, cells := 0, slots := 0, locals := 0 }) g [.ref (g.1 3)] f (fun r f1 => f1 = f ∧ (M = 0 ∧ r = -1 ∨ 0 < M ∧ r = f 5 J)) := by
  refine MetI.of (cc := cX0_latestWeek) (maxL := 1) (ret := (some .int)) hg (by decide) rfl (Nat.le_of_ble_eq_true rfl) ?_
  intro p e s m below meth c C hG ls hl
  have hx := C.1
  have hb := C.2.1
  have hown := C.2.2.2.1
  have hts := C.2.2.2.2.1
  have I_X0 : ∀ w ∈ u_ws RX0 TX0 7, w ∈ wsX0_latestWeek := fun w h => List.mem_cons_of_mem _ (List.mem_append_right _ h)
  have L_15 := hts (.fieldLink RX0 15 "KeyBox$Log" "whos" "[I") (by decide +kernel)
  have L_21 := hts (.fieldLink RX0 21 "KeyBox$Log" "starts" "[I") (by decide +kernel)
  have L_28 := hts (.fieldLink RX0 28 "KeyBox$Log" "meetingCount" "I") (by decide +kernel)
  have hl : lv_has ls 1 [(0, .ref (g.1 3))] := hl
  refine lv_aload_n hx hb dX0_latestWeek_0 rfl (lv_at hl 0 rfl) ?_
  refine g_get (D := RX0) (T := TX0) (N := 7) (v := .int (f 3 5)) C I_X0 hG 3 (by decide) (e_LG g _) rfl 5 (by decide) L_28 rfl rfl dX0_latestWeek_1 ?_
  refine k_top (y := nI M) h1 ?_
  refine lv_if_ne (tgt := 11) hx hb dX0_latestWeek_4 (by decide) (fun c1 => ?_) (fun c1 => ?_)
  · have dc1 : ¬ M = 0 := fun q9 => c1 ((nI_eq (a := M) (b := 0) (by omega) (by omega)).mpr q9)
    have hM0 : 0 < M := Nat.pos_of_ne_zero dc1
    refine lv_aload_n hx hb dX0_latestWeek_11 rfl (lv_at hl 0 rfl) ?_
    refine g_get (D := RX0) (T := TX0) (N := 7) (v := .ref (g.1 5)) C I_X0 hG 3 (by decide) (e_LG g _) rfl 1 (by decide) L_15 rfl rfl dX0_latestWeek_12 ?_
    refine lv_aload_n hx hb dX0_latestWeek_15 rfl (lv_at hl 0 rfl) ?_
    refine g_get (D := RX0) (T := TX0) (N := 7) (v := .ref (g.1 7)) C I_X0 hG 3 (by decide) (e_LG g _) rfl 3 (by decide) L_21 rfl rfl dX0_latestWeek_16 ?_
    refine lv_aload_n hx hb dX0_latestWeek_19 rfl (lv_at hl 0 rfl) ?_
    refine g_get (D := RX0) (T := TX0) (N := 7) (v := .int (f 3 5)) C I_X0 hG 3 (by decide) (e_LG g _) rfl 5 (by decide) L_28 rfl rfl dX0_latestWeek_20 ?_
    refine k_top (y := nI M) h1 ?_
    refine lv_iconst (v := 1) hx hb dX0_latestWeek_23 (by decide) ?_
    refine lv_isub hx hb dX0_latestWeek_24 ?_
    refine k_top (y := nI (M - 1)) (k_pred hM0) ?_
    refine g_iald C hG 7 (by decide) (e_starts g) (M - 1) rfl (by omega) (by decide) dX0_latestWeek_25 ?_
    refine k_top (y := nI J) (h2 hM0).1 ?_
    refine g_iald C hG 5 (by decide) (e_whos g) J rfl (h2 hM0).2 (by decide) dX0_latestWeek_26 ?_
    exact g_iret (v := f 5 J) C hG (by simp [dc1, hM0]) dX0_latestWeek_27
  · have dc1 : M = 0 := (nI_eq (a := M) (b := 0) (by omega) (by omega)).mp c1
    refine lv_iconst (v := (-1)) hx hb dX0_latestWeek_7 (by decide) ?_
    refine lv_goto (tgt := 27) hx hb dX0_latestWeek_8 (by decide) ?_
    exact g_iret (v := (-1)) C hG (by simp [dc1]) dX0_latestWeek_27

set_option maxHeartbeats 4000000 in
set_option maxRecDepth 100000 in
/-- Log.add(kind, who, amount): an entry more -/
theorem c_add (l : Launch) {g : kG} (hg : Gd g) (f : kM) {Z : Nat} (k0 w0 a0 : Int32) (hZ : f 3 4 = nI Z) (hZ2 : Z < 300) : MetI l yX0_add wsX0_add ({ frames := 0, cells := 0, slots := 0, locals := 0 }) g [.ref (g.1 3), .int k0, .int w0, .int a0] f (fun r f1 => r = nI Z ∧ f1 = mu (mu (mu (mu f 4 Z k0) 5 Z w0) 6 Z a0) 3 4 (nI (Z + 1))) := by
  refine MetI.of (cc := cX0_add) (maxL := 4) (ret := (some .int)) hg (by decide) rfl (Nat.le_of_ble_eq_true rfl) ?_
  intro p e s m below meth c C hG ls hl
  have hx := C.1
  have hb := C.2.1
  have hown := C.2.2.2.1
  have hts := C.2.2.2.2.1
  have I_X0 : ∀ w ∈ u_ws RX0 TX0 7, w ∈ wsX0_add := fun w h => List.mem_cons_of_mem _ (List.mem_append_right _ h)
  have L_11 := hts (.fieldLink RX0 11 "KeyBox$Log" "kinds" "[I") (by decide +kernel)
  have L_15 := hts (.fieldLink RX0 15 "KeyBox$Log" "whos" "[I") (by decide +kernel)
  have L_18 := hts (.fieldLink RX0 18 "KeyBox$Log" "amounts" "[I") (by decide +kernel)
  have L_31 := hts (.fieldLink RX0 31 "KeyBox$Log" "size" "I") (by decide +kernel)
  have hl : lv_has ls 4 [(0, .ref (g.1 3)), (1, .int k0), (2, .int w0), (3, .int a0)] := hl
  refine lv_aload_n hx hb dX0_add_0 rfl (lv_at hl 0 rfl) ?_
  refine g_get (D := RX0) (T := TX0) (N := 7) (v := .ref (g.1 4)) C I_X0 hG 3 (by decide) (e_LG g _) rfl 0 (by decide) L_11 rfl rfl dX0_add_1 ?_
  refine lv_aload_n hx hb dX0_add_4 rfl (lv_at hl 0 rfl) ?_
  refine g_get (D := RX0) (T := TX0) (N := 7) (v := .int (f 3 4)) C I_X0 hG 3 (by decide) (e_LG g _) rfl 4 (by decide) L_31 rfl rfl dX0_add_5 ?_
  refine k_top (y := nI Z) (by simp [mu, ru, upd, hZ]) ?_
  refine lv_iload_n hx hb dX0_add_8 rfl (lv_at hl 1 rfl) ?_
  refine g_iast C hG 4 (by decide) (e_kinds g) Z rfl hZ2 (by decide) dX0_add_9 (fun H locs hG => ?_)
  refine lv_aload_n hx hb dX0_add_10 rfl (lv_at hl 0 rfl) ?_
  refine g_get (D := RX0) (T := TX0) (N := 7) (v := .ref (g.1 5)) C I_X0 hG 3 (by decide) (e_LG g _) rfl 1 (by decide) L_15 rfl rfl dX0_add_11 ?_
  refine lv_aload_n hx hb dX0_add_14 rfl (lv_at hl 0 rfl) ?_
  refine g_get (D := RX0) (T := TX0) (N := 7) (v := .int ((mu f 4 Z k0) 3 4)) C I_X0 hG 3 (by decide) (e_LG g _) rfl 4 (by decide) L_31 rfl rfl dX0_add_15 ?_
  refine k_top (y := nI Z) (by simp [mu, ru, upd, hZ]) ?_
  refine lv_iload_n hx hb dX0_add_18 rfl (lv_at hl 2 rfl) ?_
  refine g_iast C hG 5 (by decide) (e_whos g) Z rfl hZ2 (by decide) dX0_add_19 (fun H locs hG => ?_)
  refine lv_aload_n hx hb dX0_add_20 rfl (lv_at hl 0 rfl) ?_
  refine g_get (D := RX0) (T := TX0) (N := 7) (v := .ref (g.1 6)) C I_X0 hG 3 (by decide) (e_LG g _) rfl 2 (by decide) L_18 rfl rfl dX0_add_21 ?_
  refine lv_aload_n hx hb dX0_add_24 rfl (lv_at hl 0 rfl) ?_
  refine g_get (D := RX0) (T := TX0) (N := 7) (v := .int ((mu (mu f 4 Z k0) 5 Z w0) 3 4)) C I_X0 hG 3 (by decide) (e_LG g _) rfl 4 (by decide) L_31 rfl rfl dX0_add_25 ?_
  refine k_top (y := nI Z) (by simp [mu, ru, upd, hZ]) ?_
  refine lv_iload_n hx hb dX0_add_28 rfl (lv_at hl 3 rfl) ?_
  refine g_iast C hG 6 (by decide) (e_amounts g) Z rfl hZ2 (by decide) dX0_add_29 (fun H locs hG => ?_)
  refine lv_aload_n hx hb dX0_add_30 rfl (lv_at hl 0 rfl) ?_
  refine lv_dup hx hb dX0_add_31 rfl ?_
  refine g_get (D := RX0) (T := TX0) (N := 7) (v := .int ((mu (mu (mu f 4 Z k0) 5 Z w0) 6 Z a0) 3 4)) C I_X0 hG 3 (by decide) (e_LG g _) rfl 4 (by decide) L_31 rfl rfl dX0_add_32 ?_
  refine k_top (y := nI Z) (by simp [mu, ru, upd, hZ]) ?_
  refine lv_iconst (v := 1) hx hb dX0_add_35 (by decide) ?_
  refine lv_iadd hx hb dX0_add_36 ?_
  refine k_top (y := nI (Z + 1)) (nI_add Z 1) ?_
  refine g_put (D := RX0) (T := TX0) (N := 7) (ty := .int) (v := .int (nI (Z + 1))) (x := nI (Z + 1)) C I_X0 tyX0 tyX0_ok nmX0 hG 3 (by decide) (e_LG g _) rfl 4 (by decide) L_31 rfl rfl (by decide +kernel) rfl rfl (Nat.le_of_ble_eq_true rfl) (by rw [e_LG g] ; rfl) dX0_add_37 (fun H locs hG => ?_)
  refine lv_aload_n hx hb dX0_add_40 rfl (lv_at hl 0 rfl) ?_
  refine g_get (D := RX0) (T := TX0) (N := 7) (v := .int ((mu (mu (mu (mu f 4 Z k0) 5 Z w0) 6 Z a0) 3 4 (nI (Z + 1))) 3 4)) C I_X0 hG 3 (by decide) (e_LG g _) rfl 4 (by decide) L_31 rfl rfl dX0_add_41 ?_
  refine k_top (y := nI (Z + 1)) (by simp [mu, ru, upd]) ?_
  refine lv_iconst (v := 1) hx hb dX0_add_44 (by decide) ?_
  refine lv_isub hx hb dX0_add_45 ?_
  refine k_top (y := nI Z) (nI_pred Z) ?_
  exact g_iret (v := nI Z) C hG ⟨rfl, rfl⟩ dX0_add_46

set_option maxHeartbeats 4000000 in
set_option maxRecDepth 100000 in
/-- Log.addMeeting(week, there) -/
theorem c_addMeeting (l : Launch) {g : kG} (hg : Gd g) (f : kM) {M J Z : Nat} (w0 t0 : Int32) (h1 : f 3 5 = nI M) (hM : M ≤ 52) (h2 : 0 < M → f 7 (M - 1) = nI J ∧ J < 300) (hZ : f 3 4 = nI Z) (hZ2 : Z ≤ 300) : MetI l yX0_addMeeting wsX0_addMeeting ({ frames := 1, cells := 0, slots := 0, locals := 23 }) g [.ref (g.1 3), .int w0, .int t0] f (fun r f1 => ∃ lw : Int32, (M = 0 ∧ lw = -1 ∨ 0 < M ∧ lw = f 5 J) ∧ ((w0 ≤ lw ∨ 52 ≤ w0 ∨ t0 < 0 ∨ ¬ t0 < 1 <<< (f 3 6 &&& 31)) ∧ r = -2 ∧ f1 = f ∨ ¬ (w0 ≤ lw ∨ 52 ≤ w0 ∨ t0 < 0 ∨ ¬ t0 < 1 <<< (f 3 6 &&& 31)) ∧ ((300 ≤ Z ∨ 52 ≤ M) ∧ r = -3 ∧ f1 = f ∨ Z < 300 ∧ M < 52 ∧ r = nI Z ∧ f1 = mu (mu (mu (mu (mu (mu f 7 M (nI Z)) 3 5 (nI (M + 1))) 4 Z 0) 5 Z w0) 6 Z t0) 3 4 (nI (Z + 1))))) := by
  refine MetI.of (cc := cX0_addMeeting) (maxL := 3) (ret := (some .int)) hg (by decide) rfl (Nat.le_of_ble_eq_true rfl) ?_
  intro p e s m below meth c C hG ls hl
  have hx := C.1
  have hb := C.2.1
  have hown := C.2.2.2.1
  have hts := C.2.2.2.2.1
  have I_X0 : ∀ w ∈ u_ws RX0 TX0 7, w ∈ wsX0_addMeeting := fun w h => List.mem_cons_of_mem _ (List.mem_append_right _ h)
  have L_21 := hts (.fieldLink RX0 21 "KeyBox$Log" "starts" "[I") (by decide +kernel)
  have L_24 := hts (.fieldLink RX0 24 "KeyBox$Log" "memberCount" "I") (by decide +kernel)
  have L_28 := hts (.fieldLink RX0 28 "KeyBox$Log" "meetingCount" "I") (by decide +kernel)
  have L_31 := hts (.fieldLink RX0 31 "KeyBox$Log" "size" "I") (by decide +kernel)
  have hl : lv_has ls 3 [(0, .ref (g.1 3)), (1, .int w0), (2, .int t0)] := hl
  refine lv_iload_n hx hb dX0_addMeeting_0 rfl (lv_at hl 1 rfl) ?_
  refine lv_aload_n hx hb dX0_addMeeting_1 rfl (lv_at hl 0 rfl) ?_
  refine g_callVi C hG 3 (by decide) (e_LG g _) rfl (c_latestWeek l hg f h1 hM h2) (cwV 0 hts gX0_addMeeting_X0_latestWeek rfl rfl rfl (by decide +kernel) ⟨Nat.le_of_ble_eq_true rfl, Nat.le_of_ble_eq_true rfl⟩) rfl (lv_sub hl [] rfl) rfl (Nat.le_of_ble_eq_true rfl) dX0_addMeeting_2 ⟨Nat.zero_le _, Nat.zero_le _⟩ (fun r3 f1 H locs hp2 hG => ?_)
  rw [hp2.1] at hG
  obtain ⟨lw, elw, hlw⟩ : ∃ lw : Int32, lw = r3 ∧ (M = 0 ∧ lw = -1 ∨ 0 < M ∧ lw = f 5 J) := ⟨_, rfl, hp2.2⟩
  refine k_top (y := lw) elw.symm ?_
  refine lv_icmp_le (tgt := 28) hx hb dX0_addMeeting_5 (by decide) (fun c4 => ?_) (fun c4 => ?_)
  · refine lv_bipush (v := (-2)) hx hb dX0_addMeeting_28 (by decide) ?_
    exact g_iret (v := (-2)) C hG ⟨lw, hlw, Or.inl ⟨by simp [c4], rfl, rfl⟩⟩ dX0_addMeeting_30
  · refine lv_iload_n hx hb dX0_addMeeting_8 rfl (lv_at hl 1 rfl) ?_
    refine lv_bipush (v := 52) hx hb dX0_addMeeting_9 (by decide) ?_
    refine lv_icmp_ge (tgt := 28) hx hb dX0_addMeeting_11 (by decide) (fun c5 => ?_) (fun c5 => ?_)
    · refine lv_bipush (v := (-2)) hx hb dX0_addMeeting_28 (by decide) ?_
      exact g_iret (v := (-2)) C hG ⟨lw, hlw, Or.inl ⟨by simp [c4, c5], rfl, rfl⟩⟩ dX0_addMeeting_30
    · refine lv_iload_n hx hb dX0_addMeeting_14 rfl (lv_at hl 2 rfl) ?_
      refine lv_if_lt (tgt := 28) hx hb dX0_addMeeting_15 (by decide) (fun c6 => ?_) (fun c6 => ?_)
      · refine lv_bipush (v := (-2)) hx hb dX0_addMeeting_28 (by decide) ?_
        exact g_iret (v := (-2)) C hG ⟨lw, hlw, Or.inl ⟨by simp [c4, c5, c6], rfl, rfl⟩⟩ dX0_addMeeting_30
      · refine lv_iload_n hx hb dX0_addMeeting_18 rfl (lv_at hl 2 rfl) ?_
        refine lv_iconst (v := 1) hx hb dX0_addMeeting_19 (by decide) ?_
        refine lv_aload_n hx hb dX0_addMeeting_20 rfl (lv_at hl 0 rfl) ?_
        refine g_get (D := RX0) (T := TX0) (N := 7) (v := .int (f 3 6)) C I_X0 hG 3 (by decide) (e_LG g _) rfl 6 (by decide) L_24 rfl rfl dX0_addMeeting_21 ?_
        refine lv_ishl hx hb dX0_addMeeting_24 ?_
        refine k_top (y := (1 <<< (f 3 6 &&& 31))) rfl ?_
        refine lv_icmp_lt (tgt := 31) hx hb dX0_addMeeting_25 (by decide) (fun c7 => ?_) (fun c7 => ?_)
        · refine lv_aload_n hx hb dX0_addMeeting_31 rfl (lv_at hl 0 rfl) ?_
          refine g_get (D := RX0) (T := TX0) (N := 7) (v := .int (f 3 4)) C I_X0 hG 3 (by decide) (e_LG g _) rfl 4 (by decide) L_31 rfl rfl dX0_addMeeting_32 ?_
          refine k_top (y := nI Z) hZ ?_
          refine lv_sipush (v := 300) hx hb dX0_addMeeting_35 (by decide) ?_
          refine lv_icmp_ge (tgt := 50) hx hb dX0_addMeeting_38 (by decide) (fun c8 => ?_) (fun c8 => ?_)
          · have dc8 : 300 ≤ Z := (nI_leI (a := 300) (b := Z) (by omega) (by omega)).mp c8
            refine lv_bipush (v := (-3)) hx hb dX0_addMeeting_50 (by decide) ?_
            exact g_iret (v := (-3)) C hG ⟨lw, hlw, Or.inr ⟨by simp [c4, c5, c6, c7, dc8], Or.inl ⟨by omega, rfl, rfl⟩⟩⟩ dX0_addMeeting_52
          · have dc8 : ¬ 300 ≤ Z := fun q9 => c8 ((nI_leI (a := 300) (b := Z) (by omega) (by omega)).mpr q9)
            refine lv_aload_n hx hb dX0_addMeeting_41 rfl (lv_at hl 0 rfl) ?_
            refine g_get (D := RX0) (T := TX0) (N := 7) (v := .int (f 3 5)) C I_X0 hG 3 (by decide) (e_LG g _) rfl 5 (by decide) L_28 rfl rfl dX0_addMeeting_42 ?_
            refine k_top (y := nI M) h1 ?_
            refine lv_bipush (v := 52) hx hb dX0_addMeeting_45 (by decide) ?_
            refine lv_icmp_lt (tgt := 53) hx hb dX0_addMeeting_47 (by decide) (fun c9 => ?_) (fun c9 => ?_)
            · have dc9 : M < 52 := (nI_ltI (a := M) (b := 52) (by omega) (by omega)).mp c9
              refine lv_aload_n hx hb dX0_addMeeting_53 rfl (lv_at hl 0 rfl) ?_
              refine g_get (D := RX0) (T := TX0) (N := 7) (v := .ref (g.1 7)) C I_X0 hG 3 (by decide) (e_LG g _) rfl 3 (by decide) L_21 rfl rfl dX0_addMeeting_54 ?_
              refine lv_aload_n hx hb dX0_addMeeting_57 rfl (lv_at hl 0 rfl) ?_
              refine g_get (D := RX0) (T := TX0) (N := 7) (v := .int (f 3 5)) C I_X0 hG 3 (by decide) (e_LG g _) rfl 5 (by decide) L_28 rfl rfl dX0_addMeeting_58 ?_
              refine k_top (y := nI M) h1 ?_
              refine lv_aload_n hx hb dX0_addMeeting_61 rfl (lv_at hl 0 rfl) ?_
              refine g_get (D := RX0) (T := TX0) (N := 7) (v := .int (f 3 4)) C I_X0 hG 3 (by decide) (e_LG g _) rfl 4 (by decide) L_31 rfl rfl dX0_addMeeting_62 ?_
              refine k_top (y := nI Z) hZ ?_
              refine g_iast C hG 7 (by decide) (e_starts g) M rfl (by omega) (by decide) dX0_addMeeting_65 (fun H locs hG => ?_)
              refine lv_aload_n hx hb dX0_addMeeting_66 rfl (lv_at hl 0 rfl) ?_
              refine lv_dup hx hb dX0_addMeeting_67 rfl ?_
              refine g_get (D := RX0) (T := TX0) (N := 7) (v := .int ((mu f 7 M (nI Z)) 3 5)) C I_X0 hG 3 (by decide) (e_LG g _) rfl 5 (by decide) L_28 rfl rfl dX0_addMeeting_68 ?_
              refine k_top (y := nI M) (by simp [mu, ru, upd, h1]) ?_
              refine lv_iconst (v := 1) hx hb dX0_addMeeting_71 (by decide) ?_
              refine lv_iadd hx hb dX0_addMeeting_72 ?_
              refine k_top (y := nI (M + 1)) (nI_add M 1) ?_
              refine g_put (D := RX0) (T := TX0) (N := 7) (ty := .int) (v := .int (nI (M + 1))) (x := nI (M + 1)) C I_X0 tyX0 tyX0_ok nmX0 hG 3 (by decide) (e_LG g _) rfl 5 (by decide) L_28 rfl rfl (by decide +kernel) rfl rfl (Nat.le_of_ble_eq_true rfl) (by rw [e_LG g] ; rfl) dX0_addMeeting_73 (fun H locs hG => ?_)
              refine lv_aload_n hx hb dX0_addMeeting_76 rfl (lv_at hl 0 rfl) ?_
              refine lv_iconst (v := 0) hx hb dX0_addMeeting_77 (by decide) ?_
              refine lv_iload_n hx hb dX0_addMeeting_78 rfl (lv_at hl 1 rfl) ?_
              refine lv_iload_n hx hb dX0_addMeeting_79 rfl (lv_at hl 2 rfl) ?_
              refine g_callVi C hG 3 (by decide) (e_LG g _) rfl (c_add l hg _ (Z := Z) 0 w0 t0 (by simp [mu, ru, upd, hZ]) (by omega)) (cwV 3 hts gX0_addMeeting_X0_add rfl rfl rfl (by decide +kernel) ⟨Nat.le_of_ble_eq_true rfl, Nat.le_of_ble_eq_true rfl⟩) rfl (lv_sub hl [] rfl) rfl (Nat.le_of_ble_eq_true rfl) dX0_addMeeting_80 ⟨Nat.zero_le _, Nat.zero_le _⟩ (fun r12 f10 H locs hp11 hG => ?_)
              exact g_iret (v := r12) C hG ⟨lw, hlw, Or.inr ⟨by simp [c4, c5, c6, c7, dc8, dc9], Or.inr ⟨by omega, by omega, hp11.1, hp11.2⟩⟩⟩ dX0_addMeeting_83
            · have dc9 : ¬ M < 52 := fun q9 => c9 ((nI_ltI (a := M) (b := 52) (by omega) (by omega)).mpr q9)
              refine lv_bipush (v := (-3)) hx hb dX0_addMeeting_50 (by decide) ?_
              exact g_iret (v := (-3)) C hG ⟨lw, hlw, Or.inr ⟨by simp [c4, c5, c6, c7, dc8, dc9], Or.inl ⟨by omega, rfl, rfl⟩⟩⟩ dX0_addMeeting_52
        · refine lv_bipush (v := (-2)) hx hb dX0_addMeeting_28 (by decide) ?_
          exact g_iret (v := (-2)) C hG ⟨lw, hlw, Or.inl ⟨by simp [c4, c5, c6, c7], rfl, rfl⟩⟩ dX0_addMeeting_30

set_option maxHeartbeats 4000000 in
set_option maxRecDepth 100000 in
/-- Log.canBe(kind, m, n) -/
theorem c_canBe (l : Launch) {g : kG} (hg : Gd g) (f : kM) (k0 m0 n0 : Int32) : MetI l yX0_canBe wsX0_canBe ({ frames := 1, cells := 0, slots := 0, locals := 21 }) g [.ref (g.1 3), .int k0, .int m0, .int n0] f (fun r f1 => f1 = f ∧ ((r = 1 ∧ ∃ K : Nat, 1 ≤ K ∧ K ≤ 7 ∧ k0 = nI K ∧ ¬ n0 < tLeast K ∧ n0 ≤ tMost K ∧ (k0 = 7 ∧ m0 = 0 ∨ ¬ k0 = 7 ∧ ¬ m0 < 0 ∧ ¬ f 3 6 ≤ m0)) ∨ (r = 0 ∧ (k0 < 1 ∨ 7 < k0 ∨ ∃ K : Nat, 1 ≤ K ∧ K ≤ 7 ∧ k0 = nI K ∧ (n0 < tLeast K ∨ ¬ n0 ≤ tMost K ∨ k0 = 7 ∧ ¬ m0 = 0 ∨ ¬ k0 = 7 ∧ (m0 < 0 ∨ f 3 6 ≤ m0)))))) := by
  refine MetI.of (cc := cX0_canBe) (maxL := 4) (ret := (some .boolean)) hg (by decide) rfl (Nat.le_of_ble_eq_true rfl) ?_
  intro p e s m below meth c C hG ls hl
  have hx := C.1
  have hb := C.2.1
  have hown := C.2.2.2.1
  have hts := C.2.2.2.2.1
  have L_50 := hts (.fieldLink RX0 50 "KeyBox$Log" "LEAST_N" "[I") (by decide +kernel)
  have L_53 := hts (.fieldLink RX0 53 "KeyBox$Log" "MOST_N" "[I") (by decide +kernel)
  have hl : lv_has ls 4 [(0, .ref (g.1 3)), (1, .int k0), (2, .int m0), (3, .int n0)] := hl
  refine lv_iload_n hx hb dX0_canBe_0 rfl (lv_at hl 1 rfl) ?_
  refine lv_iconst (v := 1) hx hb dX0_canBe_1 (by decide) ?_
  refine lv_icmp_lt (tgt := 29) hx hb dX0_canBe_2 (by decide) (fun c1 => ?_) (fun c1 => ?_)
  · refine lv_iconst (v := 0) hx hb dX0_canBe_29 (by decide) ?_
    exact g_zret (v := 0) C hG rfl ⟨rfl, Or.inr ⟨rfl, Or.inl c1⟩⟩ dX0_canBe_30
  · refine lv_iload_n hx hb dX0_canBe_5 rfl (lv_at hl 1 rfl) ?_
    refine lv_bipush (v := 7) hx hb dX0_canBe_6 (by decide) ?_
    refine lv_icmp_gt (tgt := 29) hx hb dX0_canBe_8 (by decide) (fun c2 => ?_) (fun c2 => ?_)
    · refine lv_iconst (v := 0) hx hb dX0_canBe_29 (by decide) ?_
      exact g_zret (v := 0) C hG rfl ⟨rfl, Or.inr ⟨rfl, Or.inr (Or.inl c2)⟩⟩ dX0_canBe_30
    · obtain ⟨K, hK1, hK2, eK⟩ := k_btw (n := 1) (k := 7) c1 c2 rfl rfl (by decide) (by decide)
      refine lv_iload_n hx hb dX0_canBe_11 rfl (lv_at hl 3 rfl) ?_
      refine g_gets C hG hG.2.2.1.1 L_50 dX0_canBe_12 ?_
      refine lv_iload_n hx hb dX0_canBe_15 rfl (lv_at hl 1 rfl) ?_
      refine g_ti C hG hG.2.2.1.1 K eK (by omega) (by decide) dX0_canBe_16 ?_
      refine lv_icmp_lt (tgt := 29) hx hb dX0_canBe_17 (by decide) (fun c3 => ?_) (fun c3 => ?_)
      · refine lv_iconst (v := 0) hx hb dX0_canBe_29 (by decide) ?_
        exact g_zret (v := 0) C hG rfl ⟨rfl, Or.inr ⟨rfl, Or.inr (Or.inr ⟨K, hK1, hK2, eK, Or.inl c3⟩)⟩⟩ dX0_canBe_30
      · refine lv_iload_n hx hb dX0_canBe_20 rfl (lv_at hl 3 rfl) ?_
        refine g_gets C hG hG.2.2.1.2.1 L_53 dX0_canBe_21 ?_
        refine lv_iload_n hx hb dX0_canBe_24 rfl (lv_at hl 1 rfl) ?_
        refine g_ti C hG hG.2.2.1.2.1 K eK (by omega) (by decide) dX0_canBe_25 ?_
        refine lv_icmp_le (tgt := 31) hx hb dX0_canBe_26 (by decide) (fun c4 => ?_) (fun c4 => ?_)
        · refine lv_iload_n hx hb dX0_canBe_31 rfl (lv_at hl 1 rfl) ?_
          refine lv_bipush (v := 7) hx hb dX0_canBe_32 (by decide) ?_
          refine lv_icmp_ne (tgt := 49) hx hb dX0_canBe_34 (by decide) (fun c5 => ?_) (fun c5 => ?_)
          · refine lv_aload_n hx hb dX0_canBe_49 rfl (lv_at hl 0 rfl) ?_
            refine lv_iload_n hx hb dX0_canBe_50 rfl (lv_at hl 2 rfl) ?_
            refine g_callVi C hG 3 (by decide) (e_LG g _) rfl (c_isMember l hg f m0) (cwV 1 hts gX0_canBe_X0_isMember rfl rfl rfl (by decide +kernel) ⟨Nat.le_of_ble_eq_true rfl, Nat.le_of_ble_eq_true rfl⟩) rfl (lv_sub hl [] rfl) rfl (Nat.le_of_ble_eq_true rfl) dX0_canBe_51 ⟨Nat.zero_le _, Nat.zero_le _⟩ (fun r8 f6 H locs hp7 hG => ?_)
            rw [hp7.1] at hG
            exact g_zret (v := r8) C hG (by rcases hp7.2 with ⟨q, _⟩ | ⟨q, _⟩ <;> rw [q] <;> rfl) ⟨rfl, hp7.2.elim (fun q => Or.inl ⟨q.1, K, hK1, hK2, eK, c3, c4, Or.inr ⟨c5, q.2.1, q.2.2⟩⟩) (fun q => Or.inr ⟨q.1, Or.inr (Or.inr ⟨K, hK1, hK2, eK, Or.inr (Or.inr (Or.inr ⟨c5, q.2⟩))⟩)⟩)⟩ dX0_canBe_54
          · refine lv_iload_n hx hb dX0_canBe_37 rfl (lv_at hl 2 rfl) ?_
            refine lv_if_ne (tgt := 45) hx hb dX0_canBe_38 (by decide) (fun c9 => ?_) (fun c9 => ?_)
            · refine lv_iconst (v := 0) hx hb dX0_canBe_45 (by decide) ?_
              refine lv_goto (tgt := 54) hx hb dX0_canBe_46 (by decide) ?_
              exact g_zret (v := 0) C hG rfl ⟨rfl, Or.inr ⟨rfl, Or.inr (Or.inr ⟨K, hK1, hK2, eK, Or.inr (Or.inr (Or.inl ⟨c5, c9⟩))⟩)⟩⟩ dX0_canBe_54
            · refine lv_iconst (v := 1) hx hb dX0_canBe_41 (by decide) ?_
              refine lv_goto (tgt := 54) hx hb dX0_canBe_42 (by decide) ?_
              exact g_zret (v := 1) C hG rfl ⟨rfl, Or.inl ⟨rfl, K, hK1, hK2, eK, c3, c4, Or.inl ⟨c5, c9⟩⟩⟩ dX0_canBe_54
        · refine lv_iconst (v := 0) hx hb dX0_canBe_29 (by decide) ?_
          exact g_zret (v := 0) C hG rfl ⟨rfl, Or.inr ⟨rfl, Or.inr (Or.inr ⟨K, hK1, hK2, eK, Or.inr (Or.inl c4)⟩)⟩⟩ dX0_canBe_30

set_option maxHeartbeats 4000000 in
set_option maxRecDepth 100000 in
/-- Log.addEntry(kind, m, n) -/
theorem c_addEntry (l : Launch) {g : kG} (hg : Gd g) (f : kM) {M Z : Nat} (k0 m0 n0 : Int32) (h1 : f 3 5 = nI M) (hM : M ≤ 52) (hZ : f 3 4 = nI Z) (hZ2 : Z ≤ 300) : MetI l yX0_addEntry wsX0_addEntry ({ frames := 2, cells := 0, slots := 0, locals := 44 }) g [.ref (g.1 3), .int k0, .int m0, .int n0] f (fun r f1 => (k0 < 1 ∨ 7 < k0 ∨ ∃ K : Nat, 1 ≤ K ∧ K ≤ 7 ∧ k0 = nI K ∧ (n0 < tLeast K ∨ ¬ n0 ≤ tMost K ∨ k0 = 7 ∧ ¬ m0 = 0 ∨ ¬ k0 = 7 ∧ (m0 < 0 ∨ f 3 6 ≤ m0))) ∧ r = -2 ∧ f1 = f ∨ (∃ K : Nat, 1 ≤ K ∧ K ≤ 7 ∧ k0 = nI K ∧ ¬ n0 < tLeast K ∧ n0 ≤ tMost K ∧ (k0 = 7 ∧ m0 = 0 ∨ ¬ k0 = 7 ∧ ¬ m0 < 0 ∧ ¬ f 3 6 ≤ m0)) ∧ (M = 0 ∧ r = -4 ∧ f1 = f ∨ 0 < M ∧ (300 ≤ Z ∧ r = -3 ∧ f1 = f ∨ Z < 300 ∧ r = nI Z ∧ f1 = mu (mu (mu (mu f 4 Z k0) 5 Z m0) 6 Z n0) 3 4 (nI (Z + 1))))) := by
  refine MetI.of (cc := cX0_addEntry) (maxL := 4) (ret := (some .int)) hg (by decide) rfl (Nat.le_of_ble_eq_true rfl) ?_
  intro p e s m below meth c C hG ls hl
  have hx := C.1
  have hb := C.2.1
  have hown := C.2.2.2.1
  have hts := C.2.2.2.2.1
  have I_X0 : ∀ w ∈ u_ws RX0 TX0 7, w ∈ wsX0_addEntry := fun w h => List.mem_cons_of_mem _ (List.mem_append_right _ h)
  have L_28 := hts (.fieldLink RX0 28 "KeyBox$Log" "meetingCount" "I") (by decide +kernel)
  have L_31 := hts (.fieldLink RX0 31 "KeyBox$Log" "size" "I") (by decide +kernel)
  have hl : lv_has ls 4 [(0, .ref (g.1 3)), (1, .int k0), (2, .int m0), (3, .int n0)] := hl
  refine lv_aload_n hx hb dX0_addEntry_0 rfl (lv_at hl 0 rfl) ?_
  refine lv_iload_n hx hb dX0_addEntry_1 rfl (lv_at hl 1 rfl) ?_
  refine lv_iload_n hx hb dX0_addEntry_2 rfl (lv_at hl 2 rfl) ?_
  refine lv_iload_n hx hb dX0_addEntry_3 rfl (lv_at hl 3 rfl) ?_
  refine g_callVi C hG 3 (by decide) (e_LG g _) rfl (c_canBe l hg f k0 m0 n0) (cwV 3 hts gX0_addEntry_X0_canBe rfl rfl rfl (by decide +kernel) ⟨Nat.le_of_ble_eq_true rfl, Nat.le_of_ble_eq_true rfl⟩) rfl (lv_sub hl [] rfl) rfl (Nat.le_of_ble_eq_true rfl) dX0_addEntry_4 ⟨Nat.zero_le _, Nat.zero_le _⟩ (fun r3 f1 H locs hp2 hG => ?_)
  rw [hp2.1] at hG
  have hc := hp2.2
  refine lv_if_ne (tgt := 13) hx hb dX0_addEntry_7 (by decide) (fun c4 => ?_) (fun c4 => ?_)
  · have hgood : (∃ K : Nat, 1 ≤ K ∧ K ≤ 7 ∧ k0 = nI K ∧ ¬ n0 < tLeast K ∧ n0 ≤ tMost K ∧ (k0 = 7 ∧ m0 = 0 ∨ ¬ k0 = 7 ∧ ¬ m0 < 0 ∧ ¬ f 3 6 ≤ m0)) := hc.elim (fun q => q.2) (fun q => absurd q.1 c4)
    refine lv_aload_n hx hb dX0_addEntry_13 rfl (lv_at hl 0 rfl) ?_
    refine g_get (D := RX0) (T := TX0) (N := 7) (v := .int (f 3 5)) C I_X0 hG 3 (by decide) (e_LG g _) rfl 5 (by decide) L_28 rfl rfl dX0_addEntry_14 ?_
    refine k_top (y := nI M) h1 ?_
    refine lv_if_ne (tgt := 23) hx hb dX0_addEntry_17 (by decide) (fun c5 => ?_) (fun c5 => ?_)
    · have dc5 : ¬ M = 0 := fun q9 => c5 ((nI_eq (a := M) (b := 0) (by omega) (by omega)).mpr q9)
      refine lv_aload_n hx hb dX0_addEntry_23 rfl (lv_at hl 0 rfl) ?_
      refine g_get (D := RX0) (T := TX0) (N := 7) (v := .int (f 3 4)) C I_X0 hG 3 (by decide) (e_LG g _) rfl 4 (by decide) L_31 rfl rfl dX0_addEntry_24 ?_
      refine k_top (y := nI Z) hZ ?_
      refine lv_sipush (v := 300) hx hb dX0_addEntry_27 (by decide) ?_
      refine lv_icmp_lt (tgt := 36) hx hb dX0_addEntry_30 (by decide) (fun c6 => ?_) (fun c6 => ?_)
      · have dc6 : Z < 300 := (nI_ltI (a := Z) (b := 300) (by omega) (by omega)).mp c6
        refine lv_aload_n hx hb dX0_addEntry_36 rfl (lv_at hl 0 rfl) ?_
        refine lv_iload_n hx hb dX0_addEntry_37 rfl (lv_at hl 1 rfl) ?_
        refine lv_iload_n hx hb dX0_addEntry_38 rfl (lv_at hl 2 rfl) ?_
        refine lv_iload_n hx hb dX0_addEntry_39 rfl (lv_at hl 3 rfl) ?_
        refine g_callVi C hG 3 (by decide) (e_LG g _) rfl (c_add l hg f (Z := Z) k0 m0 n0 hZ (by omega)) (cwV 3 hts gX0_addEntry_X0_add rfl rfl rfl (by decide +kernel) ⟨Nat.le_of_ble_eq_true rfl, Nat.le_of_ble_eq_true rfl⟩) rfl (lv_sub hl [] rfl) rfl (Nat.le_of_ble_eq_true rfl) dX0_addEntry_40 ⟨Nat.zero_le _, Nat.zero_le _⟩ (fun r9 f7 H locs hp8 hG => ?_)
        exact g_iret (v := r9) C hG (Or.inr ⟨hgood, Or.inr ⟨by omega, Or.inr ⟨by omega, hp8.1, hp8.2⟩⟩⟩) dX0_addEntry_43
      · have dc6 : ¬ Z < 300 := fun q9 => c6 ((nI_ltI (a := Z) (b := 300) (by omega) (by omega)).mpr q9)
        refine lv_bipush (v := (-3)) hx hb dX0_addEntry_33 (by decide) ?_
        exact g_iret (v := (-3)) C hG (Or.inr ⟨hgood, Or.inr ⟨by omega, Or.inl ⟨by omega, rfl, rfl⟩⟩⟩) dX0_addEntry_35
    · have dc5 : M = 0 := (nI_eq (a := M) (b := 0) (by omega) (by omega)).mp c5
      refine lv_bipush (v := (-4)) hx hb dX0_addEntry_20 (by decide) ?_
      exact g_iret (v := (-4)) C hG (Or.inr ⟨hgood, Or.inl ⟨by omega, rfl, rfl⟩⟩) dX0_addEntry_22
  · have hbad : (k0 < 1 ∨ 7 < k0 ∨ ∃ K : Nat, 1 ≤ K ∧ K ≤ 7 ∧ k0 = nI K ∧ (n0 < tLeast K ∨ ¬ n0 ≤ tMost K ∨ k0 = 7 ∧ ¬ m0 = 0 ∨ ¬ k0 = 7 ∧ (m0 < 0 ∨ f 3 6 ≤ m0))) := hc.elim (fun q => absurd (q.1.symm.trans c4) (by decide)) (fun q => q.2)
    refine lv_bipush (v := (-2)) hx hb dX0_addEntry_10 (by decide) ?_
    exact g_iret (v := (-2)) C hG (Or.inl ⟨hbad, rfl, rfl⟩) dX0_addEntry_12

set_option maxHeartbeats 4000000 in
set_option maxRecDepth 100000 in
/-- Log.read(i, what) -/
theorem c_read (l : Launch) {g : kG} (hg : Gd g) (f : kM) {Z : Nat} (i0 a0 : Int32) (hZ : f 3 4 = nI Z) (hZ2 : Z ≤ 300) : MetI l yX0_read wsX0_read ({ frames := 0, cells := 0, slots := 0, locals := 0 }) g [.ref (g.1 3), .int i0, .int a0] f (fun r f1 => f1 = f ∧ ((i0 < 0 ∨ ¬ i0 < nI Z) ∧ r = -9 ∨ ∃ j : Nat, j < Z ∧ i0 = nI j ∧ (a0 = 0 ∧ r = f 4 j ∨ a0 = 1 ∧ r = f 5 j ∨ a0 = 2 ∧ r = f 6 j ∨ (a0.toInt < 0 ∨ 2 < a0.toInt) ∧ r = -9))) := by
  refine MetI.of (cc := cX0_read) (maxL := 3) (ret := (some .int)) hg (by decide) rfl (Nat.le_of_ble_eq_true rfl) ?_
  intro p e s m below meth c C hG ls hl
  have hx := C.1
  have hb := C.2.1
  have hown := C.2.2.2.1
  have hts := C.2.2.2.2.1
  have I_X0 : ∀ w ∈ u_ws RX0 TX0 7, w ∈ wsX0_read := fun w h => List.mem_cons_of_mem _ (List.mem_append_right _ h)
  have L_11 := hts (.fieldLink RX0 11 "KeyBox$Log" "kinds" "[I") (by decide +kernel)
  have L_15 := hts (.fieldLink RX0 15 "KeyBox$Log" "whos" "[I") (by decide +kernel)
  have L_18 := hts (.fieldLink RX0 18 "KeyBox$Log" "amounts" "[I") (by decide +kernel)
  have L_31 := hts (.fieldLink RX0 31 "KeyBox$Log" "size" "I") (by decide +kernel)
  have hl : lv_has ls 3 [(0, .ref (g.1 3)), (1, .int i0), (2, .int a0)] := hl
  refine lv_iload_n hx hb dX0_read_0 rfl (lv_at hl 1 rfl) ?_
  refine lv_if_lt (tgt := 12) hx hb dX0_read_1 (by decide) (fun c1 => ?_) (fun c1 => ?_)
  · refine lv_bipush (v := (-9)) hx hb dX0_read_12 (by decide) ?_
    exact g_iret (v := (-9)) C hG ⟨rfl, Or.inl ⟨Or.inl c1, rfl⟩⟩ dX0_read_14
  · refine lv_iload_n hx hb dX0_read_4 rfl (lv_at hl 1 rfl) ?_
    refine lv_aload_n hx hb dX0_read_5 rfl (lv_at hl 0 rfl) ?_
    refine g_get (D := RX0) (T := TX0) (N := 7) (v := .int (f 3 4)) C I_X0 hG 3 (by decide) (e_LG g _) rfl 4 (by decide) L_31 rfl rfl dX0_read_6 ?_
    refine k_top (y := nI Z) hZ ?_
    refine lv_icmp_lt (tgt := 15) hx hb dX0_read_9 (by decide) (fun c2 => ?_) (fun c2 => ?_)
    · obtain ⟨j, hj, ej⟩ := k_below c1 c2 (by omega)
      refine lv_iload_n hx hb dX0_read_15 rfl (lv_at hl 2 rfl) ?_
      rcases k_sw (x := a0) 0 3 (by decide) with c3 | ⟨qc3, c3, ec3⟩
      · refine lv_tableOut (tgt := 65) hx hb dX0_read_16 (k_swo c3 (by decide)) (by decide) ?_
        refine lv_bipush (v := (-9)) hx hb dX0_read_65 (by decide) ?_
        exact g_iret (v := (-9)) C hG ⟨rfl, Or.inr ⟨j, hj, ej, Or.inr (Or.inr (Or.inr ⟨k_swo c3 (by decide), rfl⟩))⟩⟩ dX0_read_67
      · match qc3, c3, ec3 with
        | 0, c3, ec3 =>
          refine lv_tableIn (tgt := 44) (off := 28) hx hb dX0_read_16 (by rw [ec3]; decide) (by rw [ec3]; decide) (by rw [ec3]; rfl) (by decide) ?_
          refine lv_aload_n hx hb dX0_read_44 rfl (lv_at hl 0 rfl) ?_
          refine g_get (D := RX0) (T := TX0) (N := 7) (v := .ref (g.1 4)) C I_X0 hG 3 (by decide) (e_LG g _) rfl 0 (by decide) L_11 rfl rfl dX0_read_45 ?_
          refine lv_iload_n hx hb dX0_read_48 rfl (lv_at hl 1 rfl) ?_
          refine g_iald C hG 4 (by decide) (e_kinds g) j ej (by omega) (by decide) dX0_read_49 ?_
          exact g_iret (v := f 4 j) C hG ⟨rfl, Or.inr ⟨j, hj, ej, Or.inl ⟨ec3, rfl⟩⟩⟩ dX0_read_50
        | 1, c3, ec3 =>
          refine lv_tableIn (tgt := 51) (off := 35) hx hb dX0_read_16 (by rw [ec3]; decide) (by rw [ec3]; decide) (by rw [ec3]; rfl) (by decide) ?_
          refine lv_aload_n hx hb dX0_read_51 rfl (lv_at hl 0 rfl) ?_
          refine g_get (D := RX0) (T := TX0) (N := 7) (v := .ref (g.1 5)) C I_X0 hG 3 (by decide) (e_LG g _) rfl 1 (by decide) L_15 rfl rfl dX0_read_52 ?_
          refine lv_iload_n hx hb dX0_read_55 rfl (lv_at hl 1 rfl) ?_
          refine g_iald C hG 5 (by decide) (e_whos g) j ej (by omega) (by decide) dX0_read_56 ?_
          exact g_iret (v := f 5 j) C hG ⟨rfl, Or.inr ⟨j, hj, ej, Or.inr (Or.inl ⟨ec3, rfl⟩)⟩⟩ dX0_read_57
        | 2, c3, ec3 =>
          refine lv_tableIn (tgt := 58) (off := 42) hx hb dX0_read_16 (by rw [ec3]; decide) (by rw [ec3]; decide) (by rw [ec3]; rfl) (by decide) ?_
          refine lv_aload_n hx hb dX0_read_58 rfl (lv_at hl 0 rfl) ?_
          refine g_get (D := RX0) (T := TX0) (N := 7) (v := .ref (g.1 6)) C I_X0 hG 3 (by decide) (e_LG g _) rfl 2 (by decide) L_18 rfl rfl dX0_read_59 ?_
          refine lv_iload_n hx hb dX0_read_62 rfl (lv_at hl 1 rfl) ?_
          refine g_iald C hG 6 (by decide) (e_amounts g) j ej (by omega) (by decide) dX0_read_63 ?_
          exact g_iret (v := f 6 j) C hG ⟨rfl, Or.inr ⟨j, hj, ej, Or.inr (Or.inr (Or.inl ⟨ec3, rfl⟩))⟩⟩ dX0_read_64
        | n9 + 3, c3, ec3 => exact absurd c3 (by omega)
    · refine lv_bipush (v := (-9)) hx hb dX0_read_12 (by decide) ?_
      exact g_iret (v := (-9)) C hG ⟨rfl, Or.inl ⟨Or.inr c2, rfl⟩⟩ dX0_read_14

set_option maxHeartbeats 4000000 in
set_option maxRecDepth 100000 in
/-- Log.takeBack() -/
theorem c_takeBack (l : Launch) {g : kG} (hg : Gd g) (f : kM) {Z : Nat} (hZ : f 3 4 = nI Z) (hZ2 : Z ≤ 300) : MetI l yX0_takeBack wsX0_takeBack ({ frames := 0, cells := 0, slots := 0, locals := 0 }) g [.ref (g.1 3)] f (fun r f1 => Z = 0 ∧ r = -4 ∧ f1 = f ∨ 0 < Z ∧ r = nI (Z - 1) ∧ (¬ f 4 (Z - 1) = 0 ∧ f1 = mu f 3 4 (nI (Z - 1)) ∨ f 4 (Z - 1) = 0 ∧ f1 = mu (mu f 3 4 (nI (Z - 1))) 3 5 (f 3 5 - 1))) := by
  refine MetI.of (cc := cX0_takeBack) (maxL := 1) (ret := (some .int)) hg (by decide) rfl (Nat.le_of_ble_eq_true rfl) ?_
  intro p e s m below meth c C hG ls hl
  have hx := C.1
  have hb := C.2.1
  have hown := C.2.2.2.1
  have hts := C.2.2.2.2.1
  have I_X0 : ∀ w ∈ u_ws RX0 TX0 7, w ∈ wsX0_takeBack := fun w h => List.mem_cons_of_mem _ (List.mem_append_right _ h)
  have L_11 := hts (.fieldLink RX0 11 "KeyBox$Log" "kinds" "[I") (by decide +kernel)
  have L_28 := hts (.fieldLink RX0 28 "KeyBox$Log" "meetingCount" "I") (by decide +kernel)
  have L_31 := hts (.fieldLink RX0 31 "KeyBox$Log" "size" "I") (by decide +kernel)
  have hl : lv_has ls 1 [(0, .ref (g.1 3))] := hl
  refine lv_aload_n hx hb dX0_takeBack_0 rfl (lv_at hl 0 rfl) ?_
  refine g_get (D := RX0) (T := TX0) (N := 7) (v := .int (f 3 4)) C I_X0 hG 3 (by decide) (e_LG g _) rfl 4 (by decide) L_31 rfl rfl dX0_takeBack_1 ?_
  refine k_top (y := nI Z) hZ ?_
  refine lv_if_ne (tgt := 10) hx hb dX0_takeBack_4 (by decide) (fun c1 => ?_) (fun c1 => ?_)
  · have dc1 : ¬ Z = 0 := fun q9 => c1 ((nI_eq (a := Z) (b := 0) (by omega) (by omega)).mpr q9)
    refine lv_aload_n hx hb dX0_takeBack_10 rfl (lv_at hl 0 rfl) ?_
    refine lv_dup hx hb dX0_takeBack_11 rfl ?_
    refine g_get (D := RX0) (T := TX0) (N := 7) (v := .int (f 3 4)) C I_X0 hG 3 (by decide) (e_LG g _) rfl 4 (by decide) L_31 rfl rfl dX0_takeBack_12 ?_
    refine k_top (y := nI Z) hZ ?_
    refine lv_iconst (v := 1) hx hb dX0_takeBack_15 (by decide) ?_
    refine lv_isub hx hb dX0_takeBack_16 ?_
    refine k_top (y := nI (Z - 1)) (k_pred (by omega)) ?_
    refine g_put (D := RX0) (T := TX0) (N := 7) (ty := .int) (v := .int (nI (Z - 1))) (x := nI (Z - 1)) C I_X0 tyX0 tyX0_ok nmX0 hG 3 (by decide) (e_LG g _) rfl 4 (by decide) L_31 rfl rfl (by decide +kernel) rfl rfl (Nat.le_of_ble_eq_true rfl) (by rw [e_LG g] ; rfl) dX0_takeBack_17 (fun H locs hG => ?_)
    refine lv_aload_n hx hb dX0_takeBack_20 rfl (lv_at hl 0 rfl) ?_
    refine g_get (D := RX0) (T := TX0) (N := 7) (v := .ref (g.1 4)) C I_X0 hG 3 (by decide) (e_LG g _) rfl 0 (by decide) L_11 rfl rfl dX0_takeBack_21 ?_
    refine lv_aload_n hx hb dX0_takeBack_24 rfl (lv_at hl 0 rfl) ?_
    refine g_get (D := RX0) (T := TX0) (N := 7) (v := .int ((mu f 3 4 (nI (Z - 1))) 3 4)) C I_X0 hG 3 (by decide) (e_LG g _) rfl 4 (by decide) L_31 rfl rfl dX0_takeBack_25 ?_
    refine k_top (y := nI (Z - 1)) (by simp [mu, ru, upd]) ?_
    refine g_iald C hG 4 (by decide) (e_kinds g) (Z - 1) rfl (by omega) (by decide) dX0_takeBack_28 ?_
    refine k_top (y := f 4 (Z - 1)) (by simp [mu, ru]) ?_
    refine lv_if_ne (tgt := 42) hx hb dX0_takeBack_29 (by decide) (fun c2 => ?_) (fun c2 => ?_)
    · refine lv_aload_n hx hb dX0_takeBack_42 rfl (lv_at hl 0 rfl) ?_
      refine g_get (D := RX0) (T := TX0) (N := 7) (v := .int ((mu f 3 4 (nI (Z - 1))) 3 4)) C I_X0 hG 3 (by decide) (e_LG g _) rfl 4 (by decide) L_31 rfl rfl dX0_takeBack_43 ?_
      refine k_top (y := nI (Z - 1)) (by simp [mu, ru, upd]) ?_
      exact g_iret (v := nI (Z - 1)) C hG (Or.inr ⟨by omega, rfl, Or.inl ⟨c2, rfl⟩⟩) dX0_takeBack_46
    · refine lv_aload_n hx hb dX0_takeBack_32 rfl (lv_at hl 0 rfl) ?_
      refine lv_dup hx hb dX0_takeBack_33 rfl ?_
      refine g_get (D := RX0) (T := TX0) (N := 7) (v := .int ((mu f 3 4 (nI (Z - 1))) 3 5)) C I_X0 hG 3 (by decide) (e_LG g _) rfl 5 (by decide) L_28 rfl rfl dX0_takeBack_34 ?_
      refine k_top (y := f 3 5) (by simp [mu, ru, upd]) ?_
      refine lv_iconst (v := 1) hx hb dX0_takeBack_37 (by decide) ?_
      refine lv_isub hx hb dX0_takeBack_38 ?_
      refine k_top (y := f 3 5 - 1) rfl ?_
      refine g_put (D := RX0) (T := TX0) (N := 7) (ty := .int) (v := .int (f 3 5 - 1)) (x := f 3 5 - 1) C I_X0 tyX0 tyX0_ok nmX0 hG 3 (by decide) (e_LG g _) rfl 5 (by decide) L_28 rfl rfl (by decide +kernel) rfl rfl (Nat.le_of_ble_eq_true rfl) (by rw [e_LG g] ; rfl) dX0_takeBack_39 (fun H locs hG => ?_)
      refine lv_aload_n hx hb dX0_takeBack_42 rfl (lv_at hl 0 rfl) ?_
      refine g_get (D := RX0) (T := TX0) (N := 7) (v := .int ((mu (mu f 3 4 (nI (Z - 1))) 3 5 (f 3 5 - 1)) 3 4)) C I_X0 hG 3 (by decide) (e_LG g _) rfl 4 (by decide) L_31 rfl rfl dX0_takeBack_43 ?_
      refine k_top (y := nI (Z - 1)) (by simp [mu, ru, upd]) ?_
      exact g_iret (v := nI (Z - 1)) C hG (Or.inr ⟨by omega, rfl, Or.inr ⟨c2, rfl⟩⟩) dX0_takeBack_46
  · have dc1 : Z = 0 := (nI_eq (a := Z) (b := 0) (by omega) (by omega)).mp c1
    refine lv_bipush (v := (-4)) hx hb dX0_takeBack_7 (by decide) ?_
    exact g_iret (v := (-4)) C hG (Or.inl ⟨by omega, rfl, rfl⟩) dX0_takeBack_9
end
section
set_option maxHeartbeats 4000000 in
set_option maxRecDepth 100000 in
/-- Tape.hasRoomFor(more) -/
theorem c_hasRoomFor (l : Launch) {g : kG} (hg : Gd g) (f : kM) (a0 : Int32) : MetI l yX3_hasRoomFor wsX3_hasRoomFor ({ frames := 0, cells := 0, slots := 0, locals := 0 }) g [.ref (g.1 1), .int a0] f (fun r f1 => f1 = f ∧ (r = 1 ∧ ¬ 500 < f 1 1 + a0 ∨ r = 0 ∧ 500 < f 1 1 + a0)) := by
  refine MetI.of (cc := cX3_hasRoomFor) (maxL := 2) (ret := (some .boolean)) hg (by decide) rfl (Nat.le_of_ble_eq_true rfl) ?_
  intro p e s m below meth c C hG ls hl
  have hx := C.1
  have hb := C.2.1
  have hown := C.2.2.2.1
  have hts := C.2.2.2.2.1
  have I_X3 : ∀ w ∈ u_ws RX3 TX3 2, w ∈ wsX3_hasRoomFor := fun w h => List.mem_cons_of_mem _ (List.mem_append_right _ h)
  have L_15 := hts (.fieldLink RX3 15 "KeyBox$Tape" "length" "I") (by decide +kernel)
  have hl : lv_has ls 2 [(0, .ref (g.1 1)), (1, .int a0)] := hl
  refine lv_aload_n hx hb dX3_hasRoomFor_0 rfl (lv_at hl 0 rfl) ?_
  refine g_get (D := RX3) (T := TX3) (N := 2) (v := .int (f 1 1)) C I_X3 hG 1 (by decide) (e_TP g _) rfl 1 (by decide) L_15 rfl rfl dX3_hasRoomFor_1 ?_
  refine lv_iload_n hx hb dX3_hasRoomFor_4 rfl (lv_at hl 1 rfl) ?_
  refine lv_iadd hx hb dX3_hasRoomFor_5 ?_
  refine k_top (y := f 1 1 + a0) rfl ?_
  refine lv_sipush (v := 500) hx hb dX3_hasRoomFor_6 (by decide) ?_
  refine lv_icmp_gt (tgt := 16) hx hb dX3_hasRoomFor_9 (by decide) (fun c1 => ?_) (fun c1 => ?_)
  · refine lv_iconst (v := 0) hx hb dX3_hasRoomFor_16 (by decide) ?_
    exact g_zret (v := 0) C hG rfl (by simp [c1]) dX3_hasRoomFor_17
  · refine lv_iconst (v := 1) hx hb dX3_hasRoomFor_12 (by decide) ?_
    refine lv_goto (tgt := 17) hx hb dX3_hasRoomFor_13 (by decide) ?_
    exact g_zret (v := 1) C hG rfl (by simp [c1]) dX3_hasRoomFor_17

set_option maxHeartbeats 4000000 in
set_option maxRecDepth 100000 in
/-- Tape.append(four): the length grows by four; only the tape changes -/
theorem c_append (l : Launch) {g : kG} (hg : Gd g) (f : kM) {n : Nat} (x0 : Int32) (hn : f 1 1 = nI n) (hn2 : n + 4 ≤ 500) : MetV l yX3_append wsX3_append ({ frames := 1, cells := 0, slots := 0, locals := 21 }) g [.ref (g.1 1), .int x0] f (fun f1 => f1 1 1 = nI (n + 4) ∧ ∀ k : Nat, k ≠ 1 → k ≠ 2 → f1 k = f k) := by
  refine MetV.of (cc := cX3_append) (maxL := 3) (ret := none) hg (by decide) rfl (Nat.le_of_ble_eq_true rfl) ?_
  intro p e s m below meth c C hG ls hl
  have hx := C.1
  have hb := C.2.1
  have hown := C.2.2.2.1
  have hts := C.2.2.2.2.1
  have I_X3 : ∀ w ∈ u_ws RX3 TX3 2, w ∈ wsX3_append := fun w h => List.mem_cons_of_mem _ (List.mem_append_right _ h)
  have L_11 := hts (.fieldLink RX3 11 "KeyBox$Tape" "bytes" "[B") (by decide +kernel)
  have L_15 := hts (.fieldLink RX3 15 "KeyBox$Tape" "length" "I") (by decide +kernel)
  have hl : lv_has ls 3 [(0, .ref (g.1 1)), (1, .int x0)] := hl
  refine lv_aload_n hx hb dX3_append_0 rfl (lv_at hl 0 rfl) ?_
  refine lv_iconst (v := 4) hx hb dX3_append_1 (by decide) ?_
  refine g_callVi C hG 1 (by decide) (e_TP g _) rfl (c_hasRoomFor l hg f 4) (cwV 1 hts gX3_append_X3_hasRoomFor rfl rfl rfl (by decide +kernel) ⟨Nat.le_of_ble_eq_true rfl, Nat.le_of_ble_eq_true rfl⟩) rfl (lv_sub hl [] rfl) rfl (Nat.le_of_ble_eq_true rfl) dX3_append_2 ⟨Nat.zero_le _, Nat.zero_le _⟩ (fun r3 f1 H locs hp2 hG => ?_)
  rw [hp2.1] at hG
  have hroom : r3 = 1 := hp2.2.elim (fun q => q.1) (fun q => absurd q.2 (by rw [hn, show nI n + 4 = nI (n + 4) from nI_add n 4]; exact nI_nlt (a := 500) (show n + 4 ≤ 500 from hn2) (by decide)))
  refine k_top (y := 1) hroom ?_
  refine lv_if_ne (tgt := 9) hx hb dX3_append_5 (by decide) (fun c4 => ?_) (fun c4 => ?_)
  · refine lv_bipush (v := 24) hx hb dX3_append_9 (by decide) ?_
    refine lv_istore_n (lv' := [(2, .int 24), (0, .ref (g.1 1)), (1, .int x0)]) hx hb dX3_append_11 rfl hl (by decide) rfl (fun ls hl => ?_)
    refine lv_iload_n hx hb dX3_append_12 rfl (lv_at hl 0 rfl) ?_
    refine lv_if_lt (tgt := 45) hx hb dX3_append_13 (by decide) (fun c5 => ?_) (fun c5 => ?_)
    · exact absurd c5 (by decide)
    · refine lv_aload_n hx hb dX3_append_16 rfl (lv_at hl 1 rfl) ?_
      refine g_get (D := RX3) (T := TX3) (N := 2) (v := .ref (g.1 2)) C I_X3 hG 1 (by decide) (e_TP g _) rfl 0 (by decide) L_11 rfl rfl dX3_append_17 ?_
      refine lv_aload_n hx hb dX3_append_20 rfl (lv_at hl 1 rfl) ?_
      refine g_get (D := RX3) (T := TX3) (N := 2) (v := .int (f 1 1)) C I_X3 hG 1 (by decide) (e_TP g _) rfl 1 (by decide) L_15 rfl rfl dX3_append_21 ?_
      refine k_top (y := nI (n + 0)) (by simp [mu, ru, upd, hn]) ?_
      refine lv_iload_n hx hb dX3_append_24 rfl (lv_at hl 2 rfl) ?_
      refine lv_iload_n hx hb dX3_append_25 rfl (lv_at hl 0 rfl) ?_
      refine lv_ishr hx hb dX3_append_26 ?_
      refine lv_topi (fun v6 ev6 => ?_)
      refine lv_i2b hx hb dX3_append_27 rfl ?_
      refine lv_topi (fun v7 ev7 => ?_)
      refine g_bast C hG 2 (by decide) (e_TB g) (n + 0) rfl (by omega) (by decide) dX3_append_28 (fun H locs hG => ?_)
      refine lv_aload_n hx hb dX3_append_29 rfl (lv_at hl 1 rfl) ?_
      refine lv_dup hx hb dX3_append_30 rfl ?_
      refine g_get (D := RX3) (T := TX3) (N := 2) (v := .int ((mu f 2 (n + 0) (vp_nar .byte v7)) 1 1)) C I_X3 hG 1 (by decide) (e_TP g _) rfl 1 (by decide) L_15 rfl rfl dX3_append_31 ?_
      refine k_top (y := nI (n + 0)) (by simp [mu, ru, upd, hn]) ?_
      refine lv_iconst (v := 1) hx hb dX3_append_34 (by decide) ?_
      refine lv_iadd hx hb dX3_append_35 ?_
      refine k_top (y := nI (n + 1)) (nI_add (n + 0) 1) ?_
      refine g_put (D := RX3) (T := TX3) (N := 2) (ty := .int) (v := .int (nI (n + 1))) (x := nI (n + 1)) C I_X3 tyX3 tyX3_ok nmX3 hG 1 (by decide) (e_TP g _) rfl 1 (by decide) L_15 rfl rfl (by decide +kernel) rfl rfl (Nat.le_of_ble_eq_true rfl) (by rw [e_TP g] ; rfl) dX3_append_36 (fun H locs hG => ?_)
      refine lv_iinc (v := 24 + -8) (lv' := [(2, .int (24 + -8)), (0, .ref (g.1 1)), (1, .int x0)]) hx hb dX3_append_39 hl (k := 0) rfl rfl (by decide) rfl (fun ls hl => ?_)
      refine lv_goto (tgt := 12) hx hb dX3_append_42 (by decide) ?_
      refine lv_iload_n hx hb dX3_append_12 rfl (lv_at hl 0 rfl) ?_
      refine lv_if_lt (tgt := 45) hx hb dX3_append_13 (by decide) (fun c8 => ?_) (fun c8 => ?_)
      · exact absurd c8 (by decide)
      · refine lv_aload_n hx hb dX3_append_16 rfl (lv_at hl 1 rfl) ?_
        refine g_get (D := RX3) (T := TX3) (N := 2) (v := .ref (g.1 2)) C I_X3 hG 1 (by decide) (e_TP g _) rfl 0 (by decide) L_11 rfl rfl dX3_append_17 ?_
        refine lv_aload_n hx hb dX3_append_20 rfl (lv_at hl 1 rfl) ?_
        refine g_get (D := RX3) (T := TX3) (N := 2) (v := .int ((mu (mu f 2 (n + 0) (vp_nar .byte v7)) 1 1 (nI (n + 1))) 1 1)) C I_X3 hG 1 (by decide) (e_TP g _) rfl 1 (by decide) L_15 rfl rfl dX3_append_21 ?_
        refine k_top (y := nI (n + 1)) (by simp [mu, ru, upd, hn]) ?_
        refine lv_iload_n hx hb dX3_append_24 rfl (lv_at hl 2 rfl) ?_
        refine lv_iload_n hx hb dX3_append_25 rfl (lv_at hl 0 rfl) ?_
        refine lv_ishr hx hb dX3_append_26 ?_
        refine lv_topi (fun v9 ev9 => ?_)
        refine lv_i2b hx hb dX3_append_27 rfl ?_
        refine lv_topi (fun v10 ev10 => ?_)
        refine g_bast C hG 2 (by decide) (e_TB g) (n + 1) rfl (by omega) (by decide) dX3_append_28 (fun H locs hG => ?_)
        refine lv_aload_n hx hb dX3_append_29 rfl (lv_at hl 1 rfl) ?_
        refine lv_dup hx hb dX3_append_30 rfl ?_
        refine g_get (D := RX3) (T := TX3) (N := 2) (v := .int ((mu (mu (mu f 2 (n + 0) (vp_nar .byte v7)) 1 1 (nI (n + 1))) 2 (n + 1) (vp_nar .byte v10)) 1 1)) C I_X3 hG 1 (by decide) (e_TP g _) rfl 1 (by decide) L_15 rfl rfl dX3_append_31 ?_
        refine k_top (y := nI (n + 1)) (by simp [mu, ru, upd, hn]) ?_
        refine lv_iconst (v := 1) hx hb dX3_append_34 (by decide) ?_
        refine lv_iadd hx hb dX3_append_35 ?_
        refine k_top (y := nI (n + 2)) (nI_add (n + 1) 1) ?_
        refine g_put (D := RX3) (T := TX3) (N := 2) (ty := .int) (v := .int (nI (n + 2))) (x := nI (n + 2)) C I_X3 tyX3 tyX3_ok nmX3 hG 1 (by decide) (e_TP g _) rfl 1 (by decide) L_15 rfl rfl (by decide +kernel) rfl rfl (Nat.le_of_ble_eq_true rfl) (by rw [e_TP g] ; rfl) dX3_append_36 (fun H locs hG => ?_)
        refine lv_iinc (v := 24 + -8 + -8) (lv' := [(2, .int (24 + -8 + -8)), (0, .ref (g.1 1)), (1, .int x0)]) hx hb dX3_append_39 hl (k := 0) rfl rfl (by decide) rfl (fun ls hl => ?_)
        refine lv_goto (tgt := 12) hx hb dX3_append_42 (by decide) ?_
        refine lv_iload_n hx hb dX3_append_12 rfl (lv_at hl 0 rfl) ?_
        refine lv_if_lt (tgt := 45) hx hb dX3_append_13 (by decide) (fun c11 => ?_) (fun c11 => ?_)
        · exact absurd c11 (by decide)
        · refine lv_aload_n hx hb dX3_append_16 rfl (lv_at hl 1 rfl) ?_
          refine g_get (D := RX3) (T := TX3) (N := 2) (v := .ref (g.1 2)) C I_X3 hG 1 (by decide) (e_TP g _) rfl 0 (by decide) L_11 rfl rfl dX3_append_17 ?_
          refine lv_aload_n hx hb dX3_append_20 rfl (lv_at hl 1 rfl) ?_
          refine g_get (D := RX3) (T := TX3) (N := 2) (v := .int ((mu (mu (mu (mu f 2 (n + 0) (vp_nar .byte v7)) 1 1 (nI (n + 1))) 2 (n + 1) (vp_nar .byte v10)) 1 1 (nI (n + 2))) 1 1)) C I_X3 hG 1 (by decide) (e_TP g _) rfl 1 (by decide) L_15 rfl rfl dX3_append_21 ?_
          refine k_top (y := nI (n + 2)) (by simp [mu, ru, upd, hn]) ?_
          refine lv_iload_n hx hb dX3_append_24 rfl (lv_at hl 2 rfl) ?_
          refine lv_iload_n hx hb dX3_append_25 rfl (lv_at hl 0 rfl) ?_
          refine lv_ishr hx hb dX3_append_26 ?_
          refine lv_topi (fun v12 ev12 => ?_)
          refine lv_i2b hx hb dX3_append_27 rfl ?_
          refine lv_topi (fun v13 ev13 => ?_)
          refine g_bast C hG 2 (by decide) (e_TB g) (n + 2) rfl (by omega) (by decide) dX3_append_28 (fun H locs hG => ?_)
          refine lv_aload_n hx hb dX3_append_29 rfl (lv_at hl 1 rfl) ?_
          refine lv_dup hx hb dX3_append_30 rfl ?_
          refine g_get (D := RX3) (T := TX3) (N := 2) (v := .int ((mu (mu (mu (mu (mu f 2 (n + 0) (vp_nar .byte v7)) 1 1 (nI (n + 1))) 2 (n + 1) (vp_nar .byte v10)) 1 1 (nI (n + 2))) 2 (n + 2) (vp_nar .byte v13)) 1 1)) C I_X3 hG 1 (by decide) (e_TP g _) rfl 1 (by decide) L_15 rfl rfl dX3_append_31 ?_
          refine k_top (y := nI (n + 2)) (by simp [mu, ru, upd, hn]) ?_
          refine lv_iconst (v := 1) hx hb dX3_append_34 (by decide) ?_
          refine lv_iadd hx hb dX3_append_35 ?_
          refine k_top (y := nI (n + 3)) (nI_add (n + 2) 1) ?_
          refine g_put (D := RX3) (T := TX3) (N := 2) (ty := .int) (v := .int (nI (n + 3))) (x := nI (n + 3)) C I_X3 tyX3 tyX3_ok nmX3 hG 1 (by decide) (e_TP g _) rfl 1 (by decide) L_15 rfl rfl (by decide +kernel) rfl rfl (Nat.le_of_ble_eq_true rfl) (by rw [e_TP g] ; rfl) dX3_append_36 (fun H locs hG => ?_)
          refine lv_iinc (v := 24 + -8 + -8 + -8) (lv' := [(2, .int (24 + -8 + -8 + -8)), (0, .ref (g.1 1)), (1, .int x0)]) hx hb dX3_append_39 hl (k := 0) rfl rfl (by decide) rfl (fun ls hl => ?_)
          refine lv_goto (tgt := 12) hx hb dX3_append_42 (by decide) ?_
          refine lv_iload_n hx hb dX3_append_12 rfl (lv_at hl 0 rfl) ?_
          refine lv_if_lt (tgt := 45) hx hb dX3_append_13 (by decide) (fun c14 => ?_) (fun c14 => ?_)
          · exact absurd c14 (by decide)
          · refine lv_aload_n hx hb dX3_append_16 rfl (lv_at hl 1 rfl) ?_
            refine g_get (D := RX3) (T := TX3) (N := 2) (v := .ref (g.1 2)) C I_X3 hG 1 (by decide) (e_TP g _) rfl 0 (by decide) L_11 rfl rfl dX3_append_17 ?_
            refine lv_aload_n hx hb dX3_append_20 rfl (lv_at hl 1 rfl) ?_
            refine g_get (D := RX3) (T := TX3) (N := 2) (v := .int ((mu (mu (mu (mu (mu (mu f 2 (n + 0) (vp_nar .byte v7)) 1 1 (nI (n + 1))) 2 (n + 1) (vp_nar .byte v10)) 1 1 (nI (n + 2))) 2 (n + 2) (vp_nar .byte v13)) 1 1 (nI (n + 3))) 1 1)) C I_X3 hG 1 (by decide) (e_TP g _) rfl 1 (by decide) L_15 rfl rfl dX3_append_21 ?_
            refine k_top (y := nI (n + 3)) (by simp [mu, ru, upd, hn]) ?_
            refine lv_iload_n hx hb dX3_append_24 rfl (lv_at hl 2 rfl) ?_
            refine lv_iload_n hx hb dX3_append_25 rfl (lv_at hl 0 rfl) ?_
            refine lv_ishr hx hb dX3_append_26 ?_
            refine lv_topi (fun v15 ev15 => ?_)
            refine lv_i2b hx hb dX3_append_27 rfl ?_
            refine lv_topi (fun v16 ev16 => ?_)
            refine g_bast C hG 2 (by decide) (e_TB g) (n + 3) rfl (by omega) (by decide) dX3_append_28 (fun H locs hG => ?_)
            refine lv_aload_n hx hb dX3_append_29 rfl (lv_at hl 1 rfl) ?_
            refine lv_dup hx hb dX3_append_30 rfl ?_
            refine g_get (D := RX3) (T := TX3) (N := 2) (v := .int ((mu (mu (mu (mu (mu (mu (mu f 2 (n + 0) (vp_nar .byte v7)) 1 1 (nI (n + 1))) 2 (n + 1) (vp_nar .byte v10)) 1 1 (nI (n + 2))) 2 (n + 2) (vp_nar .byte v13)) 1 1 (nI (n + 3))) 2 (n + 3) (vp_nar .byte v16)) 1 1)) C I_X3 hG 1 (by decide) (e_TP g _) rfl 1 (by decide) L_15 rfl rfl dX3_append_31 ?_
            refine k_top (y := nI (n + 3)) (by simp [mu, ru, upd, hn]) ?_
            refine lv_iconst (v := 1) hx hb dX3_append_34 (by decide) ?_
            refine lv_iadd hx hb dX3_append_35 ?_
            refine k_top (y := nI (n + 4)) (nI_add (n + 3) 1) ?_
            refine g_put (D := RX3) (T := TX3) (N := 2) (ty := .int) (v := .int (nI (n + 4))) (x := nI (n + 4)) C I_X3 tyX3 tyX3_ok nmX3 hG 1 (by decide) (e_TP g _) rfl 1 (by decide) L_15 rfl rfl (by decide +kernel) rfl rfl (Nat.le_of_ble_eq_true rfl) (by rw [e_TP g] ; rfl) dX3_append_36 (fun H locs hG => ?_)
            refine lv_iinc (v := 24 + -8 + -8 + -8 + -8) (lv' := [(2, .int (24 + -8 + -8 + -8 + -8)), (0, .ref (g.1 1)), (1, .int x0)]) hx hb dX3_append_39 hl (k := 0) rfl rfl (by decide) rfl (fun ls hl => ?_)
            refine lv_goto (tgt := 12) hx hb dX3_append_42 (by decide) ?_
            refine lv_iload_n hx hb dX3_append_12 rfl (lv_at hl 0 rfl) ?_
            refine lv_if_lt (tgt := 45) hx hb dX3_append_13 (by decide) (fun c17 => ?_) (fun c17 => ?_)
            · exact g_vret C hG ⟨by simp [mu, ru, upd], fun k h1 h2 => by simp [mu, ru, h1, h2]⟩ dX3_append_45
            · exact absurd (by decide) c17
  · exact absurd c4 (by decide)

set_option maxHeartbeats 4000000 in
set_option maxRecDepth 100000 in
/-- Tape.at(place) -/
theorem c_at (l : Launch) {g : kG} (hg : Gd g) (f : kM) {n : Nat} (i0 : Int32) (hn : f 1 1 = nI n) (hn2 : n ≤ 500) : MetI l yX3_at wsX3_at ({ frames := 0, cells := 0, slots := 0, locals := 0 }) g [.ref (g.1 1), .int i0] f (fun r f1 => f1 = f ∧ ((i0 < 0 ∨ nI n ≤ i0) ∧ r = -1 ∨ ∃ j : Nat, j < n ∧ i0 = nI j ∧ r = f 2 j &&& 255)) := by
  refine MetI.of (cc := cX3_at) (maxL := 2) (ret := (some .int)) hg (by decide) rfl (Nat.le_of_ble_eq_true rfl) ?_
  intro p e s m below meth c C hG ls hl
  have hx := C.1
  have hb := C.2.1
  have hown := C.2.2.2.1
  have hts := C.2.2.2.2.1
  have I_X3 : ∀ w ∈ u_ws RX3 TX3 2, w ∈ wsX3_at := fun w h => List.mem_cons_of_mem _ (List.mem_append_right _ h)
  have L_11 := hts (.fieldLink RX3 11 "KeyBox$Tape" "bytes" "[B") (by decide +kernel)
  have L_15 := hts (.fieldLink RX3 15 "KeyBox$Tape" "length" "I") (by decide +kernel)
  have hl : lv_has ls 2 [(0, .ref (g.1 1)), (1, .int i0)] := hl
  refine lv_iload_n hx hb dX3_at_0 rfl (lv_at hl 1 rfl) ?_
  refine lv_if_lt (tgt := 25) hx hb dX3_at_1 (by decide) (fun c1 => ?_) (fun c1 => ?_)
  · refine lv_iconst (v := (-1)) hx hb dX3_at_25 (by decide) ?_
    exact g_iret (v := (-1)) C hG ⟨rfl, Or.inl ⟨Or.inl c1, rfl⟩⟩ dX3_at_26
  · refine lv_iload_n hx hb dX3_at_4 rfl (lv_at hl 1 rfl) ?_
    refine lv_aload_n hx hb dX3_at_5 rfl (lv_at hl 0 rfl) ?_
    refine g_get (D := RX3) (T := TX3) (N := 2) (v := .int (f 1 1)) C I_X3 hG 1 (by decide) (e_TP g _) rfl 1 (by decide) L_15 rfl rfl dX3_at_6 ?_
    refine k_top (y := nI n) hn ?_
    refine lv_icmp_ge (tgt := 25) hx hb dX3_at_9 (by decide) (fun c2 => ?_) (fun c2 => ?_)
    · refine lv_iconst (v := (-1)) hx hb dX3_at_25 (by decide) ?_
      exact g_iret (v := (-1)) C hG ⟨rfl, Or.inl ⟨Or.inr c2, rfl⟩⟩ dX3_at_26
    · obtain ⟨j, hj, ej⟩ := k_below2 c1 c2 (by omega)
      refine lv_aload_n hx hb dX3_at_12 rfl (lv_at hl 0 rfl) ?_
      refine g_get (D := RX3) (T := TX3) (N := 2) (v := .ref (g.1 2)) C I_X3 hG 1 (by decide) (e_TP g _) rfl 0 (by decide) L_11 rfl rfl dX3_at_13 ?_
      refine lv_iload_n hx hb dX3_at_16 rfl (lv_at hl 1 rfl) ?_
      refine g_bald C hG 2 (by decide) (e_TB g) j ej (by omega) (by decide) dX3_at_17 ?_
      refine lv_sipush (v := 255) hx hb dX3_at_18 (by decide) ?_
      refine lv_iand hx hb dX3_at_21 ?_
      refine k_top (y := f 2 j &&& 255) rfl ?_
      refine lv_goto (tgt := 26) hx hb dX3_at_22 (by decide) ?_
      exact g_iret (v := f 2 j &&& 255) C hG ⟨rfl, Or.inr ⟨j, hj, ej, rfl⟩⟩ dX3_at_26
end
