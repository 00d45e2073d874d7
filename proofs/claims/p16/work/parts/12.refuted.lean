theorem bad_words : ∀ c ∈ (Cond.code x code maxLocals ret :: tables_1), c.before start1.args0 bad = true := by
  intro c hc
  rcases List.mem_cons.mp hc with h | h
  · rw [h]; exact bad_code start1.word_code
  · have h1 : c ∈ tables_1_1 ++ (tables_1_2 ++ (tables_1_3 ++ (tables_1_4 ++ (tables_1_5)))) := h
    rcases List.mem_append.mp h1 with h2 | h1
    · exact su_words bad_o_tables_1_1 (bad_codes (fun c h9 => List.mem_cons_of_mem _ (show c ∈ tables_1_1 ++ (tables_1_2 ++ (tables_1_3 ++ (tables_1_4 ++ (tables_1_5)))) from List.mem_append_left _ h9))) c h2
    rcases List.mem_append.mp h1 with h2 | h1
    · exact su_words bad_o_tables_1_2 (bad_codes (fun c h9 => List.mem_cons_of_mem _ (show c ∈ tables_1_1 ++ (tables_1_2 ++ (tables_1_3 ++ (tables_1_4 ++ (tables_1_5)))) from List.mem_append_right _ (List.mem_append_left _ h9)))) c h2
    rcases List.mem_append.mp h1 with h2 | h1
    · exact su_words bad_o_tables_1_3 (bad_codes (fun c h9 => List.mem_cons_of_mem _ (show c ∈ tables_1_1 ++ (tables_1_2 ++ (tables_1_3 ++ (tables_1_4 ++ (tables_1_5)))) from List.mem_append_right _ (List.mem_append_right _ (List.mem_append_left _ h9))))) c h2
    rcases List.mem_append.mp h1 with h2 | h1
    · exact su_words bad_o_tables_1_4 (bad_codes (fun c h9 => List.mem_cons_of_mem _ (show c ∈ tables_1_1 ++ (tables_1_2 ++ (tables_1_3 ++ (tables_1_4 ++ (tables_1_5)))) from List.mem_append_right _ (List.mem_append_right _ (List.mem_append_right _ (List.mem_append_left _ h9)))))) c h2
    exact su_words bad_o_tables_1_5 (bad_codes (fun c h9 => List.mem_cons_of_mem _ (show c ∈ tables_1_1 ++ (tables_1_2 ++ (tables_1_3 ++ (tables_1_4 ++ (tables_1_5)))) from List.mem_append_right _ (List.mem_append_right _ (List.mem_append_right _ (List.mem_append_right _ (h9))))))) c h1
set_option maxRecDepth 16384 in
theorem bad_applies : (headSpec (Cond.code x code maxLocals ret :: tables_1) room_1).applies x start1.e0.platform bad = true :=
  (Spec.applies_iff rfl).mpr ⟨rfl, rfl, rfl, by decide +kernel, by decide +kernel, by decide +kernel, launch0.hasRoom_least _ room_1 (by decide +kernel) (by decide +kernel) (by decide +kernel) (by decide +kernel) (by decide +kernel) (by decide +kernel), atoms_intro bad_words⟩
/-- the machine from there: at every step more frames stand than below the law, and at the last it has stopped -/
def bad_run : Nat → State → Bool
  | 0, s => decide (1 < s.frames.length) && !decide (s.status = .running)
  | n + 1, s => decide (1 < s.frames.length) && bad_run n (stepsAlone start1.p0.tables start1.e0 1 s)
theorem bad_ran : bad_run 71 bad = true := by decide +kernel
theorem bad_step (n : Nat) (s : State) : stepsAlone start1.p0.tables start1.e0 (n + 1) s = stepsAlone start1.p0.tables start1.e0 n (stepsAlone start1.p0.tables start1.e0 1 s) := by
  have rest : ∀ (k : Nat) (u : State), (∀ j : Nat, stepsAlone start1.p0.tables start1.e0 (j + 1) u = u) → stepsAlone start1.p0.tables start1.e0 k u = u := fun k u h => by
    cases k with
    | zero => rfl
    | succ j => exact h j
  by_cases h : s.status = .running ∧ s.curStatus? = some .runnable ∧ s.alone = true
  · obtain ⟨h1, h2, h3⟩ := h
    simp only [stepsAlone, h1, h2, h3]
  · have hs : ∀ j : Nat, stepsAlone start1.p0.tables start1.e0 (j + 1) s = s := fun j => by
      unfold stepsAlone
      split
      · rename_i a b c
        exact absurd ⟨a, b, c⟩ h
      · rfl
    rw [hs n, hs 0, rest n s hs]
theorem bad_stop {s : State} (h : s.status ≠ .running) (n : Nat) : stepsAlone start1.p0.tables start1.e0 n s = s := by
  cases n with
  | zero => rfl
  | succ j =>
    unfold stepsAlone
    split
    · rename_i a b c
      exact absurd a h
    · rfl
theorem bad_deep : ∀ (n : Nat) (s : State), bad_run n s = true → ∀ k : Nat, 1 < (stepsAlone start1.p0.tables start1.e0 k s).frames.length := by
  intro n
  induction n with
  | zero =>
    intro s h k
    simp only [bad_run, Bool.and_eq_true, decide_eq_true_eq, Bool.not_eq_true', decide_eq_false_iff_not] at h
    rw [bad_stop h.2]
    exact h.1
  | succ n ih =>
    intro s h k
    simp only [bad_run, Bool.and_eq_true, decide_eq_true_eq] at h
    cases k with
    | zero => exact h.1
    | succ j =>
      rw [bad_step]
      exact ih _ h.2 j
/-- THE STATEMENT'S FIRST HALF IS FALSE: at this start the law doesn't return -/
theorem refuted : ¬ Claimed_1_1 := by
  intro hC
  obtain ⟨hL, hW, had, -, hcas, hclk, -⟩ := start1.atStart
  obtain ⟨n, o, -, -, hend, hpost⟩ := hC launch0 rfl hL hW start1.p0 start1.e0 had hcas hclk bad ⟨0, 0⟩ start1.args0 Lib.HandBits.below0 bad_frames bad_argsFit bad_heapFits bad_applies ⟨trivial, bad_rest, bad_narrow⟩
  have hdeep := bad_deep 71 bad bad_ran n
  cases o with
  | threw a =>
    have h := hpost.1
    simp [postC, limb_1_1, Cond.after, Cond.holds, Cond.value] at h
  | returned v =>
    have h : (stepsAlone start1.p0.tables start1.e0 n bad).frames = _ := hend
    rw [h] at hdeep
    simp at hdeep
theorem refuted_both : ¬ (Claimed_1_1 ∧ Claimed_1_2) := fun h => refuted h.1
