/-! A start at which every premise of the statement holds (as at the witness's own), and at which UNTOLD's array is of a second class of int arrays: one that has a clone() of its own, native and without a row. No premise says of which class the array in UNTOLD is: 'arrayOf' speaks of the kind of its components alone. -/
def bad_clone : Method := { name := "clone", desc := "()Ljava/lang/Object;", sig := { parameters := [], returnType := some (.object "java/lang/Object") }, accessFlags := 0x101, code := none }
def bad_K : Class := { start1.cArr "jt/Q" 17 .int with methods := #[bad_clone] }
def bad_cell : Cell := { cls := 25, slots := #[.int (10), .int (5), .int (300), .int (10), .int (-1), .int (12), .int (0), .int (0), .int (1), .int (100), .int (4), .int (0)], vm := .none }
def bad : State := { start1.about with vm := { start1.about.vm with classes := start1.about.vm.classes.push bad_K }, heap := start1.about.heap.setIfInBounds 6 bad_cell }
theorem bad_untold : (Cond.arrayOf (.static "KeyBox$RuleSet" "UNTOLD" "[I") .int).before start1.args0 bad = true := by decide +kernel
theorem bad_name : bad.vm.findClass "[I" = some 18 := by decide +kernel
theorem bad_at : (Term.static "KeyBox$RuleSet" "UNTOLD" "[I").eval start1.args0 bad none [] bad = some (.ref 6) ∧ (bad.heap[(6 : Nat)]?).map (·.cls) = some 25 := by decide +kernel
set_option maxRecDepth 16384 in
theorem bad_rest : rest_1_c.before start1.args0 bad = true := by decide +kernel
set_option maxRecDepth 16384 in
theorem bad_narrow : (Cond.and given_1 narrow_1).before start1.args0 bad = true := by decide +kernel
theorem bad_heapFits : heapFits bad = true := by decide +kernel
theorem bad_argsFit : argsFit bad.vm ⟨0, 0⟩ start1.args0 = true := by decide +kernel
theorem bad_frames : bad.frames = Frame.invoking ⟨0, 0⟩ start1.args0 :: Lib.HandBits.below0 := rfl
/-- the words on code: the methods stand where they stood -/
theorem bad_class {c : Nat} {k : Class} (h : start1.about.vm.classes[c]? = some k) : bad.vm.classes[c]? = some k := by
  show (start1.about.vm.classes.push bad_K)[c]? = some k
  have hc := (Array.getElem?_eq_some_iff.mp h).1
  rw [Array.getElem?_push, if_neg (Nat.ne_of_lt hc)]
  exact h
theorem bad_find {n : String} {c : ClassId} (h : start1.about.vm.findClass n = some c) : bad.vm.findClass n = some c := by
  unfold Vm.findClass at h ⊢
  show (start1.about.vm.classes.push bad_K).findIdx? _ = some c
  rw [Array.findIdx?_push, h]
  rfl
theorem bad_named {x : MethodName} {m : MethodId} (h : start1.about.methodNamed? x = some m) : bad.methodNamed? x = some m := by
  unfold State.methodNamed? at h ⊢
  simp only [Option.bind_eq_bind, Option.bind_eq_some_iff] at h ⊢
  obtain ⟨c, h1, k, h2, h3⟩ := h
  exact ⟨c, bad_find h1, k, bad_class h2, h3⟩
theorem bad_method {m : MethodId} {t : Method} (h : start1.about.vm.method? m = some t) : bad.vm.method? m = some t := by
  unfold Vm.method? at h ⊢
  simp only [Option.bind_eq_bind, Option.bind_eq_some_iff] at h ⊢
  obtain ⟨k, h1, h2⟩ := h
  exact ⟨k, bad_class h1, h2⟩
theorem bad_code {x : MethodName} {b : ByteArray} {n : Nat} {r : Option FieldType} (h : (Cond.code x b n r).before start1.args0 start1.about = true) : (Cond.code x b n r).before start1.args0 bad = true := by
  simp only [Cond.before, Cond.holds, Cond.value] at h ⊢
  cases hm : start1.about.methodNamed? x with
  | none => rw [hm] at h; cases h
  | some m =>
    rw [hm, Option.bind_some] at h
    rw [bad_named hm, Option.bind_some]
    cases ht : start1.about.vm.method? m with
    | none => rw [ht] at h; cases h
    | some t =>
      rw [ht] at h
      rw [bad_method ht]
      exact h
theorem bad_codes {l : List Cond} (hl : ∀ c ∈ l, c ∈ (Cond.code x code maxLocals ret :: tables_1)) : ∀ c ∈ l.filter su_isCode, c.before start1.args0 bad = true := by
  intro c hc
  obtain ⟨h1, h2⟩ := List.mem_filter.mp hc
  have h3 := start1.words c (hl c h1)
  cases c <;> first | exact bad_code h3 | (simp [su_isCode] at h2)
