/-! THE START: what the tables and the Statement give -/
theorem x_OFof {args : Array Value} {s : State} {t : Term} {a : Nat} {v : Value} {o n d : String} {A : Nat → Prop} (ht : t.eval args s none [] s = some (.ref a)) (hv : (Term.field t o n d).eval args s none [] s = some v) (hA : ∀ a : Nat, a < s.heap.size → ¬ A a) : va_OF o n d v a A s s.heap := by
  cases hfo : s.fieldFound? o n d with
  | none =>
    rw [va_fe ht] at hv
    simp [State.fieldOf?, State.fieldNamed?, hfo] at hv
  | some x =>
    obtain ⟨cf, k, fi, f⟩ := x
    obtain ⟨g1, cell, g2, g3, -, -, g6⟩ := Term.field_spec hfo ht hv
    exact ⟨cf, k, fi, f, cell, hfo, g1, g2, g3, g6, hA _ (Array.getElem?_eq_some_iff.mp g2).1⟩
theorem x_exa {args : Array Value} {s : State} {t : Term} {nm : String} (h : (Cond.exactly t nm).before args s = true) : ∃ a : Nat, t.eval args s none [] s = some (.ref a) := by
  obtain ⟨a, c, cell, k, q1, -⟩ := Cond.exactly_spec (args := args) (first := s) (o := none) (s := s) (idx := []) (t := t) (cls := nm) h
  exact ⟨a, q1⟩
theorem x_arr {args : Array Value} {s : State} {ty : FieldType} (h : (Cond.arrayClass ty).before args s = true) : ∃ cA, ArrOfT s cA ty ∧ s.vm.findClass ("[" ++ ty.toString) = some cA := by
  obtain ⟨c, k, comp, h1, h2, h3⟩ := Cond.arrayClass_spec (args := args) (first := s) (o := none) (s := s) (idx := []) h
  exact ⟨c, fun n z => ⟨fun k h => (by cases h), k, h2, comp, h3⟩, h1⟩
def x_KY (k a sa va : Nat) (A : Nat → Prop) (H : Heap) (U : State) : Prop := va_Z "HazardRules$Key" (x_kn.getD k "") "LHazardRules$Key;" (.ref a) A U H ∧ va_OF "HazardRules$Key" "code" "I" (.int (z_kc k)) a A U H ∧ va_OF "HazardRules$Key" "letters" "Ljava/lang/String;" (.ref sa) a A U H ∧ va_O "java/lang/String" sa A U H ∧ va_OF "java/lang/String" "value" "[B" (.ref va) sa A U H ∧ va_OF "java/lang/String" "coder" "B" (.int 0) sa A U H ∧ va_T .byte va (z_kl k).length (fun j => .int ((z_kl k).getD j 0)) A U H
theorem x_key1 {args : Array Value} {s : State} {A : Nat → Prop} (hA : ∀ a : Nat, a < s.heap.size → ¬ A a) {k si : Nat} {nm : String} (e0 : x_kn.getD k "" = nm) (h1 : (Cond.laysStatic "HazardRules$Key" nm "LHazardRules$Key;").before args s = true) (h2 : (Cond.initialized "HazardRules$Key").before args s = true) (h3 : (Cond.exactly (.static "HazardRules$Key" nm "LHazardRules$Key;") "HazardRules$Key").before args s = true)
    (h4 : (Cond.eq (.field (.static "HazardRules$Key" nm "LHazardRules$Key;") "HazardRules$Key" "code" "I") (.int (z_kc k))).before args s = true) (h5 : (Cond.eq (.field (.static "HazardRules$Key" nm "LHazardRules$Key;") "HazardRules$Key" "letters" "Ljava/lang/String;") (.string "HazardRules$Key" si)).before args s = true)
    (h6 : (Cond.exactly (.string "HazardRules$Key" si) "java/lang/String").before args s = true) (h7 : (Cond.eq (.field (.string "HazardRules$Key" si) "java/lang/String" "coder" "B") (.int 0)).before args s = true) (h8 : (Cond.arrayOf (.field (.string "HazardRules$Key" si) "java/lang/String" "value" "[B") .byte).before args s = true)
    (h9 : (Cond.eq (.length (.field (.string "HazardRules$Key" si) "java/lang/String" "value" "[B")) (.int (Int32.ofNat (z_kl k).length))).before args s = true) (h10 : ∀ j : Nat, j < (z_kl k).length → (Cond.eq (.elem (.field (.string "HazardRules$Key" si) "java/lang/String" "value" "[B") (.int (Int32.ofNat j))) (.int ((z_kl k).getD j 0))).before args s = true) (hl : (z_kl k).length < 2 ^ 31) :
    ∃ q : Nat × Nat × Nat, x_KY k q.1 q.2.1 q.2.2 A s.heap s ∧ (Term.static "HazardRules$Key" (x_kn.getD k "") "LHazardRules$Key;").eval args s none [] s = some (.ref q.1) := by
  subst e0
  obtain ⟨a, ea⟩ := x_exa h3
  obtain ⟨sa, es⟩ := x_exa h6
  obtain ⟨va, ev, hT⟩ := va_Tof (f := fun j => .int ((z_kl k).getD j 0)) hl h8 (va_eqt h9) (fun j hj => va_eqt (h10 j hj)) hA
  exact ⟨(a, sa, va), ⟨va_Zof h1 h2 ea hA, x_OFof ea (va_eqt h4) hA, x_OFof ea (va_eqv h5 es) hA, va_Oof h6 es hA, x_OFof es ev hA, x_OFof es (va_eqt h7) hA, hT⟩, ea⟩
theorem x_key_0 {b : Nat} {s : State} (hts : ∀ w ∈ lw_tbl, w.before #[Value.ref b] s = true) (hs : ∀ w ∈ flatC (Jvm.Cond.and given_1 narrow_1), w.before #[Value.ref b] s = true) {A : Nat → Prop} (hA : ∀ a : Nat, a < s.heap.size → ¬ A a) : ∃ q : Nat × Nat × Nat, x_KY 0 q.1 q.2.1 q.2.2 A s.heap s ∧ (Term.static "HazardRules$Key" (x_kn.getD 0 "") "LHazardRules$Key;").eval #[Value.ref b] s none [] s = some (.ref q.1) := by
  refine x_key1 hA (k := 0) (si := 83) (nm := "FROM") rfl (hts _ (List.mem_of_getElem? (i := 280) (by decide +kernel))) (hts _ (List.mem_of_getElem? (i := 57) (by decide +kernel))) (hs _ (List.mem_of_getElem? (i := 31) (by decide +kernel))) (hs _ (List.mem_of_getElem? (i := 33) (by decide +kernel))) (hs _ (List.mem_of_getElem? (i := 34) (by decide +kernel))) (hs _ (List.mem_of_getElem? (i := 264) (by decide +kernel))) (hs _ (List.mem_of_getElem? (i := 265) (by decide +kernel))) (hs _ (List.mem_of_getElem? (i := 266) (by decide +kernel))) (hs _ (List.mem_of_getElem? (i := 267) (by decide +kernel))) (fun j hj => ?_) (by decide)
  · have hj : j < 4 := hj
    rcases Nat.lt_or_eq_of_le (Nat.le_of_lt_succ (show j < 4 from hj)) with hj | rfl
    rotate_left
    · exact (hs _ (List.mem_of_getElem? (i := 271) (by decide +kernel)))
    rcases Nat.lt_or_eq_of_le (Nat.le_of_lt_succ (show j < 3 from hj)) with hj | rfl
    rotate_left
    · exact (hs _ (List.mem_of_getElem? (i := 270) (by decide +kernel)))
    rcases Nat.lt_or_eq_of_le (Nat.le_of_lt_succ (show j < 2 from hj)) with hj | rfl
    rotate_left
    · exact (hs _ (List.mem_of_getElem? (i := 269) (by decide +kernel)))
    rcases Nat.lt_or_eq_of_le (Nat.le_of_lt_succ (show j < 1 from hj)) with hj | rfl
    rotate_left
    · exact (hs _ (List.mem_of_getElem? (i := 268) (by decide +kernel)))
    exact absurd hj (Nat.not_lt_zero _)
theorem x_key_1 {b : Nat} {s : State} (hts : ∀ w ∈ lw_tbl, w.before #[Value.ref b] s = true) (hs : ∀ w ∈ flatC (Jvm.Cond.and given_1 narrow_1), w.before #[Value.ref b] s = true) {A : Nat → Prop} (hA : ∀ a : Nat, a < s.heap.size → ¬ A a) : ∃ q : Nat × Nat × Nat, x_KY 1 q.1 q.2.1 q.2.2 A s.heap s ∧ (Term.static "HazardRules$Key" (x_kn.getD 1 "") "LHazardRules$Key;").eval #[Value.ref b] s none [] s = some (.ref q.1) := by
  refine x_key1 hA (k := 1) (si := 89) (nm := "CLASS") rfl (hts _ (List.mem_of_getElem? (i := 322) (by decide +kernel))) (hts _ (List.mem_of_getElem? (i := 57) (by decide +kernel))) (hs _ (List.mem_of_getElem? (i := 35) (by decide +kernel))) (hs _ (List.mem_of_getElem? (i := 37) (by decide +kernel))) (hs _ (List.mem_of_getElem? (i := 38) (by decide +kernel))) (hs _ (List.mem_of_getElem? (i := 273) (by decide +kernel))) (hs _ (List.mem_of_getElem? (i := 274) (by decide +kernel))) (hs _ (List.mem_of_getElem? (i := 275) (by decide +kernel))) (hs _ (List.mem_of_getElem? (i := 276) (by decide +kernel))) (fun j hj => ?_) (by decide)
  · have hj : j < 5 := hj
    rcases Nat.lt_or_eq_of_le (Nat.le_of_lt_succ (show j < 5 from hj)) with hj | rfl
    rotate_left
    · exact (hs _ (List.mem_of_getElem? (i := 281) (by decide +kernel)))
    rcases Nat.lt_or_eq_of_le (Nat.le_of_lt_succ (show j < 4 from hj)) with hj | rfl
    rotate_left
    · exact (hs _ (List.mem_of_getElem? (i := 280) (by decide +kernel)))
    rcases Nat.lt_or_eq_of_le (Nat.le_of_lt_succ (show j < 3 from hj)) with hj | rfl
    rotate_left
    · exact (hs _ (List.mem_of_getElem? (i := 279) (by decide +kernel)))
    rcases Nat.lt_or_eq_of_le (Nat.le_of_lt_succ (show j < 2 from hj)) with hj | rfl
    rotate_left
    · exact (hs _ (List.mem_of_getElem? (i := 278) (by decide +kernel)))
    rcases Nat.lt_or_eq_of_le (Nat.le_of_lt_succ (show j < 1 from hj)) with hj | rfl
    rotate_left
    · exact (hs _ (List.mem_of_getElem? (i := 277) (by decide +kernel)))
    exact absurd hj (Nat.not_lt_zero _)
theorem x_key_2 {b : Nat} {s : State} (hts : ∀ w ∈ lw_tbl, w.before #[Value.ref b] s = true) (hs : ∀ w ∈ flatC (Jvm.Cond.and given_1 narrow_1), w.before #[Value.ref b] s = true) {A : Nat → Prop} (hA : ∀ a : Nat, a < s.heap.size → ¬ A a) : ∃ q : Nat × Nat × Nat, x_KY 2 q.1 q.2.1 q.2.2 A s.heap s ∧ (Term.static "HazardRules$Key" (x_kn.getD 2 "") "LHazardRules$Key;").eval #[Value.ref b] s none [] s = some (.ref q.1) := by
  refine x_key1 hA (k := 2) (si := 92) (nm := "WHEN") rfl (hts _ (List.mem_of_getElem? (i := 324) (by decide +kernel))) (hts _ (List.mem_of_getElem? (i := 57) (by decide +kernel))) (hs _ (List.mem_of_getElem? (i := 40) (by decide +kernel))) (hs _ (List.mem_of_getElem? (i := 42) (by decide +kernel))) (hs _ (List.mem_of_getElem? (i := 43) (by decide +kernel))) (hs _ (List.mem_of_getElem? (i := 284) (by decide +kernel))) (hs _ (List.mem_of_getElem? (i := 285) (by decide +kernel))) (hs _ (List.mem_of_getElem? (i := 286) (by decide +kernel))) (hs _ (List.mem_of_getElem? (i := 287) (by decide +kernel))) (fun j hj => ?_) (by decide)
  · have hj : j < 4 := hj
    rcases Nat.lt_or_eq_of_le (Nat.le_of_lt_succ (show j < 4 from hj)) with hj | rfl
    rotate_left
    · exact (hs _ (List.mem_of_getElem? (i := 291) (by decide +kernel)))
    rcases Nat.lt_or_eq_of_le (Nat.le_of_lt_succ (show j < 3 from hj)) with hj | rfl
    rotate_left
    · exact (hs _ (List.mem_of_getElem? (i := 290) (by decide +kernel)))
    rcases Nat.lt_or_eq_of_le (Nat.le_of_lt_succ (show j < 2 from hj)) with hj | rfl
    rotate_left
    · exact (hs _ (List.mem_of_getElem? (i := 289) (by decide +kernel)))
    rcases Nat.lt_or_eq_of_le (Nat.le_of_lt_succ (show j < 1 from hj)) with hj | rfl
    rotate_left
    · exact (hs _ (List.mem_of_getElem? (i := 288) (by decide +kernel)))
    exact absurd hj (Nat.not_lt_zero _)
theorem x_key_3 {b : Nat} {s : State} (hts : ∀ w ∈ lw_tbl, w.before #[Value.ref b] s = true) (hs : ∀ w ∈ flatC (Jvm.Cond.and given_1 narrow_1), w.before #[Value.ref b] s = true) {A : Nat → Prop} (hA : ∀ a : Nat, a < s.heap.size → ¬ A a) : ∃ q : Nat × Nat × Nat, x_KY 3 q.1 q.2.1 q.2.2 A s.heap s ∧ (Term.static "HazardRules$Key" (x_kn.getD 3 "") "LHazardRules$Key;").eval #[Value.ref b] s none [] s = some (.ref q.1) := by
  refine x_key1 hA (k := 3) (si := 95) (nm := "AND") rfl (hts _ (List.mem_of_getElem? (i := 504) (by decide +kernel))) (hts _ (List.mem_of_getElem? (i := 57) (by decide +kernel))) (hs _ (List.mem_of_getElem? (i := 215) (by decide +kernel))) (hs _ (List.mem_of_getElem? (i := 217) (by decide +kernel))) (hs _ (List.mem_of_getElem? (i := 218) (by decide +kernel))) (hs _ (List.mem_of_getElem? (i := 522) (by decide +kernel))) (hs _ (List.mem_of_getElem? (i := 523) (by decide +kernel))) (hs _ (List.mem_of_getElem? (i := 524) (by decide +kernel))) (hs _ (List.mem_of_getElem? (i := 525) (by decide +kernel))) (fun j hj => ?_) (by decide)
  · have hj : j < 3 := hj
    rcases Nat.lt_or_eq_of_le (Nat.le_of_lt_succ (show j < 3 from hj)) with hj | rfl
    rotate_left
    · exact (hs _ (List.mem_of_getElem? (i := 528) (by decide +kernel)))
    rcases Nat.lt_or_eq_of_le (Nat.le_of_lt_succ (show j < 2 from hj)) with hj | rfl
    rotate_left
    · exact (hs _ (List.mem_of_getElem? (i := 527) (by decide +kernel)))
    rcases Nat.lt_or_eq_of_le (Nat.le_of_lt_succ (show j < 1 from hj)) with hj | rfl
    rotate_left
    · exact (hs _ (List.mem_of_getElem? (i := 526) (by decide +kernel)))
    exact absurd hj (Nat.not_lt_zero _)
theorem x_key_4 {b : Nat} {s : State} (hts : ∀ w ∈ lw_tbl, w.before #[Value.ref b] s = true) (hs : ∀ w ∈ flatC (Jvm.Cond.and given_1 narrow_1), w.before #[Value.ref b] s = true) {A : Nat → Prop} (hA : ∀ a : Nat, a < s.heap.size → ¬ A a) : ∃ q : Nat × Nat × Nat, x_KY 4 q.1 q.2.1 q.2.2 A s.heap s ∧ (Term.static "HazardRules$Key" (x_kn.getD 4 "") "LHazardRules$Key;").eval #[Value.ref b] s none [] s = some (.ref q.1) := by
  refine x_key1 hA (k := 4) (si := 98) (nm := "END") rfl (hts _ (List.mem_of_getElem? (i := 498) (by decide +kernel))) (hts _ (List.mem_of_getElem? (i := 57) (by decide +kernel))) (hs _ (List.mem_of_getElem? (i := 196) (by decide +kernel))) (hs _ (List.mem_of_getElem? (i := 198) (by decide +kernel))) (hs _ (List.mem_of_getElem? (i := 199) (by decide +kernel))) (hs _ (List.mem_of_getElem? (i := 499) (by decide +kernel))) (hs _ (List.mem_of_getElem? (i := 500) (by decide +kernel))) (hs _ (List.mem_of_getElem? (i := 501) (by decide +kernel))) (hs _ (List.mem_of_getElem? (i := 502) (by decide +kernel))) (fun j hj => ?_) (by decide)
  · have hj : j < 3 := hj
    rcases Nat.lt_or_eq_of_le (Nat.le_of_lt_succ (show j < 3 from hj)) with hj | rfl
    rotate_left
    · exact (hs _ (List.mem_of_getElem? (i := 505) (by decide +kernel)))
    rcases Nat.lt_or_eq_of_le (Nat.le_of_lt_succ (show j < 2 from hj)) with hj | rfl
    rotate_left
    · exact (hs _ (List.mem_of_getElem? (i := 504) (by decide +kernel)))
    rcases Nat.lt_or_eq_of_le (Nat.le_of_lt_succ (show j < 1 from hj)) with hj | rfl
    rotate_left
    · exact (hs _ (List.mem_of_getElem? (i := 503) (by decide +kernel)))
    exact absurd hj (Nat.not_lt_zero _)
theorem x_key_5 {b : Nat} {s : State} (hts : ∀ w ∈ lw_tbl, w.before #[Value.ref b] s = true) (hs : ∀ w ∈ flatC (Jvm.Cond.and given_1 narrow_1), w.before #[Value.ref b] s = true) {A : Nat → Prop} (hA : ∀ a : Nat, a < s.heap.size → ¬ A a) : ∃ q : Nat × Nat × Nat, x_KY 5 q.1 q.2.1 q.2.2 A s.heap s ∧ (Term.static "HazardRules$Key" (x_kn.getD 5 "") "LHazardRules$Key;").eval #[Value.ref b] s none [] s = some (.ref q.1) := by
  refine x_key1 hA (k := 5) (si := 101) (nm := "TEST") rfl (hts _ (List.mem_of_getElem? (i := 377) (by decide +kernel))) (hts _ (List.mem_of_getElem? (i := 57) (by decide +kernel))) (hs _ (List.mem_of_getElem? (i := 46) (by decide +kernel))) (hs _ (List.mem_of_getElem? (i := 48) (by decide +kernel))) (hs _ (List.mem_of_getElem? (i := 49) (by decide +kernel))) (hs _ (List.mem_of_getElem? (i := 295) (by decide +kernel))) (hs _ (List.mem_of_getElem? (i := 296) (by decide +kernel))) (hs _ (List.mem_of_getElem? (i := 297) (by decide +kernel))) (hs _ (List.mem_of_getElem? (i := 298) (by decide +kernel))) (fun j hj => ?_) (by decide)
  · have hj : j < 4 := hj
    rcases Nat.lt_or_eq_of_le (Nat.le_of_lt_succ (show j < 4 from hj)) with hj | rfl
    rotate_left
    · exact (hs _ (List.mem_of_getElem? (i := 302) (by decide +kernel)))
    rcases Nat.lt_or_eq_of_le (Nat.le_of_lt_succ (show j < 3 from hj)) with hj | rfl
    rotate_left
    · exact (hs _ (List.mem_of_getElem? (i := 301) (by decide +kernel)))
    rcases Nat.lt_or_eq_of_le (Nat.le_of_lt_succ (show j < 2 from hj)) with hj | rfl
    rotate_left
    · exact (hs _ (List.mem_of_getElem? (i := 300) (by decide +kernel)))
    rcases Nat.lt_or_eq_of_le (Nat.le_of_lt_succ (show j < 1 from hj)) with hj | rfl
    rotate_left
    · exact (hs _ (List.mem_of_getElem? (i := 299) (by decide +kernel)))
    exact absurd hj (Nat.not_lt_zero _)
theorem x_key_6 {b : Nat} {s : State} (hts : ∀ w ∈ lw_tbl, w.before #[Value.ref b] s = true) (hs : ∀ w ∈ flatC (Jvm.Cond.and given_1 narrow_1), w.before #[Value.ref b] s = true) {A : Nat → Prop} (hA : ∀ a : Nat, a < s.heap.size → ¬ A a) : ∃ q : Nat × Nat × Nat, x_KY 6 q.1 q.2.1 q.2.2 A s.heap s ∧ (Term.static "HazardRules$Key" (x_kn.getD 6 "") "LHazardRules$Key;").eval #[Value.ref b] s none [] s = some (.ref q.1) := by
  refine x_key1 hA (k := 6) (si := 104) (nm := "IS") rfl (hts _ (List.mem_of_getElem? (i := 428) (by decide +kernel))) (hts _ (List.mem_of_getElem? (i := 57) (by decide +kernel))) (hs _ (List.mem_of_getElem? (i := 61) (by decide +kernel))) (hs _ (List.mem_of_getElem? (i := 63) (by decide +kernel))) (hs _ (List.mem_of_getElem? (i := 64) (by decide +kernel))) (hs _ (List.mem_of_getElem? (i := 319) (by decide +kernel))) (hs _ (List.mem_of_getElem? (i := 320) (by decide +kernel))) (hs _ (List.mem_of_getElem? (i := 321) (by decide +kernel))) (hs _ (List.mem_of_getElem? (i := 322) (by decide +kernel))) (fun j hj => ?_) (by decide)
  · have hj : j < 2 := hj
    rcases Nat.lt_or_eq_of_le (Nat.le_of_lt_succ (show j < 2 from hj)) with hj | rfl
    rotate_left
    · exact (hs _ (List.mem_of_getElem? (i := 324) (by decide +kernel)))
    rcases Nat.lt_or_eq_of_le (Nat.le_of_lt_succ (show j < 1 from hj)) with hj | rfl
    rotate_left
    · exact (hs _ (List.mem_of_getElem? (i := 323) (by decide +kernel)))
    exact absurd hj (Nat.not_lt_zero _)
theorem x_key_7 {b : Nat} {s : State} (hts : ∀ w ∈ lw_tbl, w.before #[Value.ref b] s = true) (hs : ∀ w ∈ flatC (Jvm.Cond.and given_1 narrow_1), w.before #[Value.ref b] s = true) {A : Nat → Prop} (hA : ∀ a : Nat, a < s.heap.size → ¬ A a) : ∃ q : Nat × Nat × Nat, x_KY 7 q.1 q.2.1 q.2.2 A s.heap s ∧ (Term.static "HazardRules$Key" (x_kn.getD 7 "") "LHazardRules$Key;").eval #[Value.ref b] s none [] s = some (.ref q.1) := by
  refine x_key1 hA (k := 7) (si := 107) (nm := "NOT") rfl (hts _ (List.mem_of_getElem? (i := 426) (by decide +kernel))) (hts _ (List.mem_of_getElem? (i := 57) (by decide +kernel))) (hs _ (List.mem_of_getElem? (i := 53) (by decide +kernel))) (hs _ (List.mem_of_getElem? (i := 55) (by decide +kernel))) (hs _ (List.mem_of_getElem? (i := 56) (by decide +kernel))) (hs _ (List.mem_of_getElem? (i := 307) (by decide +kernel))) (hs _ (List.mem_of_getElem? (i := 308) (by decide +kernel))) (hs _ (List.mem_of_getElem? (i := 309) (by decide +kernel))) (hs _ (List.mem_of_getElem? (i := 310) (by decide +kernel))) (fun j hj => ?_) (by decide)
  · have hj : j < 3 := hj
    rcases Nat.lt_or_eq_of_le (Nat.le_of_lt_succ (show j < 3 from hj)) with hj | rfl
    rotate_left
    · exact (hs _ (List.mem_of_getElem? (i := 313) (by decide +kernel)))
    rcases Nat.lt_or_eq_of_le (Nat.le_of_lt_succ (show j < 2 from hj)) with hj | rfl
    rotate_left
    · exact (hs _ (List.mem_of_getElem? (i := 312) (by decide +kernel)))
    rcases Nat.lt_or_eq_of_le (Nat.le_of_lt_succ (show j < 1 from hj)) with hj | rfl
    rotate_left
    · exact (hs _ (List.mem_of_getElem? (i := 311) (by decide +kernel)))
    exact absurd hj (Nat.not_lt_zero _)
theorem x_key_8 {b : Nat} {s : State} (hts : ∀ w ∈ lw_tbl, w.before #[Value.ref b] s = true) (hs : ∀ w ∈ flatC (Jvm.Cond.and given_1 narrow_1), w.before #[Value.ref b] s = true) {A : Nat → Prop} (hA : ∀ a : Nat, a < s.heap.size → ¬ A a) : ∃ q : Nat × Nat × Nat, x_KY 8 q.1 q.2.1 q.2.2 A s.heap s ∧ (Term.static "HazardRules$Key" (x_kn.getD 8 "") "LHazardRules$Key;").eval #[Value.ref b] s none [] s = some (.ref q.1) := by
  refine x_key1 hA (k := 8) (si := 110) (nm := "HOLDS") rfl (hts _ (List.mem_of_getElem? (i := 430) (by decide +kernel))) (hts _ (List.mem_of_getElem? (i := 57) (by decide +kernel))) (hs _ (List.mem_of_getElem? (i := 70) (by decide +kernel))) (hs _ (List.mem_of_getElem? (i := 72) (by decide +kernel))) (hs _ (List.mem_of_getElem? (i := 73) (by decide +kernel))) (hs _ (List.mem_of_getElem? (i := 331) (by decide +kernel))) (hs _ (List.mem_of_getElem? (i := 332) (by decide +kernel))) (hs _ (List.mem_of_getElem? (i := 333) (by decide +kernel))) (hs _ (List.mem_of_getElem? (i := 334) (by decide +kernel))) (fun j hj => ?_) (by decide)
  · have hj : j < 5 := hj
    rcases Nat.lt_or_eq_of_le (Nat.le_of_lt_succ (show j < 5 from hj)) with hj | rfl
    rotate_left
    · exact (hs _ (List.mem_of_getElem? (i := 339) (by decide +kernel)))
    rcases Nat.lt_or_eq_of_le (Nat.le_of_lt_succ (show j < 4 from hj)) with hj | rfl
    rotate_left
    · exact (hs _ (List.mem_of_getElem? (i := 338) (by decide +kernel)))
    rcases Nat.lt_or_eq_of_le (Nat.le_of_lt_succ (show j < 3 from hj)) with hj | rfl
    rotate_left
    · exact (hs _ (List.mem_of_getElem? (i := 337) (by decide +kernel)))
    rcases Nat.lt_or_eq_of_le (Nat.le_of_lt_succ (show j < 2 from hj)) with hj | rfl
    rotate_left
    · exact (hs _ (List.mem_of_getElem? (i := 336) (by decide +kernel)))
    rcases Nat.lt_or_eq_of_le (Nat.le_of_lt_succ (show j < 1 from hj)) with hj | rfl
    rotate_left
    · exact (hs _ (List.mem_of_getElem? (i := 335) (by decide +kernel)))
    exact absurd hj (Nat.not_lt_zero _)
theorem x_key_9 {b : Nat} {s : State} (hts : ∀ w ∈ lw_tbl, w.before #[Value.ref b] s = true) (hs : ∀ w ∈ flatC (Jvm.Cond.and given_1 narrow_1), w.before #[Value.ref b] s = true) {A : Nat → Prop} (hA : ∀ a : Nat, a < s.heap.size → ¬ A a) : ∃ q : Nat × Nat × Nat, x_KY 9 q.1 q.2.1 q.2.2 A s.heap s ∧ (Term.static "HazardRules$Key" (x_kn.getD 9 "") "LHazardRules$Key;").eval #[Value.ref b] s none [] s = some (.ref q.1) := by
  refine x_key1 hA (k := 9) (si := 113) (nm := "SUM") rfl (hts _ (List.mem_of_getElem? (i := 432) (by decide +kernel))) (hts _ (List.mem_of_getElem? (i := 57) (by decide +kernel))) (hs _ (List.mem_of_getElem? (i := 80) (by decide +kernel))) (hs _ (List.mem_of_getElem? (i := 82) (by decide +kernel))) (hs _ (List.mem_of_getElem? (i := 83) (by decide +kernel))) (hs _ (List.mem_of_getElem? (i := 347) (by decide +kernel))) (hs _ (List.mem_of_getElem? (i := 348) (by decide +kernel))) (hs _ (List.mem_of_getElem? (i := 349) (by decide +kernel))) (hs _ (List.mem_of_getElem? (i := 350) (by decide +kernel))) (fun j hj => ?_) (by decide)
  · have hj : j < 3 := hj
    rcases Nat.lt_or_eq_of_le (Nat.le_of_lt_succ (show j < 3 from hj)) with hj | rfl
    rotate_left
    · exact (hs _ (List.mem_of_getElem? (i := 353) (by decide +kernel)))
    rcases Nat.lt_or_eq_of_le (Nat.le_of_lt_succ (show j < 2 from hj)) with hj | rfl
    rotate_left
    · exact (hs _ (List.mem_of_getElem? (i := 352) (by decide +kernel)))
    rcases Nat.lt_or_eq_of_le (Nat.le_of_lt_succ (show j < 1 from hj)) with hj | rfl
    rotate_left
    · exact (hs _ (List.mem_of_getElem? (i := 351) (by decide +kernel)))
    exact absurd hj (Nat.not_lt_zero _)
theorem x_key_10 {b : Nat} {s : State} (hts : ∀ w ∈ lw_tbl, w.before #[Value.ref b] s = true) (hs : ∀ w ∈ flatC (Jvm.Cond.and given_1 narrow_1), w.before #[Value.ref b] s = true) {A : Nat → Prop} (hA : ∀ a : Nat, a < s.heap.size → ¬ A a) : ∃ q : Nat × Nat × Nat, x_KY 10 q.1 q.2.1 q.2.2 A s.heap s ∧ (Term.static "HazardRules$Key" (x_kn.getD 10 "") "LHazardRules$Key;").eval #[Value.ref b] s none [] s = some (.ref q.1) := by
  refine x_key1 hA (k := 10) (si := 116) (nm := "OVER") rfl (hts _ (List.mem_of_getElem? (i := 492) (by decide +kernel))) (hts _ (List.mem_of_getElem? (i := 57) (by decide +kernel))) (hs _ (List.mem_of_getElem? (i := 178) (by decide +kernel))) (hs _ (List.mem_of_getElem? (i := 180) (by decide +kernel))) (hs _ (List.mem_of_getElem? (i := 181) (by decide +kernel))) (hs _ (List.mem_of_getElem? (i := 476) (by decide +kernel))) (hs _ (List.mem_of_getElem? (i := 477) (by decide +kernel))) (hs _ (List.mem_of_getElem? (i := 478) (by decide +kernel))) (hs _ (List.mem_of_getElem? (i := 479) (by decide +kernel))) (fun j hj => ?_) (by decide)
  · have hj : j < 4 := hj
    rcases Nat.lt_or_eq_of_le (Nat.le_of_lt_succ (show j < 4 from hj)) with hj | rfl
    rotate_left
    · exact (hs _ (List.mem_of_getElem? (i := 483) (by decide +kernel)))
    rcases Nat.lt_or_eq_of_le (Nat.le_of_lt_succ (show j < 3 from hj)) with hj | rfl
    rotate_left
    · exact (hs _ (List.mem_of_getElem? (i := 482) (by decide +kernel)))
    rcases Nat.lt_or_eq_of_le (Nat.le_of_lt_succ (show j < 2 from hj)) with hj | rfl
    rotate_left
    · exact (hs _ (List.mem_of_getElem? (i := 481) (by decide +kernel)))
    rcases Nat.lt_or_eq_of_le (Nat.le_of_lt_succ (show j < 1 from hj)) with hj | rfl
    rotate_left
    · exact (hs _ (List.mem_of_getElem? (i := 480) (by decide +kernel)))
    exact absurd hj (Nat.not_lt_zero _)
theorem x_key_11 {b : Nat} {s : State} (hts : ∀ w ∈ lw_tbl, w.before #[Value.ref b] s = true) (hs : ∀ w ∈ flatC (Jvm.Cond.and given_1 narrow_1), w.before #[Value.ref b] s = true) {A : Nat → Prop} (hA : ∀ a : Nat, a < s.heap.size → ¬ A a) : ∃ q : Nat × Nat × Nat, x_KY 11 q.1 q.2.1 q.2.2 A s.heap s ∧ (Term.static "HazardRules$Key" (x_kn.getD 11 "") "LHazardRules$Key;").eval #[Value.ref b] s none [] s = some (.ref q.1) := by
  refine x_key1 hA (k := 11) (si := 119) (nm := "UNDER") rfl (hts _ (List.mem_of_getElem? (i := 490) (by decide +kernel))) (hts _ (List.mem_of_getElem? (i := 57) (by decide +kernel))) (hs _ (List.mem_of_getElem? (i := 161) (by decide +kernel))) (hs _ (List.mem_of_getElem? (i := 163) (by decide +kernel))) (hs _ (List.mem_of_getElem? (i := 164) (by decide +kernel))) (hs _ (List.mem_of_getElem? (i := 453) (by decide +kernel))) (hs _ (List.mem_of_getElem? (i := 454) (by decide +kernel))) (hs _ (List.mem_of_getElem? (i := 455) (by decide +kernel))) (hs _ (List.mem_of_getElem? (i := 456) (by decide +kernel))) (fun j hj => ?_) (by decide)
  · have hj : j < 5 := hj
    rcases Nat.lt_or_eq_of_le (Nat.le_of_lt_succ (show j < 5 from hj)) with hj | rfl
    rotate_left
    · exact (hs _ (List.mem_of_getElem? (i := 461) (by decide +kernel)))
    rcases Nat.lt_or_eq_of_le (Nat.le_of_lt_succ (show j < 4 from hj)) with hj | rfl
    rotate_left
    · exact (hs _ (List.mem_of_getElem? (i := 460) (by decide +kernel)))
    rcases Nat.lt_or_eq_of_le (Nat.le_of_lt_succ (show j < 3 from hj)) with hj | rfl
    rotate_left
    · exact (hs _ (List.mem_of_getElem? (i := 459) (by decide +kernel)))
    rcases Nat.lt_or_eq_of_le (Nat.le_of_lt_succ (show j < 2 from hj)) with hj | rfl
    rotate_left
    · exact (hs _ (List.mem_of_getElem? (i := 458) (by decide +kernel)))
    rcases Nat.lt_or_eq_of_le (Nat.le_of_lt_succ (show j < 1 from hj)) with hj | rfl
    rotate_left
    · exact (hs _ (List.mem_of_getElem? (i := 457) (by decide +kernel)))
    exact absurd hj (Nat.not_lt_zero _)
theorem x_key_12 {b : Nat} {s : State} (hts : ∀ w ∈ lw_tbl, w.before #[Value.ref b] s = true) (hs : ∀ w ∈ flatC (Jvm.Cond.and given_1 narrow_1), w.before #[Value.ref b] s = true) {A : Nat → Prop} (hA : ∀ a : Nat, a < s.heap.size → ¬ A a) : ∃ q : Nat × Nat × Nat, x_KY 12 q.1 q.2.1 q.2.2 A s.heap s ∧ (Term.static "HazardRules$Key" (x_kn.getD 12 "") "LHazardRules$Key;").eval #[Value.ref b] s none [] s = some (.ref q.1) := by
  refine x_key1 hA (k := 12) (si := 122) (nm := "PLUS") rfl (hts _ (List.mem_of_getElem? (i := 444) (by decide +kernel))) (hts _ (List.mem_of_getElem? (i := 57) (by decide +kernel))) (hs _ (List.mem_of_getElem? (i := 103) (by decide +kernel))) (hs _ (List.mem_of_getElem? (i := 105) (by decide +kernel))) (hs _ (List.mem_of_getElem? (i := 106) (by decide +kernel))) (hs _ (List.mem_of_getElem? (i := 380) (by decide +kernel))) (hs _ (List.mem_of_getElem? (i := 381) (by decide +kernel))) (hs _ (List.mem_of_getElem? (i := 382) (by decide +kernel))) (hs _ (List.mem_of_getElem? (i := 383) (by decide +kernel))) (fun j hj => ?_) (by decide)
  · have hj : j < 4 := hj
    rcases Nat.lt_or_eq_of_le (Nat.le_of_lt_succ (show j < 4 from hj)) with hj | rfl
    rotate_left
    · exact (hs _ (List.mem_of_getElem? (i := 387) (by decide +kernel)))
    rcases Nat.lt_or_eq_of_le (Nat.le_of_lt_succ (show j < 3 from hj)) with hj | rfl
    rotate_left
    · exact (hs _ (List.mem_of_getElem? (i := 386) (by decide +kernel)))
    rcases Nat.lt_or_eq_of_le (Nat.le_of_lt_succ (show j < 2 from hj)) with hj | rfl
    rotate_left
    · exact (hs _ (List.mem_of_getElem? (i := 385) (by decide +kernel)))
    rcases Nat.lt_or_eq_of_le (Nat.le_of_lt_succ (show j < 1 from hj)) with hj | rfl
    rotate_left
    · exact (hs _ (List.mem_of_getElem? (i := 384) (by decide +kernel)))
    exact absurd hj (Nat.not_lt_zero _)
theorem x_key_13 {b : Nat} {s : State} (hts : ∀ w ∈ lw_tbl, w.before #[Value.ref b] s = true) (hs : ∀ w ∈ flatC (Jvm.Cond.and given_1 narrow_1), w.before #[Value.ref b] s = true) {A : Nat → Prop} (hA : ∀ a : Nat, a < s.heap.size → ¬ A a) : ∃ q : Nat × Nat × Nat, x_KY 13 q.1 q.2.1 q.2.2 A s.heap s ∧ (Term.static "HazardRules$Key" (x_kn.getD 13 "") "LHazardRules$Key;").eval #[Value.ref b] s none [] s = some (.ref q.1) := by
  refine x_key1 hA (k := 13) (si := 125) (nm := "MINUS") rfl (hts _ (List.mem_of_getElem? (i := 442) (by decide +kernel))) (hts _ (List.mem_of_getElem? (i := 57) (by decide +kernel))) (hs _ (List.mem_of_getElem? (i := 91) (by decide +kernel))) (hs _ (List.mem_of_getElem? (i := 93) (by decide +kernel))) (hs _ (List.mem_of_getElem? (i := 94) (by decide +kernel))) (hs _ (List.mem_of_getElem? (i := 362) (by decide +kernel))) (hs _ (List.mem_of_getElem? (i := 363) (by decide +kernel))) (hs _ (List.mem_of_getElem? (i := 364) (by decide +kernel))) (hs _ (List.mem_of_getElem? (i := 365) (by decide +kernel))) (fun j hj => ?_) (by decide)
  · have hj : j < 5 := hj
    rcases Nat.lt_or_eq_of_le (Nat.le_of_lt_succ (show j < 5 from hj)) with hj | rfl
    rotate_left
    · exact (hs _ (List.mem_of_getElem? (i := 370) (by decide +kernel)))
    rcases Nat.lt_or_eq_of_le (Nat.le_of_lt_succ (show j < 4 from hj)) with hj | rfl
    rotate_left
    · exact (hs _ (List.mem_of_getElem? (i := 369) (by decide +kernel)))
    rcases Nat.lt_or_eq_of_le (Nat.le_of_lt_succ (show j < 3 from hj)) with hj | rfl
    rotate_left
    · exact (hs _ (List.mem_of_getElem? (i := 368) (by decide +kernel)))
    rcases Nat.lt_or_eq_of_le (Nat.le_of_lt_succ (show j < 2 from hj)) with hj | rfl
    rotate_left
    · exact (hs _ (List.mem_of_getElem? (i := 367) (by decide +kernel)))
    rcases Nat.lt_or_eq_of_le (Nat.le_of_lt_succ (show j < 1 from hj)) with hj | rfl
    rotate_left
    · exact (hs _ (List.mem_of_getElem? (i := 366) (by decide +kernel)))
    exact absurd hj (Nat.not_lt_zero _)
theorem x_key_14 {b : Nat} {s : State} (hts : ∀ w ∈ lw_tbl, w.before #[Value.ref b] s = true) (hs : ∀ w ∈ flatC (Jvm.Cond.and given_1 narrow_1), w.before #[Value.ref b] s = true) {A : Nat → Prop} (hA : ∀ a : Nat, a < s.heap.size → ¬ A a) : ∃ q : Nat × Nat × Nat, x_KY 14 q.1 q.2.1 q.2.2 A s.heap s ∧ (Term.static "HazardRules$Key" (x_kn.getD 14 "") "LHazardRules$Key;").eval #[Value.ref b] s none [] s = some (.ref q.1) := by
  refine x_key1 hA (k := 14) (si := 128) (nm := "OF") rfl (hts _ (List.mem_of_getElem? (i := 446) (by decide +kernel))) (hts _ (List.mem_of_getElem? (i := 57) (by decide +kernel))) (hs _ (List.mem_of_getElem? (i := 116) (by decide +kernel))) (hs _ (List.mem_of_getElem? (i := 118) (by decide +kernel))) (hs _ (List.mem_of_getElem? (i := 119) (by decide +kernel))) (hs _ (List.mem_of_getElem? (i := 398) (by decide +kernel))) (hs _ (List.mem_of_getElem? (i := 399) (by decide +kernel))) (hs _ (List.mem_of_getElem? (i := 400) (by decide +kernel))) (hs _ (List.mem_of_getElem? (i := 401) (by decide +kernel))) (fun j hj => ?_) (by decide)
  · have hj : j < 2 := hj
    rcases Nat.lt_or_eq_of_le (Nat.le_of_lt_succ (show j < 2 from hj)) with hj | rfl
    rotate_left
    · exact (hs _ (List.mem_of_getElem? (i := 403) (by decide +kernel)))
    rcases Nat.lt_or_eq_of_le (Nat.le_of_lt_succ (show j < 1 from hj)) with hj | rfl
    rotate_left
    · exact (hs _ (List.mem_of_getElem? (i := 402) (by decide +kernel)))
    exact absurd hj (Nat.not_lt_zero _)
theorem x_key_15 {b : Nat} {s : State} (hts : ∀ w ∈ lw_tbl, w.before #[Value.ref b] s = true) (hs : ∀ w ∈ flatC (Jvm.Cond.and given_1 narrow_1), w.before #[Value.ref b] s = true) {A : Nat → Prop} (hA : ∀ a : Nat, a < s.heap.size → ¬ A a) : ∃ q : Nat × Nat × Nat, x_KY 15 q.1 q.2.1 q.2.2 A s.heap s ∧ (Term.static "HazardRules$Key" (x_kn.getD 15 "") "LHazardRules$Key;").eval #[Value.ref b] s none [] s = some (.ref q.1) := by
  refine x_key1 hA (k := 15) (si := 131) (nm := "CUT") rfl (hts _ (List.mem_of_getElem? (i := 482) (by decide +kernel))) (hts _ (List.mem_of_getElem? (i := 57) (by decide +kernel))) (hs _ (List.mem_of_getElem? (i := 130) (by decide +kernel))) (hs _ (List.mem_of_getElem? (i := 132) (by decide +kernel))) (hs _ (List.mem_of_getElem? (i := 133) (by decide +kernel))) (hs _ (List.mem_of_getElem? (i := 415) (by decide +kernel))) (hs _ (List.mem_of_getElem? (i := 416) (by decide +kernel))) (hs _ (List.mem_of_getElem? (i := 417) (by decide +kernel))) (hs _ (List.mem_of_getElem? (i := 418) (by decide +kernel))) (fun j hj => ?_) (by decide)
  · have hj : j < 3 := hj
    rcases Nat.lt_or_eq_of_le (Nat.le_of_lt_succ (show j < 3 from hj)) with hj | rfl
    rotate_left
    · exact (hs _ (List.mem_of_getElem? (i := 421) (by decide +kernel)))
    rcases Nat.lt_or_eq_of_le (Nat.le_of_lt_succ (show j < 2 from hj)) with hj | rfl
    rotate_left
    · exact (hs _ (List.mem_of_getElem? (i := 420) (by decide +kernel)))
    rcases Nat.lt_or_eq_of_le (Nat.le_of_lt_succ (show j < 1 from hj)) with hj | rfl
    rotate_left
    · exact (hs _ (List.mem_of_getElem? (i := 419) (by decide +kernel)))
    exact absurd hj (Nat.not_lt_zero _)
theorem x_key_16 {b : Nat} {s : State} (hts : ∀ w ∈ lw_tbl, w.before #[Value.ref b] s = true) (hs : ∀ w ∈ flatC (Jvm.Cond.and given_1 narrow_1), w.before #[Value.ref b] s = true) {A : Nat → Prop} (hA : ∀ a : Nat, a < s.heap.size → ¬ A a) : ∃ q : Nat × Nat × Nat, x_KY 16 q.1 q.2.1 q.2.2 A s.heap s ∧ (Term.static "HazardRules$Key" (x_kn.getD 16 "") "LHazardRules$Key;").eval #[Value.ref b] s none [] s = some (.ref q.1) := by
  refine x_key1 hA (k := 16) (si := 134) (nm := "BY") rfl (hts _ (List.mem_of_getElem? (i := 484) (by decide +kernel))) (hts _ (List.mem_of_getElem? (i := 57) (by decide +kernel))) (hs _ (List.mem_of_getElem? (i := 145) (by decide +kernel))) (hs _ (List.mem_of_getElem? (i := 147) (by decide +kernel))) (hs _ (List.mem_of_getElem? (i := 148) (by decide +kernel))) (hs _ (List.mem_of_getElem? (i := 434) (by decide +kernel))) (hs _ (List.mem_of_getElem? (i := 435) (by decide +kernel))) (hs _ (List.mem_of_getElem? (i := 436) (by decide +kernel))) (hs _ (List.mem_of_getElem? (i := 437) (by decide +kernel))) (fun j hj => ?_) (by decide)
  · have hj : j < 2 := hj
    rcases Nat.lt_or_eq_of_le (Nat.le_of_lt_succ (show j < 2 from hj)) with hj | rfl
    rotate_left
    · exact (hs _ (List.mem_of_getElem? (i := 439) (by decide +kernel)))
    rcases Nat.lt_or_eq_of_le (Nat.le_of_lt_succ (show j < 1 from hj)) with hj | rfl
    rotate_left
    · exact (hs _ (List.mem_of_getElem? (i := 438) (by decide +kernel)))
    exact absurd hj (Nat.not_lt_zero _)
theorem x_keys {b : Nat} {s : State} (hts : ∀ w ∈ lw_tbl, w.before #[Value.ref b] s = true) (hs : ∀ w ∈ flatC (Jvm.Cond.and given_1 narrow_1), w.before #[Value.ref b] s = true) {A : Nat → Prop} (hA : ∀ a : Nat, a < s.heap.size → ¬ A a) : ∃ f : Nat → Nat × Nat × Nat, ∀ k, k < 17 → x_KY k (f k).1 (f k).2.1 (f k).2.2 A s.heap s ∧ (Term.static "HazardRules$Key" (x_kn.getD k "") "LHazardRules$Key;").eval #[Value.ref b] s none [] s = some (.ref (f k).1) := by
  have h0 : ∀ k : Nat, ∃ q : Nat × Nat × Nat, k < 17 → x_KY k q.1 q.2.1 q.2.2 A s.heap s ∧ (Term.static "HazardRules$Key" (x_kn.getD k "") "LHazardRules$Key;").eval #[Value.ref b] s none [] s = some (.ref q.1) := by
    intro k
    by_cases hk : k < 17
    · have hh : k = 0 ∨ k = 1 ∨ k = 2 ∨ k = 3 ∨ k = 4 ∨ k = 5 ∨ k = 6 ∨ k = 7 ∨ k = 8 ∨ k = 9 ∨ k = 10 ∨ k = 11 ∨ k = 12 ∨ k = 13 ∨ k = 14 ∨ k = 15 ∨ k = 16 := by omega
      rcases hh with rfl | rfl | rfl | rfl | rfl | rfl | rfl | rfl | rfl | rfl | rfl | rfl | rfl | rfl | rfl | rfl | rfl
      · obtain ⟨q, hq⟩ := x_key_0 hts hs hA
        exact ⟨q, fun _ => hq⟩
      · obtain ⟨q, hq⟩ := x_key_1 hts hs hA
        exact ⟨q, fun _ => hq⟩
      · obtain ⟨q, hq⟩ := x_key_2 hts hs hA
        exact ⟨q, fun _ => hq⟩
      · obtain ⟨q, hq⟩ := x_key_3 hts hs hA
        exact ⟨q, fun _ => hq⟩
      · obtain ⟨q, hq⟩ := x_key_4 hts hs hA
        exact ⟨q, fun _ => hq⟩
      · obtain ⟨q, hq⟩ := x_key_5 hts hs hA
        exact ⟨q, fun _ => hq⟩
      · obtain ⟨q, hq⟩ := x_key_6 hts hs hA
        exact ⟨q, fun _ => hq⟩
      · obtain ⟨q, hq⟩ := x_key_7 hts hs hA
        exact ⟨q, fun _ => hq⟩
      · obtain ⟨q, hq⟩ := x_key_8 hts hs hA
        exact ⟨q, fun _ => hq⟩
      · obtain ⟨q, hq⟩ := x_key_9 hts hs hA
        exact ⟨q, fun _ => hq⟩
      · obtain ⟨q, hq⟩ := x_key_10 hts hs hA
        exact ⟨q, fun _ => hq⟩
      · obtain ⟨q, hq⟩ := x_key_11 hts hs hA
        exact ⟨q, fun _ => hq⟩
      · obtain ⟨q, hq⟩ := x_key_12 hts hs hA
        exact ⟨q, fun _ => hq⟩
      · obtain ⟨q, hq⟩ := x_key_13 hts hs hA
        exact ⟨q, fun _ => hq⟩
      · obtain ⟨q, hq⟩ := x_key_14 hts hs hA
        exact ⟨q, fun _ => hq⟩
      · obtain ⟨q, hq⟩ := x_key_15 hts hs hA
        exact ⟨q, fun _ => hq⟩
      · obtain ⟨q, hq⟩ := x_key_16 hts hs hA
        exact ⟨q, fun _ => hq⟩
    · exact ⟨(0, 0, 0), fun h => absurd h hk⟩
  exact Classical.axiomOfChoice h0
theorem x_tab {b : Nat} {s : State} (hts : ∀ w ∈ lw_tbl, w.before #[Value.ref b] s = true) (hs : ∀ w ∈ flatC (Jvm.Cond.and given_1 narrow_1), w.before #[Value.ref b] s = true) {A : Nat → Prop} (hA : ∀ a : Nat, a < s.heap.size → ¬ A a) {f : Nat → Nat × Nat × Nat} (hf : ∀ k, k < 17 → (Term.static "HazardRules$Key" (x_kn.getD k "") "LHazardRules$Key;").eval #[Value.ref b] s none [] s = some (.ref (f k).1)) : ∃ t : Nat, va_Z "HazardRules" "KEYS" "[LHazardRules$Key;" (.ref t) A s s.heap ∧ va_T (.object "HazardRules$Key") t 17 (fun j => .ref (f j).1) A s s.heap := by
  suffices hj0 : ∀ j : Nat, j < 17 → (Term.elem (.static "HazardRules" "KEYS" "[LHazardRules$Key;") (.int (Int32.ofNat j))).eval #[Value.ref b] s none [] s = some (.ref (f j).1) by
    obtain ⟨t, e1, e2⟩ := va_Tof (N := 17) (f := fun j => .ref (f j).1) (tm := .static "HazardRules" "KEYS" "[LHazardRules$Key;") (ty := .object "HazardRules$Key") (by decide) (hs _ (List.mem_of_getElem? (i := 6) (by decide +kernel))) (va_eqt (hs _ (List.mem_of_getElem? (i := 7) (by decide +kernel)))) hj0 hA
    exact ⟨t, va_Zof (hts _ (List.mem_of_getElem? (i := 203) (by decide +kernel))) (hts _ (List.mem_of_getElem? (i := 44) (by decide +kernel))) e1 hA, e2⟩
  intro j hj
  have hh : j = 0 ∨ j = 1 ∨ j = 2 ∨ j = 3 ∨ j = 4 ∨ j = 5 ∨ j = 6 ∨ j = 7 ∨ j = 8 ∨ j = 9 ∨ j = 10 ∨ j = 11 ∨ j = 12 ∨ j = 13 ∨ j = 14 ∨ j = 15 ∨ j = 16 := by omega
  rcases hh with rfl | rfl | rfl | rfl | rfl | rfl | rfl | rfl | rfl | rfl | rfl | rfl | rfl | rfl | rfl | rfl | rfl
  · exact va_eqv (hs _ (List.mem_of_getElem? (i := 9) (by decide +kernel))) (hf 0 (by decide))
  · exact va_eqv (hs _ (List.mem_of_getElem? (i := 10) (by decide +kernel))) (hf 1 (by decide))
  · exact va_eqv (hs _ (List.mem_of_getElem? (i := 11) (by decide +kernel))) (hf 2 (by decide))
  · exact va_eqv (hs _ (List.mem_of_getElem? (i := 12) (by decide +kernel))) (hf 3 (by decide))
  · exact va_eqv (hs _ (List.mem_of_getElem? (i := 13) (by decide +kernel))) (hf 4 (by decide))
  · exact va_eqv (hs _ (List.mem_of_getElem? (i := 14) (by decide +kernel))) (hf 5 (by decide))
  · exact va_eqv (hs _ (List.mem_of_getElem? (i := 15) (by decide +kernel))) (hf 6 (by decide))
  · exact va_eqv (hs _ (List.mem_of_getElem? (i := 16) (by decide +kernel))) (hf 7 (by decide))
  · exact va_eqv (hs _ (List.mem_of_getElem? (i := 17) (by decide +kernel))) (hf 8 (by decide))
  · exact va_eqv (hs _ (List.mem_of_getElem? (i := 18) (by decide +kernel))) (hf 9 (by decide))
  · exact va_eqv (hs _ (List.mem_of_getElem? (i := 19) (by decide +kernel))) (hf 10 (by decide))
  · exact va_eqv (hs _ (List.mem_of_getElem? (i := 20) (by decide +kernel))) (hf 11 (by decide))
  · exact va_eqv (hs _ (List.mem_of_getElem? (i := 21) (by decide +kernel))) (hf 12 (by decide))
  · exact va_eqv (hs _ (List.mem_of_getElem? (i := 22) (by decide +kernel))) (hf 13 (by decide))
  · exact va_eqv (hs _ (List.mem_of_getElem? (i := 23) (by decide +kernel))) (hf 14 (by decide))
  · exact va_eqv (hs _ (List.mem_of_getElem? (i := 24) (by decide +kernel))) (hf 15 (by decide))
  · exact va_eqv (hs _ (List.mem_of_getElem? (i := 25) (by decide +kernel))) (hf 16 (by decide))
theorem x_stat {b : Nat} {s : State} (hts : ∀ w ∈ lw_tbl, w.before #[Value.ref b] s = true) (hs : ∀ w ∈ flatC (Jvm.Cond.and given_1 narrow_1), w.before #[Value.ref b] s = true) {A : Nat → Prop} (hA : ∀ a : Nat, a < s.heap.size → ¬ A a) : va_Z "java/lang/String" "COMPACT_STRINGS" "Z" (.int 1) A s s.heap ∧ (∃ o : Option Nat, va_Z "jdk/internal/util/Preconditions" "SIOOBE_FORMATTER" "Ljava/util/function/BiFunction;" (va_rf o) A s s.heap) ∧ (∃ u : RefV, va_Z Bundle.tN "UNASSIGNED_STACK" Bundle.steD u.v A s s.heap) ∧ (∃ u : RefV, va_Z Bundle.tN "SUPPRESSED_SENTINEL" Bundle.listD u.v A s s.heap) ∧ ∃ q, vk_R RX9 169 "no such item" q s := by
  refine ⟨va_Zof (hts _ (List.mem_of_getElem? (i := 216) (by decide +kernel))) (hts _ (List.mem_of_getElem? (i := 51) (by decide +kernel))) (va_eqi (hs _ (List.mem_of_getElem? (i := 26) (by decide +kernel)))) hA, ?_, ?_, ?_, ?_⟩
  · obtain ⟨v, hv, hr⟩ := Cond.isRef_spec (args := #[Value.ref b]) (first := s) (o := none) (s := s) (idx := []) (t := .static "jdk/internal/util/Preconditions" "SIOOBE_FORMATTER" "Ljava/util/function/BiFunction;") (hs _ (List.mem_of_getElem? (i := 27) (by decide +kernel)))
    have hz := va_Zof (A := A) (hts _ (List.mem_of_getElem? (i := 232) (by decide +kernel))) (hts _ (List.mem_of_getElem? (i := 53) (by decide +kernel))) hv hA
    cases v with
    | null => exact ⟨none, hz⟩
    | ref a => exact ⟨some a, hz⟩
    | _ => cases hr
  · obtain ⟨v, hv, hr⟩ := Cond.isRef_spec (args := #[Value.ref b]) (first := s) (o := none) (s := s) (idx := []) (t := .static "java/lang/Throwable" "UNASSIGNED_STACK" "[Ljava/lang/StackTraceElement;") (hs _ (List.mem_of_getElem? (i := 235) (by decide +kernel)))
    exact ⟨⟨v, hr⟩, va_Zof (hts _ (List.mem_of_getElem? (i := 741) (by decide +kernel))) (hts _ (List.mem_of_getElem? (i := 62) (by decide +kernel))) hv hA⟩
  · obtain ⟨v, hv, hr⟩ := Cond.isRef_spec (args := #[Value.ref b]) (first := s) (o := none) (s := s) (idx := []) (t := .static "java/lang/Throwable" "SUPPRESSED_SENTINEL" "Ljava/util/List;") (hs _ (List.mem_of_getElem? (i := 236) (by decide +kernel)))
    exact ⟨⟨v, hr⟩, va_Zof (hts _ (List.mem_of_getElem? (i := 743) (by decide +kernel))) (hts _ (List.mem_of_getElem? (i := 62) (by decide +kernel))) hv hA⟩
  · obtain ⟨q, hq⟩ := x_exa (t := .string "HazardRules" 169) (nm := "java/lang/String") (hs _ (List.mem_of_getElem? (i := 248) (by decide +kernel)))
    exact ⟨q, vk_R.of (hts _ (List.mem_of_getElem? (i := 753) (by decide +kernel))) hq⟩
theorem x_nl_in : ∀ w ∈ x_nl, w ∈ lw_tbl := by decide +kernel
theorem xt_in : ∀ w ∈ xt_atoms RX9 171 xt_X xt_ns, w ∈ lw_tbl := by decide +kernel
