/-! both sides' verdicts are the same -/
theorem z_V_un {X : z_X} {C : Nat → Int32} {R : List (Nat × Nat)} {act : Int32} : ∀ (k r : Nat), ¬ z_V X C R act k r = -5 → r < k ∧ ∃ q, R[r]? = some q ∧ nI q.2 = act
  | 0, r, h => absurd rfl h
  | k + 1, r, h => by
    have ih := z_V_un (X := X) (C := C) (R := R) (act := act) k r
    unfold z_V at h
    cases hq : R[k]? with
    | none =>
      rw [hq] at h
      have := ih h
      exact ⟨by omega, this.2⟩
    | some q =>
      rw [hq] at h
      dsimp only at h
      split at h
      · rename_i ha
        by_cases e : r = k
        · subst e
          exact ⟨by omega, q, hq, ha⟩
        · rw [pk_un e] at h
          have := ih h
          exact ⟨by omega, this.2⟩
      · have := ih h
        exact ⟨by omega, this.2⟩
theorem z_V_k {X : z_X} {C : Nat → Int32} {R : List (Nat × Nat)} {act : Int32} {k r : Nat} (h : k ≤ r) : z_V X C R act k r = -5 := by
  apply Classical.byContradiction
  intro z
  have := (z_V_un k r z).1
  omega
theorem z_V_s1 {X : z_X} {C : Nat → Int32} {R : List (Nat × Nat)} {act : Int32} {k : Nat} {q : Nat × Nat} (hq : R[k]? = some q) (ha : nI q.2 = act) : z_V X C R act (k + 1) = upd (z_V X C R act k) k (z_jd X C R (z_V X C R act k) k q) := by
  show (match R[k]? with | some q => _ | none => _) = _
  rw [hq]
  exact if_pos ha
theorem z_V_s0 {X : z_X} {C : Nat → Int32} {R : List (Nat × Nat)} {act : Int32} {k : Nat} {q : Nat × Nat} (hq : R[k]? = some q) (ha : ¬ nI q.2 = act) : z_V X C R act (k + 1) = z_V X C R act k := by
  show (match R[k]? with | some q => _ | none => _) = _
  rw [hq]
  exact if_neg ha
theorem z_OO_s1 {X : z_X} {C : Nat → Int32} {R : List (Nat × Nat)} {act : Int32} {k : Nat} {q : Nat × Nat} (hq : R[k]? = some q) (ha : nI q.2 = act) : z_OO X C R act (k + 1) = z_oa (z_OO X C R act k) (z_jd X C R (z_V X C R act k) k q) (C (q.1 + 1)) := by
  show (match R[k]? with | some q => _ | none => _) = _
  rw [hq]
  exact if_pos ha
theorem z_OO_s0 {X : z_X} {C : Nat → Int32} {R : List (Nat × Nat)} {act : Int32} {k : Nat} {q : Nat × Nat} (hq : R[k]? = some q) (ha : ¬ nI q.2 = act) : z_OO X C R act (k + 1) = z_OO X C R act k := by
  show (match R[k]? with | some q => _ | none => _) = _
  rw [hq]
  exact if_neg ha
theorem z_oh_V {X : z_X} {C : Nat → Int32} {R : List (Nat × Nat)} {act : Int32} : ∀ (k : Nat), k ≤ R.length → z_oh C R (z_V X C R act k) (z_OO X C R act k)
  | 0, _ => by
    intro c
    constructor
    · intro z
      cases z
    · rintro ⟨j, hj⟩
      have hl := z_so_lt hj
      obtain ⟨q, hq⟩ : ∃ q, R[j]? = some q := ⟨_, List.getElem?_eq_getElem hl⟩
      exact absurd ((z_so_iff hq).mp hj).1 (by rw [z_V_k (Nat.zero_le j)]; decide)
  | k + 1, hk => by
    have ih := z_oh_V (X := X) (C := C) (R := R) (act := act) k (by omega)
    obtain ⟨q, hq⟩ : ∃ q, R[k]? = some q := ⟨_, List.getElem?_eq_getElem (by omega)⟩
    by_cases ha : nI q.2 = act
    · rw [z_V_s1 hq ha, z_OO_s1 hq ha]
      intro c
      have e1 : c ∈ z_oa (z_OO X C R act k) (z_jd X C R (z_V X C R act k) k q) (C (q.1 + 1)) ↔ c ∈ z_OO X C R act k ∨ (z_jd X C R (z_V X C R act k) k q = -2 ∧ c = C (q.1 + 1)) := by
        unfold z_oa
        split
        · rename_i h1
          rw [List.mem_append, List.mem_singleton]
          constructor
          · rintro (z | z)
            · exact Or.inl z
            · exact Or.inr ⟨h1.1, z⟩
          · rintro (z | z)
            · exact Or.inl z
            · exact Or.inr z.2
        · rename_i h1
          constructor
          · exact Or.inl
          · rintro (z | z)
            · exact z
            · apply Classical.byContradiction
              intro y
              exact h1 ⟨z.1, by rw [← z.2]; exact y⟩
      rw [e1, ih c]
      constructor
      · rintro (⟨j, hj⟩ | z)
        · have hjl := z_so_lt hj
          obtain ⟨s, hs⟩ : ∃ s, R[j]? = some s := ⟨_, List.getElem?_eq_getElem hjl⟩
          have hj2 := (z_so_iff hs).mp hj
          refine ⟨j, (z_so_iff hs).mpr ⟨?_, hj2.2⟩⟩
          rw [pk_un (fun z => by rw [z, z_V_k (Nat.le_refl k)] at hj2; exact absurd hj2.1 (by decide))]
          exact hj2.1
        · exact ⟨k, (z_so_iff hq).mpr ⟨by rw [pk_us]; exact z.1, z.2.symm⟩⟩
      · rintro ⟨j, hj⟩
        have hjl := z_so_lt hj
        obtain ⟨s, hs⟩ : ∃ s, R[j]? = some s := ⟨_, List.getElem?_eq_getElem hjl⟩
        have hj2 := (z_so_iff hs).mp hj
        by_cases e : j = k
        · subst e
          rw [hq] at hs
          cases hs
          rw [pk_us] at hj2
          exact Or.inr ⟨hj2.1, hj2.2.symm⟩
        · rw [pk_un e] at hj2
          exact Or.inl ⟨j, (z_so_iff hs).mpr hj2⟩
    · rw [z_V_s0 hq ha, z_OO_s0 hq ha]
      exact ih
theorem z_on_OO {X : z_X} {C : Nat → Int32} {R : List (Nat × Nat)} {act : Int32} (hR : ∀ q ∈ R, v_ru C q) : ∀ (k : Nat), z_on (z_OO X C R act k)
  | 0 => ⟨List.nodup_nil, fun c hc => by cases hc⟩
  | k + 1 => by
    have ih := z_on_OO (X := X) (act := act) hR k
    cases hq : R[k]? with
    | none =>
      show z_on (match R[k]? with | some q => _ | none => _)
      rw [hq]
      exact ih
    | some q =>
      by_cases ha : nI q.2 = act
      · rw [z_OO_s1 hq ha]
        have h19 := (hR q (List.mem_of_getElem? hq)).1
        exact ih.oa ⟨h19.1, h19.2.2⟩
      · rw [z_OO_s0 hq ha]
        exact ih
theorem z_anyo_iff {C : Nat → Int32} {V : Nat → Int32} {c : Int32} : ∀ {L : List (Nat × Nat)} {j : Nat}, z_anyo C V c L j = true ↔ ∃ i q, L[i]? = some q ∧ C (q.1 + 1) = c ∧ 0 ≤ V (j + i)
  | [], j => by
    constructor
    · intro z; cases z
    · rintro ⟨i, q, h, _⟩; simp at h
  | s :: L, j => by
    show ((C (s.1 + 1) == c && decide (0 ≤ V j)) || z_anyo C V c L (j + 1)) = true ↔ _
    rw [Bool.or_eq_true, z_anyo_iff (L := L) (j := j + 1), Bool.and_eq_true, beq_iff_eq, decide_eq_true_iff]
    constructor
    · rintro (⟨h1, h2⟩ | ⟨i, q, h1, h2, h3⟩)
      · exact ⟨0, s, rfl, h1, h2⟩
      · exact ⟨i + 1, q, by simpa using h1, h2, by rw [show j + (i + 1) = j + 1 + i by omega]; exact h3⟩
    · rintro ⟨i, q, h1, h2, h3⟩
      cases i with
      | zero =>
        have : s = q := by simpa using h1
        subst this
        exact Or.inl ⟨h2, h3⟩
      | succ i => exact Or.inr ⟨i, q, by simpa using h1, h2, by rw [show j + 1 + i = j + (i + 1) by omega]; exact h3⟩
/-- 'holds' is read alike -/
theorem z_hv_eq {X : z_X} {C : Nat → Int32} {R : List (Nat × Nat)} {act : Int32} {k : Nat} {q : Nat × Nat} (hR : ∀ q ∈ R, v_ru C q) (hq : R[k]? = some q) (ha : nI q.2 = act) {O : List Int32} (hO : z_oh C R (z_V X C R act k) O) (p : Nat) : (if C (p + 1) ∈ O then -2 else if z_anyo C (z_V X C R act k) (C (p + 1)) R 0 = true then 300 + C (p + 1) else -3) = z_vh C R (z_V X C R act k) k q.2 p := by
  have key : ∀ (j : Nat), ¬ z_V X C R act k j = -5 → ∀ s, R[j]? = some s → j < k ∧ s.2 = q.2 := by
    intro j hj s hs
    obtain ⟨h1, s', h2, h3⟩ := z_V_un k j hj
    rw [hs] at h2
    cases h2
    refine ⟨h1, (nI_eq ?_ ?_).mp (h3.trans ha.symm)⟩
    · have := (hR s (List.mem_of_getElem? hs)).2.1
      omega
    · have := (hR q (List.mem_of_getElem? hq)).2.1
      omega
  have e1 : C (p + 1) ∈ O ↔ (List.range k).any (z_h1 C R (z_V X C R act k) q.2 (C (p + 1))) = true := by
    rw [hO, List.any_eq_true]
    constructor
    · rintro ⟨j, hj⟩
      obtain ⟨s, hs⟩ : ∃ s, R[j]? = some s := ⟨_, List.getElem?_eq_getElem (z_so_lt hj)⟩
      have h2 := (z_so_iff hs).mp hj
      obtain ⟨g1, g2⟩ := key j (by rw [h2.1]; decide) s hs
      refine ⟨j, List.mem_range.mpr g1, ?_⟩
      unfold z_h1
      rw [hs]
      simp [g2, h2.1, h2.2]
    · rintro ⟨j, hj, h3⟩
      unfold z_h1 at h3
      cases hs : R[j]? with
      | none => rw [hs] at h3; cases h3
      | some s =>
        rw [hs] at h3
        simp at h3
        exact ⟨j, (z_so_iff hs).mpr ⟨h3.2, h3.1.2⟩⟩
  have e2 : z_anyo C (z_V X C R act k) (C (p + 1)) R 0 = true ↔ (List.range k).any (z_h2 C R (z_V X C R act k) q.2 (C (p + 1))) = true := by
    rw [z_anyo_iff, List.any_eq_true]
    constructor
    · rintro ⟨j, s, hs, h1, h2⟩
      rw [Nat.zero_add] at h2
      obtain ⟨g1, g2⟩ := key j (fun z => by rw [z] at h2; exact absurd h2 (by decide)) s hs
      refine ⟨j, List.mem_range.mpr g1, ?_⟩
      unfold z_h2
      rw [hs]
      simp [g2, h1, h2]
    · rintro ⟨j, hj, h3⟩
      unfold z_h2 at h3
      cases hs : R[j]? with
      | none => rw [hs] at h3; cases h3
      | some s =>
        rw [hs] at h3
        simp at h3
        exact ⟨j, s, hs, h3.1.2, by rw [Nat.zero_add]; exact h3.2⟩
  unfold z_vh
  by_cases h1 : C (p + 1) ∈ O
  · rw [if_pos h1, if_pos (e1.mp h1)]
  · rw [if_neg h1, if_neg (fun z => h1 (e1.mpr z))]
    by_cases h2 : z_anyo C (z_V X C R act k) (C (p + 1)) R 0 = true
    · rw [if_pos h2, if_pos (e2.mp h2)]
    · rw [if_neg h2, if_neg (fun z => h2 (e2.mpr z))]
theorem z_rx_eq {X : z_X} {C : Nat → Int32} {R : List (Nat × Nat)} {V : Nat → Int32} {O : List Int32} {k e : Nat} (h : ∀ p, z_vx X C R V O p = z_vi X C R V k e p) : ∀ (L : List Nat) (u : Int32), z_rx X C R V O L u = z_rv X C R V k e L u
  | [], _ => rfl
  | p :: L, u => by
    show z_rx X C R V O L (z_acc u (z_vx X C R V O p)) = z_rv X C R V k e L (z_acc u (z_vi X C R V k e p))
    rw [h p]
    exact z_rx_eq h L _
theorem z_rx_V {X : z_X} {C : Nat → Int32} {R : List (Nat × Nat)} {act : Int32} {k : Nat} {q : Nat × Nat} (hR : ∀ q ∈ R, v_ru C q) (hq : R[k]? = some q) (ha : nI q.2 = act) (hk : k ≤ R.length) (L : List Nat) (u : Int32) : z_rx X C R (z_V X C R act k) (z_OO X C R act k) L u = z_rv X C R (z_V X C R act k) k q.2 L u := by
  refine z_rx_eq (fun p => ?_) L u
  unfold z_vx z_vi
  rw [z_hv_eq hR hq ha (z_oh_V k hk) p]
theorem z_hl_app : ∀ (O : List Int32) (c : Int32), (0 ≤ c ∧ c ≤ 19) → ¬ c ∈ O → (z_hl (O ++ [c]) 0).length = (z_hl O 0).length + 1 := by
  intro O c hc hn
  obtain ⟨j, hj, rfl⟩ := nI_of2 (x := c) (M := 19) (n := 19) (by decide) (Int32.not_lt.mpr hc.1) hc.2
  have step : ∀ (m i : Nat), 20 - i = m → (z_hl (O ++ [nI j]) i).length = (z_hl O i).length + (if i ≤ j then 1 else 0) := by
    intro m
    induction m with
    | zero =>
      intro i hi
      have e : ∀ O : List Int32, z_hl O i = [] := fun O => by unfold z_hl; rw [show 20 - i = 0 by omega]; rfl
      rw [e, e, if_neg (by omega)]
      rfl
    | succ m ih =>
      intro i hi
      have ih2 := ih (i + 1) (by omega)
      rw [z_hl_s (O := O ++ [nI j]) (i := i) (by omega), z_hl_s (O := O) (i := i) (by omega)]
      by_cases e : i = j
      · subst e
        rw [if_pos (by simp), if_neg hn, List.length_cons, ih2, if_neg (by omega), if_pos (Nat.le_refl _)]
      · have e2 : nI i ∈ O ++ [nI j] ↔ nI i ∈ O := by
          rw [List.mem_append, List.mem_singleton]
          constructor
          · rintro (z | z)
            · exact z
            · exact absurd ((nI_eq (by omega) (by omega)).mp z) e
          · exact Or.inl
        have e3 : (if i + 1 ≤ j then 1 else 0) = if i ≤ j then 1 else 0 := by
          by_cases h : i ≤ j
          · rw [if_pos h, if_pos (by omega)]
          · rw [if_neg h, if_neg (by omega)]
        by_cases h1 : nI i ∈ O
        · rw [if_pos (e2.mpr h1), if_pos h1, List.length_cons, List.length_cons, ih2, e3]
          omega
        · rw [if_neg (fun z => h1 (e2.mp z)), if_neg h1, ih2, e3]
  have := step 20 0 rfl
  rw [if_pos (Nat.zero_le _)] at this
  exact this
theorem z_hl_rev : ∀ (L : List Int32), z_on L.reverse → (z_hl L.reverse 0).length = L.length
  | [], _ => by
    show (z_hl [] 0).length = 0
    decide
  | c :: L, h => by
    rw [List.reverse_cons] at h ⊢
    have h1 : z_on L.reverse := ⟨(List.nodup_append.mp h.1).1, fun x hx => h.2 x (List.mem_append_left _ hx)⟩
    have h2 : ¬ c ∈ L.reverse := fun z => (List.nodup_append.mp h.1).2.2 c z c (by simp) rfl
    rw [z_hl_app _ _ (h.2 c (by simp)) h2, z_hl_rev L h1]
    rfl
theorem z_hl_len {O : List Int32} (h : z_on O) : (z_hl O 0).length = O.length := by
  have := z_hl_rev O.reverse (by rw [List.reverse_reverse]; exact h)
  rw [List.reverse_reverse, List.length_reverse] at this
  exact this
