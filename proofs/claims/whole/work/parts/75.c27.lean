/-! BRIDGES: what the class answers by lists of places, and what the reference answers -/
theorem z_ta_kt (f : Nat → Int32) (k : Int32) : ∀ (L : List Nat) (s : Nat), z_kt (L.map f) s k = match z_ta L s k with
    | some i => f i
    | none => -1
  | [], s => rfl
  | p :: L, s => by
    show (if nI s = k then f p else z_kt (L.map f) (s + 1) k) = match (if nI s = k then some p else z_ta L (s + 1) k) with
      | some i => f i
      | none => -1
    by_cases h : nI s = k
    · rw [if_pos h, if_pos h]
    · rw [if_neg h, if_neg h]
      exact z_ta_kt f k L (s + 1)
theorem z_ta_mem {k : Int32} : ∀ {L : List Nat} {s i : Nat}, z_ta L s k = some i → i ∈ L
  | [], s, i, h => by cases h
  | p :: L, s, i, h => by
    have h : (if nI s = k then some p else z_ta L (s + 1) k) = some i := h
    by_cases e : nI s = k
    · rw [if_pos e] at h
      cases h
      exact List.mem_cons_self
    · rw [if_neg e] at h
      exact List.mem_cons_of_mem _ (z_ta_mem h)
/-- by number: the place -/
theorem z_ta_get {k : Int32} : ∀ {L : List Nat} {s : Nat}, s + L.length < 2 ^ 31 → (z_ta L s k = if nI s ≤ k then L[k.toNatClampNeg - s]? else none)
  | [], s, _ => by
    show none = _
    split
    · rw [List.getElem?_nil]
    · rfl
  | p :: L, s, hl => by
    have hl : s + (L.length + 1) < 2 ^ 31 := hl
    have ih := z_ta_get (k := k) (L := L) (s := s + 1) (by omega)
    show (if nI s = k then some p else z_ta L (s + 1) k) = _
    by_cases e : nI s = k
    · subst e
      rw [if_pos rfl, if_pos (Int32.le_refl _), nI_clamp (by omega), Nat.sub_self]
      rfl
    · rw [if_neg e, ih]
      by_cases c : nI s ≤ k
      · have c2 : nI (s + 1) ≤ k := by
          rw [Int32.le_iff_toInt_le] at c ⊢
          have e1 := nI_toInt (n := s) (by omega)
          have e2 := nI_toInt (n := s + 1) (by omega)
          rw [e1] at c
          rw [e2]
          have : ¬ (s : Int) = k.toInt := fun z => e (Int32.toInt_inj.mp (e1.trans z))
          omega
        rw [if_pos c, if_pos c2]
        have c3 : s + 1 ≤ k.toNatClampNeg := by
          rw [Int32.le_iff_toInt_le, nI_toInt (by omega)] at c2
          have : k.toNatClampNeg = k.toInt.toNat := rfl
          omega
        rw [show k.toNatClampNeg - s = (k.toNatClampNeg - (s + 1)) + 1 by omega, List.getElem?_cons_succ]
      · have c2 : ¬ nI (s + 1) ≤ k := by
          rw [Int32.le_iff_toInt_le] at c ⊢
          have e1 := nI_toInt (n := s) (by omega)
          have e2 := nI_toInt (n := s + 1) (by omega)
          rw [e1] at c
          rw [e2]
          omega
        rw [if_neg c, if_neg c2]
theorem z_ta_0 {k : Int32} {L : List Nat} (hl : L.length < 2 ^ 31) : z_ta L 0 k = if 0 ≤ k then L[k.toNatClampNeg]? else none := by
  have := z_ta_get (k := k) (L := L) (s := 0) (by omega)
  rw [this]
  rfl
theorem z_ta_s {f : Nat → Int32} {k : Int32} {L : List Nat} {s i : Nat} (h : z_ta L s k = some i) : z_kt (L.map f) s k = f i := by rw [z_ta_kt, h]
theorem z_ta_n {f : Nat → Int32} {k : Int32} {L : List Nat} {s : Nat} (h : z_ta L s k = none) : z_kt (L.map f) s k = -1 := by rw [z_ta_kt, h]
theorem z_sw2 {x : Int32} (h0 : ¬ x = 0) (h1 : ¬ x = 1) (h2 : ¬ x = 2) : x.toInt < 0 ∨ 2 < x.toInt := by
  have e0 : ¬ x.toInt = 0 := fun z => h0 (Int32.toInt_inj.mp (z.trans (by decide)))
  have e1 : ¬ x.toInt = 1 := fun z => h1 (Int32.toInt_inj.mp (z.trans (by decide)))
  have e2 : ¬ x.toInt = 2 := fun z => h2 (Int32.toInt_inj.mp (z.trans (by decide)))
  omega
/-! days -/
theorem z_lead_le (day : Int64) : ∀ (E : List Int32), z_lead E day ≤ E.length
  | [] => Nat.le_refl _
  | d :: E => by
    show (if d.toInt64 ≤ day then z_lead E day + 1 else 0) ≤ E.length + 1
    have := z_lead_le day E
    split <;> omega
theorem z_lead_lt (day : Int64) : ∀ {E : List Int32} {j : Nat}, j < z_lead E day → ∃ d, E[j]? = some d ∧ d.toInt64 ≤ day
  | [], j, h => absurd h (Nat.not_lt_zero _)
  | d :: E, j, h => by
    have h : j < (if d.toInt64 ≤ day then z_lead E day + 1 else 0) := h
    by_cases c : d.toInt64 ≤ day
    · rw [if_pos c] at h
      cases j with
      | zero => exact ⟨d, rfl, c⟩
      | succ j => exact z_lead_lt day (E := E) (by omega)
    · rw [if_neg c] at h
      omega
theorem z_lead_at (day : Int64) : ∀ {E : List Int32} {d : Int32}, E[z_lead E day]? = some d → ¬ d.toInt64 ≤ day
  | [], d, h => by cases h
  | d0 :: E, d, h => by
    have h : (d0 :: E)[if d0.toInt64 ≤ day then z_lead E day + 1 else 0]? = some d := h
    by_cases c : d0.toInt64 ≤ day
    · rw [if_pos c] at h
      exact z_lead_at day (E := E) h
    · rw [if_neg c] at h
      cases h
      exact c
theorem z_lead_ge {day : Int64} {E : List Int32} (hp : E.Pairwise (· < ·)) {j : Nat} {d : Int32} (hj : E[j]? = some d) (hl : z_lead E day ≤ j) : ¬ d.toInt64 ≤ day := by
  obtain ⟨j1, j2⟩ := List.getElem?_eq_some_iff.mp hj
  rcases Nat.lt_or_eq_of_le hl with hlt | he
  · obtain ⟨d0, h0⟩ : ∃ d0, E[z_lead E day]? = some d0 := ⟨_, List.getElem?_eq_getElem (by omega)⟩
    have n0 := z_lead_at day h0
    obtain ⟨k1, k2⟩ := List.getElem?_eq_some_iff.mp h0
    have := List.pairwise_iff_getElem.mp hp _ j k1 j1 hlt
    rw [j2, k2] at this
    intro z
    refine n0 (Int64.le_trans ?_ z)
    rw [Int64.le_iff_toInt_le, Int32.toInt_toInt64, Int32.toInt_toInt64]
    rw [Int32.lt_iff_toInt_lt] at this
    omega
  · subst he
    exact z_lead_at day hj
/-- the edition that acts: the class counts the days that lead, the reference looks from the last -/
theorem z_lead_ed {day : Int64} {E : List Int32} (hp : E.Pairwise (· < ·)) : ∀ k, k ≤ E.length → z_lead E day ≤ k → z_ed E day k = nI (z_lead E day) - 1
  | 0, _, h => by
    have : z_lead E day = 0 := by omega
    rw [this]
    rfl
  | k + 1, hk, h => by
    obtain ⟨d, hd⟩ : ∃ d, E[k]? = some d := ⟨_, List.getElem?_eq_getElem (by omega)⟩
    rw [show z_ed E day (k + 1) = if d.toInt64 ≤ day then nI k else z_ed E day k from by
      show (match E[k]? with | some d => if d.toInt64 ≤ day then nI k else z_ed E day k | none => z_ed E day k) = _
      rw [hd]]
    by_cases c : z_lead E day ≤ k
    · rw [if_neg (z_lead_ge hp hd c)]
      exact z_lead_ed hp k (by omega) c
    · have e : z_lead E day = k + 1 := by omega
      obtain ⟨d2, g1, g2⟩ := z_lead_lt day (E := E) (j := k) (by omega)
      rw [hd] at g1
      cases g1
      rw [if_pos g2, e, ← nI_1]
      exact (Int32.add_sub_cancel _ _).symm
theorem z_lts {x : Int32} (h0 : 0 ≤ x) (h : x ≤ 999999999) : x < x + 1 := by
  obtain ⟨j, hj, e⟩ := nI_of2 (x := x) (M := 999999999) (n := 999999999) (by decide) (Int32.not_lt.mpr h0) h
  rw [e, nI_1]
  exact nI_lt (by omega) (by omega)
/-- a text that fits: its days rise -/
theorem q_all_days {C : Nat → Int32} {n : Nat} (hN : q_N C n) : ∀ (f a ed ru : Nat) (L : Int32) (b : Nat), a ≤ n → ru ≤ 60 → (z_sc C a).2.Pairwise (· < ·) → (∀ d ∈ (z_sc C a).2, d < L) → q_all C 1501 n f a ed ru L = (true, b) → (z_sc C n).2.Pairwise (· < ·)
  | 0, a, ed, ru, L, b, _, _, _, _, h => by cases h
  | f + 1, a, ed, ru, L, b, ha, hru, hp, hd, h => by
    have hfit := (q_all_fit hN (f + 1) a ed ru L b ha hru h).2.1
    by_cases h1 : n ≤ a
    · have : a = n := by omega
      subst this
      exact hp
    · rw [q_all_1 h1] at h
      by_cases h2 : C a = -2
      · rw [if_pos h2] at h
        by_cases h3 : q_n C L 999999999 (a + 1)
        · rw [if_pos h3] at h
          have h4 := ((hfit a (Nat.le_refl _) (by omega)).1 h2).2
          have e := z_sc_from h2 h3
          refine q_all_days hN f (a + 2) (ed + 1) ru _ b (by omega) hru ?_ ?_ h
          · rw [e]
            refine List.pairwise_append.mpr ⟨hp, List.pairwise_singleton _ _, fun x hx y hy => ?_⟩
            rw [List.mem_singleton] at hy
            subst hy
            exact Int32.lt_of_lt_of_le (hd x hx) h3.2.1
          · have hs : C (a + 1) < C (a + 1) + 1 := z_lts h3.1 h3.2.2
            rw [e]
            intro d hd2
            rcases List.mem_append.mp hd2 with z | z
            · exact Int32.lt_trans (Int32.lt_of_lt_of_le (hd d z) h3.2.1) hs
            · rw [List.mem_singleton] at z
              subst z
              exact hs
        · rw [if_neg h3] at h
          cases h
      · rw [if_neg h2] at h
        unfold q_al2 at h
        by_cases h3 : ed = 0
        · rw [if_pos h3] at h
          cases h
        · rw [if_neg h3] at h
          by_cases h4 : 60 ≤ ru
          · rw [if_pos h4] at h
            cases h
          · rw [if_neg h4] at h
            rcases hq : q_rule C 1501 a with ⟨t, c⟩
            rw [hq] at h
            cases t with
            | false => cases h
            | true =>
              obtain ⟨c2, g1, g2⟩ := (hfit a (Nat.le_refl _) (by omega)).2 (q_rule_in hq).1
              rw [hq] at g1
              cases g1
              have h5 := q_rule_st (F := 1501) hN ha
              rw [hq] at h5
              obtain ⟨h6, h7, h8⟩ := h5
              have hac : a < c := by
                have h8 := h8 rfl
                dsimp only at h6 h7 h8
                omega
              have e := z_sc_rule hac hq
              exact q_all_days hN f c ed (ru + 1) L b g2 (by omega) (by rw [e]; exact hp) (by rw [e]; exact hd) h
theorem z_rd_days {C : Nat → Int32} {n : Nat} (hN : q_N C n) (h : (z_rd C n).1 = true) : (z_sc C n).2.Pairwise (· < ·) := by
  rcases hr : z_rd C n with ⟨t, b⟩
  rw [hr] at h
  cases h
  exact q_all_days hN (n + 1) 0 0 0 0 b (Nat.zero_le _) (by omega) List.Pairwise.nil (fun d hd => by cases hd) hr
/-! rules of a text that fits -/
theorem z_sc_mem {C : Nat → Int32} : ∀ {n : Nat} {q : Nat × Nat}, q ∈ (z_sc C n).1 → q.1 < n ∧ C q.1 = -3 ∧ q.2 ≤ q.1
  | 0, q, h => by cases h
  | n + 1, q, h => by
    have h : q ∈ (if C n = -3 then (z_sc C n).1 ++ [(n, (z_sc C n).2.length - 1)] else (z_sc C n).1) := h
    by_cases c : C n = -3
    · rw [if_pos c] at h
      rcases List.mem_append.mp h with z | z
      · have := z_sc_mem z
        exact ⟨by omega, this.2⟩
      · rw [List.mem_singleton] at z
        subst z
        have := (z_sc_days C n).1
        exact ⟨Nat.lt_succ_self n, c, by show (z_sc C n).2.length - 1 ≤ n; omega⟩
    · rw [if_neg c] at h
      have := z_sc_mem h
      exact ⟨by omega, this.2⟩
theorem z_rd_fit {C : Nat → Int32} {n : Nat} (hN : q_N C n) (h : (z_rd C n).1 = true) : z_fit C 1501 n 0 ∧ (z_sc C n).1.length ≤ 60 ∧ (z_rd C n).2 = n := by
  rcases hr : z_rd C n with ⟨t, b⟩
  rw [hr] at h
  cases h
  obtain ⟨r1, r2, r3, r4⟩ := q_all_fit hN (n + 1) 0 0 0 0 b (Nat.zero_le _) (by omega) hr
  exact ⟨r2, by simpa [z_sc] using r3, r1⟩
theorem z_rd_rule {C : Nat → Int32} {n : Nat} (hN : q_N C n) (h : (z_rd C n).1 = true) {q : Nat × Nat} (hq : q ∈ (z_sc C n).1) : q.1 < n ∧ q.2 < n ∧ ∃ b, q_rule C 1501 q.1 = (true, b) := by
  obtain ⟨h1, h2, h3⟩ := z_sc_mem hq
  obtain ⟨b, hb, -⟩ := ((z_rd_fit hN h).1 q.1 (Nat.zero_le _) h1).2 h2
  exact ⟨h1, by omega, b, hb⟩
theorem v_ru_of {C : Nat → Int32} {q : Nat × Nat} {b : Nat} (h2 : q.2 < 1500) (h : q_rule C 1501 q.1 = (true, b)) : v_ru C q := by
  obtain ⟨g1, g2, g3, g4, g5⟩ := q_rule_in h
  exact ⟨g2, h2, v_its g4⟩
theorem z_sum_tk {C : Nat → Int32} {p b : Nat} (h : q_sum C 1501 (p + 1) = (true, b)) : ∀ a ∈ z_tms C 1501 (p + 1), z_tk C a := z_tms_tk (q_sum_more h)
/-! the least bound -/
theorem z_lm_lo {v : Int64} {u n : Int32} (hu : u = -1 ∨ 0 ≤ u) : z_lm (z_lm v u) n = z_lm v (if 0 ≤ n ∧ (u = -1 ∨ n < u) then n else u) := by
  have e0 : (0 : Int32).toInt = 0 := by decide
  have e1 : (-1 : Int32).toInt = -1 := by decide
  have f0 : (0 : Int64).toInt = 0 := by decide
  have hu2 : u.toInt = -1 ∨ 0 ≤ u.toInt := by
    rcases hu with z | z
    · exact Or.inl (by rw [z]; decide)
    · rw [Int32.le_iff_toInt_le] at z
      exact Or.inr (by omega)
  have hi : u = -1 ↔ u.toInt = -1 := ⟨fun z => by rw [z]; decide, fun z => Int32.toInt_inj.mp (z.trans e1.symm)⟩
  have h1 : z_lm v u = if 0 ≤ u.toInt ∧ (v.toInt < 0 ∨ u.toInt < v.toInt) then u.toInt64 else v := by
    unfold z_lm
    simp only [Int64.lt_iff_toInt_lt, Int32.le_iff_toInt_le, e0, f0, Int32.toInt_toInt64]
  have h2 : ∀ w : Int64, z_lm w n = if 0 ≤ n.toInt ∧ (w.toInt < 0 ∨ n.toInt < w.toInt) then n.toInt64 else w := by
    intro w
    unfold z_lm
    simp only [Int64.lt_iff_toInt_lt, Int32.le_iff_toInt_le, e0, f0, Int32.toInt_toInt64]
  have h3 : (0 ≤ n ∧ (u = -1 ∨ n < u)) ↔ (0 ≤ n.toInt ∧ (u.toInt = -1 ∨ n.toInt < u.toInt)) := by
    rw [Int32.le_iff_toInt_le, Int32.lt_iff_toInt_lt, hi, e0]
  by_cases p : 0 ≤ u.toInt ∧ (v.toInt < 0 ∨ u.toInt < v.toInt)
  · rw [if_pos p] at h1
    rw [h1, h2, Int32.toInt_toInt64]
    by_cases q : 0 ≤ n.toInt ∧ (u.toInt = -1 ∨ n.toInt < u.toInt)
    · rw [if_pos (h3.mpr q), h2, if_pos (by omega), if_pos (by omega)]
    · rw [if_neg (fun z => q (h3.mp z)), h1, if_neg (by omega)]
  · rw [if_neg p] at h1
    rw [h1, h2]
    by_cases q : 0 ≤ n.toInt ∧ (u.toInt = -1 ∨ n.toInt < u.toInt)
    · rw [if_pos (h3.mpr q), h2]
    · rw [if_neg (fun z => q (h3.mp z)), h1, if_neg (by omega)]
theorem z_los_ok {C : Nat → Int32} : ∀ {L : List Nat} {u : Int32}, (u = -1 ∨ 0 ≤ u) → (z_los C L u = -1 ∨ 0 ≤ z_los C L u)
  | [], u, h => h
  | p :: L, u, h => by
    refine z_los_ok (L := L) (u := z_lo1 C u p) ?_
    unfold z_lo1
    split
    · rename_i z
      exact Or.inr z.1
    · exact h
theorem z_lo1_ok {C : Nat → Int32} {u : Int32} {p : Nat} (h : u = -1 ∨ 0 ≤ u) : z_lo1 C u p = -1 ∨ 0 ≤ z_lo1 C u p := by
  unfold z_lo1
  split
  · rename_i z
    exact Or.inr z.1
  · exact h
theorem z_lm_l1 {C : Nat → Int32} {v : Int64} {u : Int32} {p : Nat} (h : u = -1 ∨ 0 ≤ u) : z_lm (z_lm v u) (z_l1 C p) = z_lm v (z_lo1 C u p) := by
  rw [z_lm_lo h]
  unfold z_lo1
  rfl
theorem z_lis_los {C : Nat → Int32} {v : Int64} (L : List Nat) : ∀ {u : Int32}, (u = -1 ∨ 0 ≤ u) → z_lis C L (z_lm v u) = z_lm v (z_los C L u) := by
  induction L with
  | nil => intro u h; unfold z_lis z_los; rfl
  | cons p L ih =>
    intro u h
    unfold z_lis z_los
    rw [z_lm_l1 h]
    exact ih (z_lo1_ok h)
theorem z_lis_1 {C : Nat → Int32} (v : Int64) (L : List Nat) : z_lis C L v = z_lm v (z_los C L (-1)) := by
  have k := z_lis_los (C := C) (v := v) L (u := -1) (Or.inl rfl)
  rw [show z_lm v (-1) = v from if_neg (fun z => absurd z.1 (by decide))] at k
  exact k
theorem z_lm_ok {v : Int64} {u : Int32} (h : v = -1 ∨ 0 ≤ v) : z_lm v u = -1 ∨ 0 ≤ z_lm v u := by
  unfold z_lm
  split
  · rename_i z
    refine Or.inr ?_
    have k := z.1
    rw [Int32.le_iff_toInt_le, show (0 : Int32).toInt = 0 from by decide] at k
    rw [Int64.le_iff_toInt_le, Int32.toInt_toInt64, show (0 : Int64).toInt = 0 from by decide]
    exact k
  · exact h
/-! a sum by a part that is none -/
theorem z_tot_0 {X : z_X} {C : Nat → Int32} {high : Bool} {part : Int32} (hp : ¬ (-1 ≤ part ∧ part ≤ 15)) : ∀ {L : List Nat} {t : Int64}, (∀ a ∈ L, z_tk C a) → z_tot X C high part L t = t
  | [], t, _ => rfl
  | a :: L, t, h => by
    have ha := (h a List.mem_cons_self).2.2.1
    have e : z_sh X C high part a = 0 := by
      unfold z_sh
      rw [if_pos ⟨fun z => hp (by rw [z]; decide), fun z => hp (by rw [z]; exact ⟨Int32.le_trans (by decide) ha.1, ha.2.2⟩)⟩]
    show z_tot X C high part L (if z_lk X C a = -1 then t + z_sh X C high part a else t) = t
    rw [e, Int64.add_zero, ite_self]
    exact z_tot_0 hp (fun b hb => h b (List.mem_cons_of_mem _ hb))
theorem z_su_c {X : z_X} {C : Nat → Int32} {R : List (Nat × Nat)} (hR : ∀ q ∈ R, v_ru C q) (r e part : Int32) : z_su X C R r e part = if (e = 0 ∨ e = 1) ∧ 0 ≤ r then (match R[r.toNatClampNeg]? with
    | none => 0
    | some q => z_sm X C (e == 1) part (z_its C q)) else 0 := by
  unfold z_su
  by_cases h1 : -1 ≤ part ∧ part ≤ 15
  · by_cases h2 : (e = 0 ∨ e = 1) ∧ 0 ≤ r
    · rw [if_pos h2, if_pos ⟨h2.2, h2.1, h1⟩]
      cases R[r.toNatClampNeg]? <;> rfl
    · rw [if_neg h2, if_neg (fun z => h2 ⟨z.2.1, z.1⟩)]
  · rw [if_neg (fun z => h1 z.2.2)]
    split
    · cases hq : R[r.toNatClampNeg]? with
      | none => rfl
      | some q =>
        show (0 : Int64) = z_sm X C (e == 1) part (z_its C q)
        unfold z_sm
        cases hf : (z_its C q).find? (fun p => C p == -11) with
        | none => rfl
        | some p =>
          show (0 : Int64) = if _ then _ else _
          have hv := (hR q (List.mem_of_getElem? hq)).2.2 p (List.mem_of_find?_eq_some hf)
          have hp : C p = -11 := by simpa using List.find?_some hf
          rcases hv with z | z | ⟨-, b, hb⟩
          · rw [hp] at z
            exact absurd z.1 (by decide)
          · rw [hp] at z
            exact absurd z.1 (by decide)
          · rw [z_tot_0 h1 (z_sum_tk hb), ite_self]
    · rfl
/-! items by number -/
theorem z_ik_ne (C : Nat → Int32) (p : Nat) : ¬ z_ik C p = -1 := by
  unfold z_ik
  split
  · decide
  · split <;> decide
theorem z_tb_c {C : Nat → Int32} {R : List (Nat × Nat)} (t k : Int32) : z_tb C R t k = if 0 ≤ t then (match R[t.toNatClampNeg]? with
    | none => -1
    | some q => (match z_ta (z_its C q) 0 k with | some p => z_ik C p | none => -1)) else -1 := by
  unfold z_tb
  split
  · cases hq : R[t.toNatClampNeg]? with
    | none => rfl
    | some q => exact z_ta_kt (z_ik C) k (z_its C q) 0
  · rfl
/-! the text that is kept: words parted by one blank -/
theorem z_stop_ng {T : Nat → Int32} {n : Nat} : ∀ (f i j : Nat), i ≤ j → j < z_stop T n f i → z_gap (T j) = false
  | 0, i, j, h1, h2 => by
    have h2 : j < i := h2
    omega
  | f + 1, i, j, h1, h2 => by
    have h2 : j < (if n ≤ i then i else if z_gap (T i) = true then i else z_stop T n f (i + 1)) := h2
    by_cases c : n ≤ i
    · rw [if_pos c] at h2
      omega
    · rw [if_neg c] at h2
      by_cases g : z_gap (T i) = true
      · rw [if_pos g] at h2
        omega
      · rw [if_neg g] at h2
        rcases Nat.lt_or_eq_of_le h1 with z | z
        · exact z_stop_ng f (i + 1) j z h2
        · subst z
          exact Bool.not_eq_true _ ▸ g
/-- a word: not empty, no gap in it -/
def z_wo (T : Nat → Int32) (n : Nat) (q : Nat × Nat) : Prop := q.1 < q.2 ∧ q.2 ≤ n ∧ ∀ j, q.1 ≤ j → j < q.2 → z_gap (T j) = false
theorem z_wd_wo {T : Nat → Int32} {n : Nat} : ∀ (f k : Nat), ∀ q ∈ z_wd T n f k, z_wo T n q
  | 0, k, q, h => by cases h
  | f + 1, k, q, h => by
    have h : q ∈ (if n ≤ k then [] else if k < z_stop T n (n - k) k then (k, z_stop T n (n - k) k) :: z_wd T n f (z_stop T n (n - k) k + 1) else z_wd T n f (z_stop T n (n - k) k + 1)) := h
    by_cases c : n ≤ k
    · rw [if_pos c] at h
      cases h
    · rw [if_neg c] at h
      by_cases g : k < z_stop T n (n - k) k
      · rw [if_pos g] at h
        rcases List.mem_cons.mp h with z | z
        · subst z
          exact ⟨g, (z_stop_bd T n (n - k) k (by omega)).2, fun j h1 h2 => z_stop_ng _ _ j h1 h2⟩
        · exact z_wd_wo f _ q z
      · rw [if_neg g] at h
        exact z_wd_wo f _ q h
theorem z_words_wo {T : Nat → Int32} {n : Nat} : ∀ q ∈ z_words T n, z_wo T n q := z_wd_wo _ _
theorem z_sl_eq {T N : Nat → Int32} {s e p : Nat} (h : ∀ i, s + i < e → N (p + i) = T (s + i)) : z_sl N p (p + (e - s)) = z_sl T s e := by
  apply List.ext_getElem?
  intro i
  rcases Nat.lt_or_ge i (e - s) with hi | hi
  · rw [z_sl_get (by omega), z_sl_get (by omega), h i (by omega)]
  · rw [List.getElem?_eq_none (by rw [z_sl_len]; omega), List.getElem?_eq_none (by rw [z_sl_len]; omega)]
theorem z_tx_1 {T : Nat → Int32} {q : Nat × Nat} : z_tx T [q] = z_sl T q.1 q.2 := by
  unfold z_tx
  simp
theorem z_tx_2 {T : Nat → Int32} {q r : Nat × Nat} {l : List (Nat × Nat)} : z_tx T (q :: r :: l) = z_sl T q.1 q.2 ++ 32 :: z_tx T (r :: l) := by
  rw [z_tx]
  simp
/-- read again, it gives the same words -/
theorem z_wq_tx {T N : Nat → Int32} {n : Nat} : ∀ (l : List (Nat × Nat)), (∀ q ∈ l, z_wo T n q) → ∀ (p : Nat), (∀ i x, (z_tx T l)[i]? = some x → N (p + i) = x) → (z_wq N (p + (z_tx T l).length) p).map (fun q => z_sl N q.1 q.2) = l.map (fun q => z_sl T q.1 q.2)
  | [], _, p, _ => by
    rw [z_wq_e (by exact Nat.le_refl _)]
    rfl
  | [q], hw, p, hN => by
    obtain ⟨w1, w2, w3⟩ := hw q List.mem_cons_self
    rw [z_tx_1] at hN ⊢
    have hN' : ∀ i, q.1 + i < q.2 → N (p + i) = T (q.1 + i) := fun i hi => hN i _ (z_sl_get (by omega))
    rw [z_sl_len]
    have e := z_wq_w (T := N) (n := p + (q.2 - q.1)) (s := p) (i := p + (q.2 - q.1)) (by omega) (Nat.le_refl _) (fun j h1 h2 => by
      have := hN' (j - p) (by omega)
      rw [show p + (j - p) = j by omega] at this
      rw [this]
      exact w3 _ (by omega) (by omega)) (Or.inl rfl)
    rw [e, z_wq_e (by omega), List.map_cons, List.map_nil, z_sl_eq hN']
    rfl
  | q :: r :: l, hw, p, hN => by
    obtain ⟨w1, w2, w3⟩ := hw q List.mem_cons_self
    rw [z_tx_2] at hN ⊢
    have hN' : ∀ i, q.1 + i < q.2 → N (p + i) = T (q.1 + i) := fun i hi => hN i _ (by
      rw [List.getElem?_append_left (by rw [z_sl_len]; omega)]
      exact z_sl_get (by omega))
    have hg : N (p + (q.2 - q.1)) = 32 := hN _ _ (by
      rw [List.getElem?_append_right (by rw [z_sl_len]; omega), z_sl_len, Nat.sub_self]
      rfl)
    have hr : ∀ i x, (z_tx T (r :: l))[i]? = some x → N (p + (q.2 - q.1) + 1 + i) = x := fun i x hx => by
      rw [show p + (q.2 - q.1) + 1 + i = p + ((q.2 - q.1) + 1 + i) by omega]
      refine hN _ _ ?_
      rw [List.getElem?_append_right (by rw [z_sl_len]; omega), z_sl_len, show q.2 - q.1 + 1 + i - (q.2 - q.1) = i + 1 by omega]
      exact hx
    have ih := z_wq_tx (r :: l) (fun x hx => hw x (List.mem_cons_of_mem _ hx)) (p + (q.2 - q.1) + 1) hr
    rw [List.length_append, z_sl_len, List.length_cons]
    rw [show p + (q.2 - q.1 + ((z_tx T (r :: l)).length + 1)) = p + (q.2 - q.1) + 1 + (z_tx T (r :: l)).length by omega]
    have e := z_wq_w (T := N) (n := p + (q.2 - q.1) + 1 + (z_tx T (r :: l)).length) (s := p) (i := p + (q.2 - q.1)) (by omega) (by omega) (fun j h1 h2 => by
      have := hN' (j - p) (by omega)
      rw [show p + (j - p) = j by omega] at this
      rw [this]
      exact w3 _ (by omega) (by omega)) (Or.inr (by rw [hg]; decide))
    rw [e, List.map_cons, List.map_cons, ih, z_sl_eq hN']
theorem m_C_eq {T N : Nat → Int32} {l l' : List (Nat × Nat)} (h : l'.map (fun q => z_sl N q.1 q.2) = l.map (fun q => z_sl T q.1 q.2)) : l'.length = l.length ∧ m_C N l' = m_C T l := by
  have hl : l'.length = l.length := by
    have := congrArg List.length h
    rwa [List.length_map, List.length_map] at this
  refine ⟨hl, funext fun k => ?_⟩
  have hk := congrArg (fun L => L[k]?) h
  rw [List.getElem?_map, List.getElem?_map] at hk
  unfold m_C
  cases h1 : l'[k]? with
  | none =>
    rw [h1] at hk
    cases h2 : l[k]? with
    | none => rfl
    | some q => rw [h2] at hk; cases hk
  | some q' =>
    rw [h1] at hk
    cases h2 : l[k]? with
    | none => rw [h2] at hk; cases hk
    | some q =>
      rw [h2] at hk
      have := Option.some.inj hk
      dsimp only at this ⊢
      rw [this]
theorem z_words_tx {T N : Nat → Int32} {n : Nat} (hN : ∀ i x, (z_tx T (z_words T n))[i]? = some x → N i = x) : (z_words N (z_tx T (z_words T n)).length).length = (z_words T n).length ∧ m_C N (z_words N (z_tx T (z_words T n)).length) = m_C T (z_words T n) := by
  refine m_C_eq ?_
  have := z_wq_tx (N := N) (z_words T n) z_words_wo 0 (fun i x hx => by rw [Nat.zero_add]; exact hN i x hx)
  rw [Nat.zero_add] at this
  exact this
/-- one word more -/
theorem z_tx_snoc {T : Nat → Int32} {q : Nat × Nat} : ∀ (l : List (Nat × Nat)), z_tx T (l ++ [q]) = z_tx T l ++ ((if l = [] then [] else [32]) ++ z_sl T q.1 q.2)
  | [] => by
    rw [List.nil_append, z_tx_1, if_pos rfl]
    rfl
  | [r] => by
    rw [List.singleton_append, z_tx_2, z_tx_1, z_tx_1, if_neg (by simp)]
    rfl
  | r :: s :: l => by
    have ih := z_tx_snoc (T := T) (q := q) (s :: l)
    rw [List.cons_append, List.cons_append, z_tx_2, ← List.cons_append, ih, z_tx_2, if_neg (by simp), if_neg (by simp), List.append_assoc]
    rfl
theorem z_tx_nil {T : Nat → Int32} {n : Nat} {l : List (Nat × Nat)} (hw : ∀ q ∈ l, z_wo T n q) : z_tx T l = [] ↔ l = [] := by
  constructor
  · intro h
    cases l with
    | nil => rfl
    | cons q l =>
      have := (hw q List.mem_cons_self).1
      rw [z_tx] at h
      have h2 := congrArg List.length h
      rw [List.length_append, z_sl_len, List.length_nil] at h2
      omega
  · rintro rfl
    rfl
/-! keeping a text, byte by byte -/
def k_K (T : Nat → Int32) (l0 : List (Nat × Nat)) (s i : Nat) : List Int32 := z_tx T l0 ++ (if s < i then (if l0 = [] then [] else [32]) ++ z_sl T s i else [])
/-- before place i: the kept K; p: a gap was passed behind a word -/
def k_s (T : Nat → Int32) (n i : Nat) (K : List Int32) (p : Bool) : Prop := ∃ l0 s, s ≤ i ∧ i ≤ n ∧ (∀ j, s ≤ j → j < i → z_gap (T j) = false) ∧ z_words T n = l0 ++ z_wq T n s ∧ K = k_K T l0 s i ∧ (p = true ↔ s = i ∧ ¬ l0 = []) ∧ K.length + (if p = true then 1 else 0) ≤ i
theorem k_s_0 (T : Nat → Int32) (n : Nat) : k_s T n 0 [] false := ⟨[], 0, Nat.le_refl _, Nat.zero_le _, fun j h1 h2 => by omega, rfl, rfl, ⟨fun z => by simp at z, fun z => absurd rfl z.2⟩, Nat.le_refl _⟩
theorem k_s.g {T : Nat → Int32} {n i : Nat} {K : List Int32} {p : Bool} (h : k_s T n i K p) (hi : i < n) (hg : z_gap (T i) = true) : k_s T n (i + 1) K (decide (0 < K.length)) := by
  obtain ⟨l0, s, h1, h2, h3, h4, h5, h6, h7⟩ := h
  have hlen : K.length + (if decide (0 < K.length) = true then 1 else 0) ≤ i + 1 := by
    have : K.length ≤ i := by omega
    split <;> omega
  rcases Nat.lt_or_eq_of_le h1 with c | c
  · rw [z_wq_w c (by omega) h3 (Or.inr hg)] at h4
    have hw : z_words T n = (l0 ++ [(s, i)]) ++ z_wq T n (i + 1) := by
      rw [h4, List.append_assoc]
      rfl
    have hK : K = k_K T (l0 ++ [(s, i)]) (i + 1) (i + 1) := by
      rw [h5]
      unfold k_K
      rw [if_pos c, if_neg (Nat.lt_irrefl _), List.append_nil, z_tx_snoc]
    refine ⟨l0 ++ [(s, i)], i + 1, Nat.le_refl _, hi, fun j a b => by omega, hw, hK, ?_, hlen⟩
    have hne : 0 < K.length := by
      rw [h5]
      unfold k_K
      rw [if_pos c, List.length_append, List.length_append, z_sl_len]
      omega
    exact ⟨fun _ => ⟨rfl, by simp⟩, fun _ => decide_eq_true hne⟩
  · subst c
    rw [z_wq_g hi hg] at h4
    have hK0 : K = z_tx T l0 := by
      rw [h5]
      unfold k_K
      rw [if_neg (Nat.lt_irrefl _), List.append_nil]
    have hK : K = k_K T l0 (s + 1) (s + 1) := by
      rw [hK0]
      unfold k_K
      rw [if_neg (Nat.lt_irrefl _), List.append_nil]
    refine ⟨l0, s + 1, Nat.le_refl _, hi, fun j a b => by omega, h4, hK, ?_, hlen⟩
    have hwo : ∀ q ∈ l0, z_wo T n q := fun q hq => z_words_wo q (by rw [h4]; exact List.mem_append_left _ hq)
    have hn := z_tx_nil hwo
    rw [← hK0] at hn
    constructor
    · intro z
      have z := of_decide_eq_true z
      refine ⟨rfl, fun y => ?_⟩
      rw [hn.mpr y] at z
      exact absurd z (Nat.lt_irrefl 0)
    · intro z
      refine decide_eq_true (Nat.pos_of_ne_zero fun y => z.2 (hn.mp (List.length_eq_zero_iff.mp y)))
theorem k_s.b {T : Nat → Int32} {n i : Nat} {K : List Int32} {p : Bool} (h : k_s T n i K p) (hi : i < n) (hg : z_gap (T i) = false) : k_s T n (i + 1) (K ++ ((if p = true then [32] else []) ++ [T i])) false := by
  obtain ⟨l0, s, h1, h2, h3, h4, h5, h6, h7⟩ := h
  have esl : z_sl T s (i + 1) = z_sl T s i ++ [T i] := by
    unfold z_sl
    rw [show i + 1 - s = (i - s) + 1 by omega, List.range'_concat, List.map_append]
    rw [show s + 1 * (i - s) = i by omega]
    rfl
  refine ⟨l0, s, by omega, hi, fun j a b => ?_, h4, ?_, ?_, ?_⟩
  · rcases Nat.lt_or_eq_of_le (Nat.le_of_lt_succ b) with z | z
    · exact h3 j a z
    · rw [z]
      exact hg
  · unfold k_K
    rw [if_pos (show s < i + 1 by omega), esl]
    rcases Nat.lt_or_eq_of_le h1 with c | c
    · have hp : ¬ p = true := fun z => by have := (h6.mp z).1; omega
      rw [h5, if_neg hp]
      unfold k_K
      rw [if_pos c, List.nil_append, List.append_assoc, List.append_assoc]
    · subst c
      rw [h5]
      unfold k_K
      rw [if_neg (Nat.lt_irrefl _), List.append_nil, z_sl_nil T (Nat.le_refl _), List.nil_append]
      by_cases hl : l0 = []
      · have hp : ¬ p = true := fun z => (h6.mp z).2 hl
        rw [if_neg hp, if_pos hl]
      · have hp : p = true := h6.mpr ⟨rfl, hl⟩
        rw [if_pos hp, if_neg hl]
  · exact ⟨fun z => by simp at z, fun z => by omega⟩
  · rw [List.length_append, List.length_append]
    by_cases hp : p = true
    · rw [if_pos hp] at h7 ⊢
      simp
      omega
    · rw [if_neg hp] at h7 ⊢
      simp
      omega
theorem k_s.e {T : Nat → Int32} {n : Nat} {K : List Int32} {p : Bool} (h : k_s T n n K p) : K = z_tx T (z_words T n) ∧ K.length ≤ n := by
  obtain ⟨l0, s, h1, h2, h3, h4, h5, h6, h7⟩ := h
  refine ⟨?_, by omega⟩
  rcases Nat.lt_or_eq_of_le h1 with c | c
  · rw [z_wq_w c (Nat.le_refl _) h3 (Or.inl rfl), z_wq_e (by omega)] at h4
    rw [h5, h4, z_tx_snoc]
    unfold k_K
    rw [if_pos c]
  · subst c
    rw [z_wq_e (Nat.le_refl _), List.append_nil] at h4
    rw [h5, h4]
    unfold k_K
    rw [if_neg (Nat.lt_irrefl _), List.append_nil]
theorem k_s.r {T : Nat → Int32} {n i : Nat} {K : List Int32} {p : Bool} (h : k_s T n i K p) : K.length + (if p = true then 1 else 0) ≤ i := by
  obtain ⟨l0, s, h1, h2, h3, h4, h5, h6, h7⟩ := h
  exact h7
