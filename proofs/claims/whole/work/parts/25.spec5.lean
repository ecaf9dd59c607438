/-! WHAT A TEXT THAT FITS LOOKS LIKE -/
def z_cl (x : Int32) : Prop := ¬ x = -2 ∧ ¬ x = -3 ∧ ¬ x = -5 ∧ ¬ x = -6
theorem z_cl_n {C : Nat → Int32} {lo hi : Int32} {a : Nat} (h : q_n C lo hi a) : z_cl (C a) := by
  have h1 := h.1
  refine ⟨?_, ?_, ?_, ?_⟩ <;> intro z <;> rw [z] at h1 <;> exact absurd h1 (by decide)
theorem z_cl_c {x c : Int32} (h : x = c) (hc : ¬ c = -2 ∧ ¬ c = -3 ∧ ¬ c = -5 ∧ ¬ c = -6) : z_cl x := by
  subst h
  exact hc
/-- all words of a .. b - 1 are such -/
def z_all (P : Int32 → Prop) (C : Nat → Int32) (a b : Nat) : Prop := ∀ k, a ≤ k → k < b → P (C k)
theorem z_all_0 {P : Int32 → Prop} {C : Nat → Int32} {a : Nat} : z_all P C a a := fun k h1 h2 => by omega
theorem z_all_s {P : Int32 → Prop} {C : Nat → Int32} {a b : Nat} (h : P (C a)) (k : z_all P C (a + 1) b) : z_all P C a b := by
  intro j h1 h2
  by_cases hj : j = a
  · rw [hj]; exact h
  · exact k j (by omega) h2
theorem z_all_t {P : Int32 → Prop} {C : Nat → Int32} {a b c : Nat} (h : z_all P C a b) (k : z_all P C b c) : z_all P C a c := by
  intro j h1 h2
  by_cases hj : j < b
  · exact h j h1 hj
  · exact k j (by omega) h2
theorem q_by_in {C : Nat → Int32} {a b : Nat} (h : q_by C a = (true, b)) : z_all z_cl C a b := by
  unfold q_by at h
  split at h
  · rename_i h1
    split at h
    · rename_i h2
      cases h
      exact z_all_s (z_cl_c h1 (by decide)) (z_all_s (z_cl_n h2) z_all_0)
    · cases h
  · cases h
    exact z_all_0
theorem q_cut_in {C : Nat → Int32} {a b : Nat} (h : q_cut C a = (true, b)) : z_all z_cl C a b := by
  unfold q_cut at h
  split at h
  · rename_i h1
    split at h
    · rename_i h2
      exact z_all_s (z_cl_c h1 (by decide)) (z_all_s (z_cl_n h2) (q_by_in h))
    · cases h
  · exact q_by_in h
theorem q_tm_in {C : Nat → Int32} {a b : Nat} (h : q_tm C a = (true, b)) : z_all z_cl C (a + 1) b := by
  unfold q_tm at h
  split at h
  · rename_i h1
    split at h
    · rename_i h2
      split at h
      · rename_i h3
        exact z_all_s (z_cl_n h1) (z_all_s (z_cl_c h2 (by decide)) (z_all_s (z_cl_n h3) (q_cut_in h)))
      · cases h
    · cases h
  · cases h
theorem q_term_in {C : Nat → Int32} {a b : Nat} (h : q_term C a = (true, b)) : z_all z_cl C a b := by
  unfold q_term at h
  split at h
  · rename_i h1
    exact z_all_s (z_cl_c h1 (by decide)) (q_tm_in h)
  · split at h
    · rename_i h1
      exact z_all_s (z_cl_c h1 (by decide)) (q_tm_in h)
    · cases h
theorem q_cmp_in {C : Nat → Int32} {a b : Nat} (h : q_cmp C a = (true, b)) : z_all z_cl C a b := by
  unfold q_cmp at h
  split at h
  · rename_i h1
    split at h
    · rename_i h2
      cases h
      exact z_all_s (z_cl_c h1 (by decide)) (z_all_s (z_cl_n h2) z_all_0)
    · cases h
  · split at h
    · rename_i h1
      split at h
      · rename_i h2
        cases h
        exact z_all_s (z_cl_c h1 (by decide)) (z_all_s (z_cl_n h2) z_all_0)
      · cases h
    · cases h
theorem q_sum_in {C : Nat → Int32} : ∀ {f a b : Nat}, q_sum C f a = (true, b) → z_all z_cl C a b
  | 0, a, b, h => by cases h
  | f + 1, a, b, h => by
    rw [q_sum_s] at h
    cases hq : q_term C a with
    | mk g c =>
      rw [hq] at h
      cases g with
      | false => cases h
      | true =>
        dsimp only at h
        have h1 := q_term_in hq
        unfold q_more at h
        split at h
        · exact z_all_t h1 (q_sum_in h)
        · split at h
          · exact z_all_t h1 (q_sum_in h)
          · exact z_all_t h1 (q_cmp_in h)
theorem q_test_in {C : Nat → Int32} {a b : Nat} (h : q_test C a = (true, b)) : z_all z_cl C a b := by
  unfold q_test at h
  split at h
  · rename_i h1
    split at h
    · rename_i h2
      split at h
      · rename_i h3
        cases h
        exact z_all_s (z_cl_n h1) (z_all_s (z_cl_c h2 (by decide)) (z_all_s (z_cl_n h3) z_all_0))
      · cases h
    · split at h
      · rename_i h2
        split at h
        · rename_i h3
          cases h
          exact z_all_s (z_cl_n h1) (z_all_s (z_cl_c h2 (by decide)) (z_all_s (z_cl_n h3) z_all_0))
        · cases h
      · cases h
  · cases h
theorem q_item_in {C : Nat → Int32} {F a b : Nat} (h : q_item C F a = (true, b)) : z_all z_cl C a b := by
  unfold q_item at h
  split at h
  · rename_i h1
    exact z_all_s (z_cl_c h1 (by decide)) (q_test_in h)
  · split at h
    · rename_i h1
      split at h
      · rename_i h2
        cases h
        exact z_all_s (z_cl_c h1 (by decide)) (z_all_s (z_cl_n h2) z_all_0)
      · cases h
    · split at h
      · rename_i h1
        exact z_all_s (z_cl_c h1 (by decide)) (q_sum_in h)
      · cases h
def z_cl2 (x : Int32) : Prop := ¬ x = -2 ∧ ¬ x = -3
theorem q_items_in {C : Nat → Int32} {F : Nat} : ∀ {f a b : Nat}, q_items C F f a = (true, b) → z_all z_cl2 C a b
  | 0, a, b, h => by cases h
  | f + 1, a, b, h => by
    rw [q_items_s] at h
    cases hq : q_item C F a with
    | mk g c =>
      rw [hq] at h
      cases g with
      | false => cases h
      | true =>
        dsimp only at h
        have h1 : z_all z_cl2 C a c := fun k y1 y2 => ⟨(q_item_in hq k y1 y2).1, (q_item_in hq k y1 y2).2.1⟩
        unfold q_aft at h
        split at h
        · rename_i h2
          exact z_all_t h1 (z_all_s (by rw [h2]; exact ⟨by decide, by decide⟩) (q_items_in h))
        · split at h
          · rename_i h2
            cases h
            exact z_all_t h1 (z_all_s (by rw [h2]; exact ⟨by decide, by decide⟩) z_all_0)
          · cases h
theorem q_rule_in {C : Nat → Int32} {F a b : Nat} (h : q_rule C F a = (true, b)) : C a = -3 ∧ q_n C 0 19 (a + 1) ∧ C (a + 2) = -4 ∧ q_items C F F (a + 3) = (true, b) ∧ z_all z_cl2 C (a + 1) b := by
  unfold q_rule at h
  split at h
  · rename_i h1
    split at h
    · rename_i h2
      split at h
      · rename_i h3
        exact ⟨h1, h2, h3, h, z_all_s ⟨(z_cl_n h2).1, (z_cl_n h2).2.1⟩ (z_all_s (by rw [h3]; exact ⟨by decide, by decide⟩) (q_items_in h))⟩
      · cases h
    · cases h
  · cases h
/-- rules (place, edition) and days, by the words 0 .. k - 1 -/
def z_sc (C : Nat → Int32) : Nat → List (Nat × Nat) × List Int32
  | 0 => ([], [])
  | k + 1 => (if C k = -3 then (z_sc C k).1 ++ [(k, (z_sc C k).2.length - 1)] else (z_sc C k).1, if C k = -2 then (z_sc C k).2 ++ [C (k + 1)] else (z_sc C k).2)
theorem z_sc_skip {C : Nat → Int32} {a : Nat} : ∀ {b : Nat}, a ≤ b → z_all z_cl2 C a b → z_sc C b = z_sc C a := by
  intro b
  induction b with
  | zero => intro h _; rw [show a = 0 by omega]
  | succ b ih =>
    intro h k
    by_cases hb : a = b + 1
    · rw [hb]
    · have h1 := k b (by omega) (by omega)
      show (if C b = -3 then _ else _, if C b = -2 then _ else _) = _
      rw [if_neg h1.2, if_neg h1.1, ih (by omega) (fun j y1 y2 => k j y1 (by omega))]
/-- a text that fits, from a on: every edition's day stands behind its word; rules fit; there are few of them -/
def z_fit (C : Nat → Int32) (F n a : Nat) : Prop := ∀ k, a ≤ k → k < n → (C k = -2 → q_n C 0 999999999 (k + 1) ∧ k + 1 < n) ∧ (C k = -3 → ∃ b, q_rule C F k = (true, b) ∧ b ≤ n)
theorem q_all_fit {C : Nat → Int32} {F n : Nat} (hN : q_N C n) : ∀ (f a ed ru : Nat) (L : Int32) (b : Nat), a ≤ n → ru ≤ 60 → q_all C F n f a ed ru L = (true, b) → b = n ∧ z_fit C F n a ∧ (z_sc C n).1.length + ru ≤ (z_sc C a).1.length + 60 ∧ (ed = 0 → a < n → C a = -2)
  | 0, a, ed, ru, L, b, _, _, h => by cases h
  | f + 1, a, ed, ru, L, b, ha, hru, h => by
    unfold q_all at h
    split at h
    · rename_i h1
      cases h
      have : a = n := by omega
      subst this
      exact ⟨rfl, fun k y1 y2 => by omega, by omega, fun _ y => by omega⟩
    · rename_i h1
      split at h
      · rename_i h2
        split at h
        · rename_i h3
          have h4 := hN.n h3
          obtain ⟨r1, r2, r3, r4⟩ := q_all_fit hN f (a + 2) (ed + 1) ru _ b (by omega) hru h
          refine ⟨r1, fun k y1 y2 => ?_, ?_, fun _ _ => h2⟩
          · by_cases hk : k = a
            · subst hk
              exact ⟨fun _ => ⟨⟨h3.1, h3.1, h3.2.2⟩, by omega⟩, fun z => by rw [h2] at z; exact absurd z (by decide)⟩
            · by_cases hk1 : k = a + 1
              · subst hk1
                exact ⟨fun z => absurd z (z_cl_n h3).1, fun z => absurd z (z_cl_n h3).2.1⟩
              · exact r2 k (by omega) y2
          · have e1 : z_sc C (a + 2) = ((z_sc C a).1, (z_sc C a).2 ++ [C (a + 1)]) := by
              have e2 : z_sc C (a + 1) = ((z_sc C a).1, (z_sc C a).2 ++ [C (a + 1)]) := by
                show (if C a = -3 then _ else _, if C a = -2 then _ else _) = _
                rw [if_neg (by rw [h2]; decide), if_pos h2]
              show (if C (a + 1) = -3 then _ else (z_sc C (a + 1)).1, if C (a + 1) = -2 then _ else (z_sc C (a + 1)).2) = _
              rw [if_neg (z_cl_n h3).2.1, if_neg (z_cl_n h3).1, e2]
            rw [e1] at r3
            exact r3
        · cases h
      · rename_i h2
        split at h
        · cases h
        · rename_i h3
          split at h
          · cases h
          · rename_i h4
            cases hq : q_rule C F a with
            | mk g c =>
              rw [hq] at h
              cases g with
              | false => cases h
              | true =>
                dsimp only at h
                have h5 := q_rule_st (F := F) hN ha
                rw [hq] at h5
                obtain ⟨h6, h7, h8⟩ := h5
                have h8 := h8 rfl
                dsimp only at h6 h7 h8
                obtain ⟨g1, g2, g3, g4, g5⟩ := q_rule_in hq
                obtain ⟨r1, r2, r3, r4⟩ := q_all_fit hN f c ed (ru + 1) L b h7 (by omega) h
                refine ⟨r1, fun k y1 y2 => ?_, ?_, fun z => absurd z h3⟩
                · by_cases hk : k = a
                  · subst hk
                    exact ⟨fun z => absurd z h2, fun _ => ⟨c, hq, h7⟩⟩
                  · by_cases hk1 : k < c
                    · have := g5 k (by omega) hk1
                      exact ⟨fun z => absurd z this.1, fun z => absurd z this.2⟩
                    · exact r2 k (by omega) y2
                · have e1 : (z_sc C c).1.length = (z_sc C a).1.length + 1 := by
                    rw [z_sc_skip (by omega) g5]
                    show (if C a = -3 then _ else _ : List (Nat × Nat)).length = _
                    rw [if_pos g1, List.length_append]
                    rfl
                  omega
