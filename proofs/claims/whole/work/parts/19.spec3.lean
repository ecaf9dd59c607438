/-! THE TEXT'S FORM, by places: C k is word k's code (-1 behind the last). Each answers whether it fits, and the place behind (or of the first word that cannot stand) -/
abbrev q_n (C : Nat → Int32) (lo hi : Int32) (a : Nat) : Prop := 0 ≤ C a ∧ lo ≤ C a ∧ C a ≤ hi
def q_by (C : Nat → Int32) (a : Nat) : Bool × Nat := if C a = -18 then if q_n C 0 999 (a + 1) then (true, a + 2) else (false, a + 1) else (true, a)
def q_cut (C : Nat → Int32) (a : Nat) : Bool × Nat := if C a = -17 then if q_n C 0 999999999 (a + 1) then q_by C (a + 2) else (false, a + 1) else q_by C a
def q_tm (C : Nat → Int32) (a : Nat) : Bool × Nat := if q_n C 0 1000 (a + 1) then if C (a + 2) = -16 then if q_n C 0 15 (a + 3) then q_cut C (a + 4) else (false, a + 3) else (false, a + 2) else (false, a + 1)
def q_term (C : Nat → Int32) (a : Nat) : Bool × Nat := if C a = -14 then q_tm C a else if C a = -15 then q_tm C a else (false, a)
def q_cmp (C : Nat → Int32) (b : Nat) : Bool × Nat := if C b = -12 then if q_n C 0 999999999 (b + 1) then (true, b + 2) else (false, b + 1) else if C b = -13 then if q_n C 0 999999999 (b + 1) then (true, b + 2) else (false, b + 1) else (false, b)
def q_sum (C : Nat → Int32) : Nat → Nat → Bool × Nat
  | 0, a => (false, a)
  | f + 1, a => match q_term C a with
    | (false, b) => (false, b)
    | (true, b) => if C b = -14 then q_sum C f b else if C b = -15 then q_sum C f b else q_cmp C b
def q_test (C : Nat → Int32) (a : Nat) : Bool × Nat := if q_n C 0 7 a then if C (a + 1) = -8 then if q_n C 0 9 (a + 2) then (true, a + 3) else (false, a + 2) else if C (a + 1) = -9 then if q_n C 0 9 (a + 2) then (true, a + 3) else (false, a + 2) else (false, a + 1) else (false, a)
def q_item (C : Nat → Int32) (F a : Nat) : Bool × Nat := if C a = -7 then q_test C (a + 1) else if C a = -10 then if q_n C 0 19 (a + 1) then (true, a + 2) else (false, a + 1) else if C a = -11 then q_sum C F (a + 1) else (false, a)
def q_items (C : Nat → Int32) (F : Nat) : Nat → Nat → Bool × Nat
  | 0, a => (false, a)
  | f + 1, a => match q_item C F a with
    | (false, b) => (false, b)
    | (true, b) => if C b = -5 then q_items C F f (b + 1) else if C b = -6 then (true, b + 1) else (false, b)
def q_rule (C : Nat → Int32) (F a : Nat) : Bool × Nat := if C a = -3 then if q_n C 0 19 (a + 1) then if C (a + 2) = -4 then q_items C F F (a + 3) else (false, a + 2) else (false, a + 1) else (false, a)
/-- editions and rules from place a on: ed editions and ru rules came before, the next day is least at least; n words in all -/
def q_all (C : Nat → Int32) (F n : Nat) : Nat → Nat → Nat → Nat → Int32 → Bool × Nat
  | 0, a, _, _, _ => (false, a)
  | f + 1, a, ed, ru, least => if n ≤ a then (true, a) else if C a = -2 then if q_n C least 999999999 (a + 1) then q_all C F n f (a + 2) (ed + 1) ru (C (a + 1) + 1) else (false, a + 1) else if ed = 0 then (false, a) else if 60 ≤ ru then (false, a) else match q_rule C F a with
    | (false, b) => (false, b)
    | (true, b) => q_all C F n f b ed (ru + 1) least
/-! how far they go -/
/-- behind n there is no word -/
def q_N (C : Nat → Int32) (n : Nat) : Prop := ∀ k, n ≤ k → C k = -1
theorem q_N.lt {C : Nat → Int32} {n a : Nat} (h : q_N C n) (hc : ¬ C a = -1) : a < n := Nat.lt_of_not_le fun z => hc (h a z)
theorem q_n.ne {C : Nat → Int32} {lo hi : Int32} {a : Nat} (h : q_n C lo hi a) : ¬ C a = -1 := z_neg1 h.1
theorem q_N.c {C : Nat → Int32} {n a : Nat} {c : Int32} (h : q_N C n) (hc : C a = c) (hn : ¬ c = -1) : a < n := h.lt (by rw [hc]; exact hn)
theorem q_N.n {C : Nat → Int32} {n a : Nat} {lo hi : Int32} (h : q_N C n) (hc : q_n C lo hi a) : a < n := h.lt hc.ne
/-- a step: from a on, at most to n, further if it fits -/
def q_st (n a : Nat) (r : Bool × Nat) : Prop := a ≤ r.2 ∧ r.2 ≤ n ∧ (r.1 = true → a < r.2)
theorem q_by_st {C : Nat → Int32} {n a : Nat} (hN : q_N C n) (ha : a ≤ n) : a ≤ (q_by C a).2 ∧ (q_by C a).2 ≤ n := by
  unfold q_by
  split
  · rename_i h1
    have := hN.c h1 (by decide)
    split
    · rename_i h2
      have := hN.n h2
      exact ⟨by omega, by omega⟩
    · exact ⟨by omega, by omega⟩
  · exact ⟨Nat.le_refl _, ha⟩
theorem q_cut_st {C : Nat → Int32} {n a : Nat} (hN : q_N C n) (ha : a ≤ n) : a ≤ (q_cut C a).2 ∧ (q_cut C a).2 ≤ n := by
  unfold q_cut
  split
  · rename_i h1
    have := hN.c h1 (by decide)
    split
    · rename_i h2
      have h3 := hN.n h2
      have h4 := q_by_st hN (a := a + 2) (by omega)
      exact ⟨by omega, by omega⟩
    · exact ⟨by omega, by omega⟩
  · exact q_by_st hN ha
theorem q_tm_st {C : Nat → Int32} {n a : Nat} (hN : q_N C n) (ha : a < n) : q_st n a (q_tm C a) := by
  unfold q_tm q_st
  split
  · rename_i h1
    have := hN.n h1
    split
    · rename_i h2
      have := hN.c h2 (by decide)
      split
      · rename_i h3
        have := hN.n h3
        have h4 := q_cut_st hN (a := a + 4) (by omega)
        exact ⟨by omega, by omega, fun _ => by omega⟩
      · exact ⟨by omega, by omega, fun z => by cases z⟩
    · exact ⟨by omega, by omega, fun z => by cases z⟩
  · exact ⟨by omega, by omega, fun z => by cases z⟩
theorem q_term_st {C : Nat → Int32} {n a : Nat} (hN : q_N C n) (ha : a ≤ n) : q_st n a (q_term C a) := by
  unfold q_term
  split
  · rename_i h1
    exact q_tm_st hN (hN.c h1 (by decide))
  · split
    · rename_i h1
      exact q_tm_st hN (hN.c h1 (by decide))
    · exact ⟨Nat.le_refl _, ha, fun z => by cases z⟩
theorem q_cmp_st {C : Nat → Int32} {n a : Nat} (hN : q_N C n) (ha : a ≤ n) : q_st n a (q_cmp C a) := by
  unfold q_cmp q_st
  split
  · rename_i h1
    have := hN.c h1 (by decide)
    split
    · rename_i h2
      have := hN.n h2
      exact ⟨by omega, by omega, fun _ => by omega⟩
    · exact ⟨by omega, by omega, fun z => by cases z⟩
  · split
    · rename_i h1
      have := hN.c h1 (by decide)
      split
      · rename_i h2
        have := hN.n h2
        exact ⟨by omega, by omega, fun _ => by omega⟩
      · exact ⟨by omega, by omega, fun z => by cases z⟩
    · exact ⟨Nat.le_refl _, ha, fun z => by cases z⟩
theorem q_sum_st {C : Nat → Int32} {n : Nat} (hN : q_N C n) : ∀ (f a : Nat), a ≤ n → q_st n a (q_sum C f a)
  | 0, a, ha => ⟨Nat.le_refl _, ha, fun z => by cases z⟩
  | f + 1, a, ha => by
    have h1 := q_term_st hN ha
    unfold q_sum
    cases hq : q_term C a with
    | mk g b =>
      rw [hq] at h1
      obtain ⟨h2, h3, h4⟩ := h1
      cases g with
      | false => exact ⟨h2, h3, fun z => by cases z⟩
      | true =>
        have h4 := h4 rfl
        dsimp only at h2 h3 h4 ⊢
        have h5 := q_sum_st hN f b h3
        have h6 := q_cmp_st hN h3
        split
        · exact ⟨by have := h5.1; omega, h5.2.1, fun z => by have := h5.2.2 z; omega⟩
        · split
          · exact ⟨by have := h5.1; omega, h5.2.1, fun z => by have := h5.2.2 z; omega⟩
          · exact ⟨by have := h6.1; omega, h6.2.1, fun z => by have := h6.2.2 z; omega⟩
theorem q_test_st {C : Nat → Int32} {n a : Nat} (hN : q_N C n) (ha : a ≤ n) : q_st n a (q_test C a) := by
  unfold q_test q_st
  split
  · rename_i h1
    have := hN.n h1
    split
    · rename_i h2
      have := hN.c h2 (by decide)
      split
      · rename_i h3
        have := hN.n h3
        exact ⟨by omega, by omega, fun _ => by omega⟩
      · exact ⟨by omega, by omega, fun z => by cases z⟩
    · split
      · rename_i h2
        have := hN.c h2 (by decide)
        split
        · rename_i h3
          have := hN.n h3
          exact ⟨by omega, by omega, fun _ => by omega⟩
        · exact ⟨by omega, by omega, fun z => by cases z⟩
      · exact ⟨by omega, by omega, fun z => by cases z⟩
  · exact ⟨Nat.le_refl _, ha, fun z => by cases z⟩
theorem q_item_st {C : Nat → Int32} {n F a : Nat} (hN : q_N C n) (ha : a ≤ n) : q_st n a (q_item C F a) := by
  unfold q_item
  split
  · rename_i h1
    have := hN.c h1 (by decide)
    have h2 := q_test_st hN (a := a + 1) (by omega)
    exact ⟨by have := h2.1; omega, h2.2.1, fun z => by have := h2.2.2 z; omega⟩
  · split
    · rename_i h1
      have := hN.c h1 (by decide)
      unfold q_st
      split
      · rename_i h2
        have := hN.n h2
        exact ⟨by omega, by omega, fun _ => by omega⟩
      · exact ⟨by omega, by omega, fun z => by cases z⟩
    · split
      · rename_i h1
        have := hN.c h1 (by decide)
        have h2 := q_sum_st hN F (a + 1) (by omega)
        exact ⟨by have := h2.1; omega, h2.2.1, fun z => by have := h2.2.2 z; omega⟩
      · exact ⟨Nat.le_refl _, ha, fun z => by cases z⟩
theorem q_items_st {C : Nat → Int32} {n F : Nat} (hN : q_N C n) : ∀ (f a : Nat), a ≤ n → q_st n a (q_items C F f a)
  | 0, a, ha => ⟨Nat.le_refl _, ha, fun z => by cases z⟩
  | f + 1, a, ha => by
    have h1 := q_item_st (F := F) hN ha
    unfold q_items
    cases hq : q_item C F a with
    | mk g b =>
      rw [hq] at h1
      obtain ⟨h2, h3, h4⟩ := h1
      cases g with
      | false => exact ⟨h2, h3, fun z => by cases z⟩
      | true =>
        have h4 := h4 rfl
        dsimp only at h2 h3 h4 ⊢
        split
        · rename_i h5
          have := hN.c h5 (by decide)
          have h6 := q_items_st (F := F) hN f (b + 1) (by omega)
          exact ⟨by have := h6.1; omega, h6.2.1, fun z => by have := h6.2.2 z; omega⟩
        · split
          · rename_i h5
            have := hN.c h5 (by decide)
            exact ⟨by show a ≤ b + 1; omega, by show b + 1 ≤ n; omega, fun _ => by show a < b + 1; omega⟩
          · exact ⟨h2, h3, fun z => by cases z⟩
theorem q_rule_st {C : Nat → Int32} {n F a : Nat} (hN : q_N C n) (ha : a ≤ n) : q_st n a (q_rule C F a) := by
  unfold q_rule
  split
  · rename_i h1
    have := hN.c h1 (by decide)
    split
    · rename_i h2
      have := hN.n h2
      split
      · rename_i h3
        have := hN.c h3 (by decide)
        have h4 := q_items_st (F := F) hN F (a + 3) (by omega)
        exact ⟨by have := h4.1; omega, h4.2.1, fun z => by have := h4.2.2 z; omega⟩
      · exact ⟨by show a ≤ a + 2; omega, by show a + 2 ≤ n; omega, fun z => by cases z⟩
    · exact ⟨by show a ≤ a + 1; omega, by show a + 1 ≤ n; omega, fun z => by cases z⟩
  · exact ⟨Nat.le_refl _, ha, fun z => by cases z⟩
