/-! THE REFERENCE: items of rules -/
def q_its (C : Nat → Int32) (F : Nat) : Nat → Nat → List Nat
  | 0, _ => []
  | f + 1, a => a :: (if C (q_item C F a).2 = -5 then q_its C F f ((q_item C F a).2 + 1) else [])
/-- the first of a rule's items, and the rest -/
theorem q_its_c {C : Nat → Int32} {F f p e : Nat} (h : q_items C F f p = (true, e)) : ∃ g b, f = g + 1 ∧ q_item C F p = (true, b) ∧ ((C b = -5 ∧ q_items C F g (b + 1) = (true, e) ∧ q_its C F f p = p :: q_its C F g (b + 1)) ∨ (¬ C b = -5 ∧ C b = -6 ∧ q_its C F f p = [p])) := by
  cases f with
  | zero => cases h
  | succ g =>
    rw [q_items_s] at h
    cases hq : q_item C F p with
    | mk u b =>
      rw [hq] at h
      cases u with
      | false => cases h
      | true =>
        dsimp only at h
        refine ⟨g, b, rfl, rfl, ?_⟩
        unfold q_aft at h
        split at h
        · rename_i h1
          refine Or.inl ⟨h1, h, ?_⟩
          show p :: (if C (q_item C F p).2 = -5 then _ else _) = _
          rw [hq, if_pos h1]
        · rename_i h1
          split at h
          · rename_i h2
            refine Or.inr ⟨h1, h2, ?_⟩
            show p :: (if C (q_item C F p).2 = -5 then _ else _) = _
            rw [hq, if_neg h1]
          · cases h
theorem q_item_lt {C : Nat → Int32} {n F p b : Nat} (hN : q_N C n) (h : q_item C F p = (true, b)) : p < n := by
  refine hN.lt fun z => ?_
  unfold q_item at h
  rw [if_neg (by rw [z]; decide), if_neg (by rw [z]; decide), if_neg (by rw [z]; decide)] at h
  cases h
/-- what an item that fits is -/
theorem q_item_c {C : Nat → Int32} {F p b : Nat} (h : q_item C F p = (true, b)) : (C p = -7 ∧ q_n C 0 7 (p + 1) ∧ (C (p + 2) = -8 ∨ (¬ C (p + 2) = -8 ∧ C (p + 2) = -9)) ∧ q_n C 0 9 (p + 3)) ∨ (¬ C p = -7 ∧ C p = -10 ∧ q_n C 0 19 (p + 1)) ∨ (¬ C p = -7 ∧ ¬ C p = -10 ∧ C p = -11 ∧ q_sum C F (p + 1) = (true, b)) := by
  unfold q_item at h
  split at h
  · rename_i h1
    unfold q_test at h
    split at h
    · rename_i h2
      split at h
      · rename_i h3
        split at h
        · rename_i h4; exact Or.inl ⟨h1, h2, Or.inl h3, h4⟩
        · cases h
      · rename_i h3
        split at h
        · rename_i h3'
          split at h
          · rename_i h4; exact Or.inl ⟨h1, h2, Or.inr ⟨h3, h3'⟩, h4⟩
          · cases h
        · cases h
    · cases h
  · rename_i h1
    split at h
    · rename_i h2
      split at h
      · rename_i h3; exact Or.inr (Or.inl ⟨h1, h2, h3⟩)
      · cases h
    · rename_i h2
      split at h
      · rename_i h3; exact Or.inr (Or.inr ⟨h1, h2, h3, h⟩)
      · cases h
/-- the book: the kept text, its rules and days -/
def m_Bk (h : x_H) (m : Nat) (l : List (Nat × Nat)) (C : Nat → Int32) (R : List (Nat × Nat)) (E : List Int32) : Prop := m_K h m l C ∧ m_B h m R E ∧ R.length ≤ 60 ∧ E.length ≤ 1500 ∧ ∀ (j : Nat) (q : Nat × Nat), R[j]? = some q → q.2 < 1500 ∧ ∃ b, q_rule C 1501 q.1 = (true, b)
theorem m_Bk.F {h h1 : x_H} {m : Nat} {l : List (Nat × Nat)} {C : Nat → Int32} {R : List (Nat × Nat)} {E : List Int32} (hB : m_Bk h m l C R E) {P : Nat → Nat → Prop} {S : Nat → Prop} (hF : x_F h h1 P S) (h5 : ¬ P 1005 m ∧ ¬ P 1011 m ∧ ¬ P 1013 m) (hr : ∀ a, S a → a < m + 2 ∨ m + 9 < a) : m_Bk h1 m l C R E := by
  obtain ⟨b1, ⟨b2, b3, b4, b5⟩, b6⟩ := hB
  refine ⟨b1.F hF h5.1 (fun z => by have := hr _ z; omega) (fun z => by have := hr _ z; omega) (fun z => by have := hr _ z; omega), ⟨(hF.fi h5.2.1).trans b2, (hF.fi h5.2.2).trans b3, ?_, ?_⟩, b6⟩
  · rw [hF.rw (fun z => by have := hr _ z; omega), hF.rw (fun z => by have := hr _ z; omega)]
    exact b4
  · rw [hF.rw (fun z => by have := hr _ z; omega)]
    exact b5
theorem m_Bk.at {h : x_H} {m : Nat} {l : List (Nat × Nat)} {C : Nat → Int32} {R : List (Nat × Nat)} {E : List Int32} (hB : m_Bk h m l C R E) {r : Nat} {q : Nat × Nat} (hr : R[r]? = some q) : x_rw h (m + 7) r = nI q.1 ∧ x_rw h (m + 8) r = nI q.2 ∧ r < 60 ∧ q.1 < 1500 ∧ q.2 < 1500 ∧ q_n C 0 19 (q.1 + 1) ∧ ∃ e, q_items C 1501 1501 (q.1 + 3) = (true, e) := by
  obtain ⟨b1, b2, b3, b4, b5⟩ := hB
  obtain ⟨y0, b, y1⟩ := b5 r q hr
  obtain ⟨z1, z2, z3, z4, -⟩ := q_rule_in y1
  have y2 := b1.N.c z1 (by decide)
  have := b1.ll
  have := (List.getElem?_eq_some_iff.mp hr).1
  exact ⟨(b2.2.2.1 r q hr).1, (b2.2.2.1 r q hr).2, by omega, by omega, y0, z2, b, z4⟩
set_option maxHeartbeats 4000000 in
set_option maxRecDepth 100000 in
theorem c_firstItem (G : x_G) {h : x_H} {m : Nat} {l : List (Nat × Nat)} {C : Nat → Int32} {R : List (Nat × Nat)} {E : List Int32} (hB : m_Bk h m l C R E) {r : Nat} {q : Nat × Nat} (hr : R[r]? = some q) : x_Call G mX10_firstItem h [x_r (some m), x_i (nI r)] (some (x_i (nI (q.1 + 3)))) h := by
  obtain ⟨h7, h8, hr6, -⟩ := hB.at hr
  refine x_Ex.call (x_enter mwX10_firstItem (Nat.le_of_ble_eq_true rfl) ?_)
  show x_E _ _ _ _ _ [(0, x_r (some m)), (1, x_i (nI r))] _ _
  refine x_aload_n (i := 0) (o := some m) dX10_firstItem_0 rfl rfl ?_
  refine x_getRv (v := some (m + 7)) dX10_firstItem_1 fX10_firstItem_29 (i := 1009) rfl rfl (mPk_0 hB.1.1) (mPr_1009 hB.1.1) ?_
  refine x_iload_n (i := 1) (x := nI r) dX10_firstItem_4 rfl rfl ?_
  refine x_ialoadN (n := r) (v := nI q.1) dX10_firstItem_5 (mPk_7 hB.1.1) (rfl) (by rw [mPl_7 hB.1.1]; exact hr6) (by rw [mPl_7 hB.1.1]; omega) (h7) ?_
  refine x_iconst (v := 3) dX10_firstItem_6 (by decide) ?_
  refine x_iadd dX10_firstItem_7 ?_
  rw [show (nI q.1) + 3 = nI (q.1 + 3) from nI_add q.1 3]
  refine x_ireturn dX10_firstItem_8 rfl (rfl) ⟨Nat.le_refl _, Nat.le_refl _⟩ ?_
  exact ⟨rfl, rfl⟩
set_option maxHeartbeats 4000000 in
set_option maxRecDepth 100000 in
theorem c_classOf (G : x_G) {h : x_H} {m : Nat} {l : List (Nat × Nat)} {C : Nat → Int32} {R : List (Nat × Nat)} {E : List Int32} (hB : m_Bk h m l C R E) {r : Nat} {q : Nat × Nat} (hr : R[r]? = some q) : x_Call G mX10_classOf h [x_r (some m), x_i (nI r)] (some (x_i (C (q.1 + 1)))) h := by
  obtain ⟨h7, h8, hr6, hq1, hq2, hc, -⟩ := hB.at hr
  refine x_Ex.call (x_enter mwX10_classOf (Nat.le_of_ble_eq_true rfl) ?_)
  show x_E _ _ _ _ _ [(0, x_r (some m)), (1, x_i (nI r))] _ _
  refine x_aload_n (i := 0) (o := some m) dX10_classOf_0 rfl rfl ?_
  refine x_aload_n (i := 0) (o := some m) dX10_classOf_1 rfl rfl ?_
  refine x_getRv (v := some (m + 7)) dX10_classOf_2 fX10_classOf_29 (i := 1009) rfl rfl (mPk_0 hB.1.1) (mPr_1009 hB.1.1) ?_
  refine x_iload_n (i := 1) (x := nI r) dX10_classOf_5 rfl rfl ?_
  refine x_ialoadN (n := r) (v := nI q.1) dX10_classOf_6 (mPk_7 hB.1.1) (rfl) (by rw [mPl_7 hB.1.1]; exact hr6) (by rw [mPl_7 hB.1.1]; omega) (h7) ?_
  refine x_iconst (v := 1) dX10_classOf_7 (by decide) ?_
  refine x_iadd dX10_classOf_8 ?_
  rw [show (nI q.1) + 1 = nI (q.1 + 1) from nI_add q.1 1]
  refine x_callV (a := m) (av := [x_i (nI (q.1 + 1))]) (rest := []) (r := (some (x_i (C (q.1 + 1))))) (h1 := h) dX10_classOf_9 sX10_classOf_172 (mPk_0 hB.1.1) rfl rfl (Nat.le_of_ble_eq_true rfl) ⟨Nat.le_refl _, Nat.le_refl _⟩ (k_num G hB.1 hc.1) ?_
  show x_E _ _ _ _ 12 _ [x_i (C (q.1 + 1))] _
  refine x_ireturn dX10_classOf_12 rfl (rfl) ⟨Nat.le_refl _, Nat.le_refl _⟩ ?_
  exact ⟨rfl, rfl⟩
set_option maxHeartbeats 4000000 in
set_option maxRecDepth 100000 in
theorem l_nextItem (G : x_G) {h : x_H} {m : Nat} {l : List (Nat × Nat)} {C : Nat → Int32} (hK : m_K h m l C) {F p b : Nat} (hq : q_item C F p = (true, b)) (hb : C b = -5 ∨ C b = -6) (hb2 : b < 1600) : ∀ (n k : Nat), p ≤ k → k ≤ b → b - k = n → x_E G mX10_nextItem (x_D G mX10_nextItem h (fun r h1 => r = some (x_i (if C b = -5 then nI (b + 1) else -1)) ∧ h1 = h)) h 2 [(0, x_r (some m)), (1, x_i (nI p)), (2, x_i (nI k))] [] h := by
  have hin := q_item_in hq
  intro n
  induction n with
  | zero =>
    intro k hk0 hk1 hn
    have ekb : k = b := by omega
    refine x_aload_n (i := 0) (o := some m) dX10_nextItem_2 rfl rfl ?_
    refine x_iload_n (i := 2) (x := nI k) dX10_nextItem_3 rfl rfl ?_
    refine x_ldc2 (v := 23162468) dX10_nextItem_4 kX10_nextItem_144 ?_
    by_cases q5 : C k = -5
    · skip
      refine x_callV (a := m) (av := [x_i (nI k), x_l 23162468]) (rest := []) (r := (some (x_i 1))) (h1 := h) dX10_nextItem_7 sX10_nextItem_168 (mPk_0 hK.1) rfl rfl (Nat.le_of_ble_eq_true rfl) ⟨Nat.le_refl _, Nat.le_refl _⟩ (k_has_t G hK (a := k) (by omega) z_K_and q5) ?_
      show x_E _ _ _ _ 10 _ [x_i 1] _
      refine x_if_ne (tgt := 30) dX10_nextItem_10 (by decide) (fun _ => ?_) (fun c => absurd c (by decide))
      refine x_aload_n (i := 0) (o := some m) dX10_nextItem_30 rfl rfl ?_
      refine x_iload_n (i := 2) (x := nI k) dX10_nextItem_31 rfl rfl ?_
      refine x_ldc2 (v := 23162468) dX10_nextItem_32 kX10_nextItem_144 ?_
      by_cases q55 : C k = -5
      · skip
        refine x_callV (a := m) (av := [x_i (nI k), x_l 23162468]) (rest := []) (r := (some (x_i 1))) (h1 := h) dX10_nextItem_35 sX10_nextItem_168 (mPk_0 hK.1) rfl rfl (Nat.le_of_ble_eq_true rfl) ⟨Nat.le_refl _, Nat.le_refl _⟩ (k_has_t G hK (a := k) (by omega) z_K_and q55) ?_
        show x_E _ _ _ _ 38 _ [x_i 1] _
        refine x_if_eq (tgt := 47) dX10_nextItem_38 (by decide) (fun c => absurd c (by decide)) (fun _ => ?_)
        refine x_iload_n (i := 2) (x := nI k) dX10_nextItem_41 rfl rfl ?_
        refine x_iconst (v := 1) dX10_nextItem_42 (by decide) ?_
        refine x_iadd dX10_nextItem_43 ?_
        rw [show (nI k) + 1 = nI (k + 1) from nI_1 k]
        refine x_goto (tgt := 48) dX10_nextItem_44 (by decide) ?_
        refine x_ireturn dX10_nextItem_48 rfl (rfl) ⟨Nat.le_refl _, Nat.le_refl _⟩ ?_
        have e : k = b := by
          by_cases z : k < b
          · exact absurd q55 (hin k (by omega) z).2.2.1
          · omega
        subst e
        exact ⟨by rw [if_pos q55], rfl⟩
      · skip
        refine x_callV (a := m) (av := [x_i (nI k), x_l 23162468]) (rest := []) (r := (some (x_i 0))) (h1 := h) dX10_nextItem_35 sX10_nextItem_168 (mPk_0 hK.1) rfl rfl (Nat.le_of_ble_eq_true rfl) ⟨Nat.le_refl _, Nat.le_refl _⟩ (k_has_f G hK (a := k) (by omega) z_K_and q55) ?_
        show x_E _ _ _ _ 38 _ [x_i 0] _
        refine x_if_eq (tgt := 47) dX10_nextItem_38 (by decide) (fun _ => ?_) (fun c => absurd (by decide) c)
        refine x_iconst (v := (-1)) dX10_nextItem_47 (by decide) ?_
        refine x_ireturn dX10_nextItem_48 rfl (rfl) ⟨Nat.le_refl _, Nat.le_refl _⟩ ?_
        exact absurd q5 q55
    · skip
      refine x_callV (a := m) (av := [x_i (nI k), x_l 23162468]) (rest := []) (r := (some (x_i 0))) (h1 := h) dX10_nextItem_7 sX10_nextItem_168 (mPk_0 hK.1) rfl rfl (Nat.le_of_ble_eq_true rfl) ⟨Nat.le_refl _, Nat.le_refl _⟩ (k_has_f G hK (a := k) (by omega) z_K_and q5) ?_
      show x_E _ _ _ _ 10 _ [x_i 0] _
      refine x_if_ne (tgt := 30) dX10_nextItem_10 (by decide) (fun c => absurd c (by decide)) (fun _ => ?_)
      refine x_aload_n (i := 0) (o := some m) dX10_nextItem_13 rfl rfl ?_
      refine x_iload_n (i := 2) (x := nI k) dX10_nextItem_14 rfl rfl ?_
      refine x_ldc2 (v := 23424612) dX10_nextItem_15 kX10_nextItem_146 ?_
      by_cases q6 : C k = -6
      · skip
        refine x_callV (a := m) (av := [x_i (nI k), x_l 23424612]) (rest := []) (r := (some (x_i 1))) (h1 := h) dX10_nextItem_18 sX10_nextItem_168 (mPk_0 hK.1) rfl rfl (Nat.le_of_ble_eq_true rfl) ⟨Nat.le_refl _, Nat.le_refl _⟩ (k_has_t G hK (a := k) (by omega) z_K_end q6) ?_
        show x_E _ _ _ _ 21 _ [x_i 1] _
        refine x_if_ne (tgt := 30) dX10_nextItem_21 (by decide) (fun _ => ?_) (fun c => absurd c (by decide))
        refine x_aload_n (i := 0) (o := some m) dX10_nextItem_30 rfl rfl ?_
        refine x_iload_n (i := 2) (x := nI k) dX10_nextItem_31 rfl rfl ?_
        refine x_ldc2 (v := 23162468) dX10_nextItem_32 kX10_nextItem_144 ?_
        by_cases q55 : C k = -5
        · skip
          refine x_callV (a := m) (av := [x_i (nI k), x_l 23162468]) (rest := []) (r := (some (x_i 1))) (h1 := h) dX10_nextItem_35 sX10_nextItem_168 (mPk_0 hK.1) rfl rfl (Nat.le_of_ble_eq_true rfl) ⟨Nat.le_refl _, Nat.le_refl _⟩ (k_has_t G hK (a := k) (by omega) z_K_and q55) ?_
          show x_E _ _ _ _ 38 _ [x_i 1] _
          refine x_if_eq (tgt := 47) dX10_nextItem_38 (by decide) (fun c => absurd c (by decide)) (fun _ => ?_)
          refine x_iload_n (i := 2) (x := nI k) dX10_nextItem_41 rfl rfl ?_
          refine x_iconst (v := 1) dX10_nextItem_42 (by decide) ?_
          refine x_iadd dX10_nextItem_43 ?_
          rw [show (nI k) + 1 = nI (k + 1) from nI_1 k]
          refine x_goto (tgt := 48) dX10_nextItem_44 (by decide) ?_
          refine x_ireturn dX10_nextItem_48 rfl (rfl) ⟨Nat.le_refl _, Nat.le_refl _⟩ ?_
          have e : k = b := by
            by_cases z : k < b
            · exact absurd q55 (hin k (by omega) z).2.2.1
            · omega
          subst e
          exact ⟨by rw [if_pos q55], rfl⟩
        · skip
          refine x_callV (a := m) (av := [x_i (nI k), x_l 23162468]) (rest := []) (r := (some (x_i 0))) (h1 := h) dX10_nextItem_35 sX10_nextItem_168 (mPk_0 hK.1) rfl rfl (Nat.le_of_ble_eq_true rfl) ⟨Nat.le_refl _, Nat.le_refl _⟩ (k_has_f G hK (a := k) (by omega) z_K_and q55) ?_
          show x_E _ _ _ _ 38 _ [x_i 0] _
          refine x_if_eq (tgt := 47) dX10_nextItem_38 (by decide) (fun _ => ?_) (fun c => absurd (by decide) c)
          refine x_iconst (v := (-1)) dX10_nextItem_47 (by decide) ?_
          refine x_ireturn dX10_nextItem_48 rfl (rfl) ⟨Nat.le_refl _, Nat.le_refl _⟩ ?_
          have e : k = b := by
            by_cases z : k < b
            · exact absurd q6 (hin k (by omega) z).2.2.2
            · omega
          subst e
          exact ⟨by rw [if_neg q55], rfl⟩
      · skip
        refine x_callV (a := m) (av := [x_i (nI k), x_l 23424612]) (rest := []) (r := (some (x_i 0))) (h1 := h) dX10_nextItem_18 sX10_nextItem_168 (mPk_0 hK.1) rfl rfl (Nat.le_of_ble_eq_true rfl) ⟨Nat.le_refl _, Nat.le_refl _⟩ (k_has_f G hK (a := k) (by omega) z_K_end q6) ?_
        show x_E _ _ _ _ 21 _ [x_i 0] _
        refine x_if_ne (tgt := 30) dX10_nextItem_21 (by decide) (fun c => absurd c (by decide)) (fun _ => ?_)
        refine x_iinc (i := 2) (x := nI k) (v := nI (k + 1)) (lv' := [(0, x_r (some m)), (1, x_i (nI p)), (2, x_i (nI (k + 1)))]) dX10_nextItem_24 rfl (nI_1 k) (by decide) rfl ?_
        refine x_goto (tgt := 2) dX10_nextItem_27 (by decide) ?_
        have e : ¬ k = b := by
          rintro rfl
          rcases hb with z | z
          · exact q5 z
          · exact q6 z
        exact absurd ekb e
  | succ n ih =>
    intro k hk0 hk1 hn
    refine x_aload_n (i := 0) (o := some m) dX10_nextItem_2 rfl rfl ?_
    refine x_iload_n (i := 2) (x := nI k) dX10_nextItem_3 rfl rfl ?_
    refine x_ldc2 (v := 23162468) dX10_nextItem_4 kX10_nextItem_144 ?_
    by_cases q5 : C k = -5
    · skip
      refine x_callV (a := m) (av := [x_i (nI k), x_l 23162468]) (rest := []) (r := (some (x_i 1))) (h1 := h) dX10_nextItem_7 sX10_nextItem_168 (mPk_0 hK.1) rfl rfl (Nat.le_of_ble_eq_true rfl) ⟨Nat.le_refl _, Nat.le_refl _⟩ (k_has_t G hK (a := k) (by omega) z_K_and q5) ?_
      show x_E _ _ _ _ 10 _ [x_i 1] _
      refine x_if_ne (tgt := 30) dX10_nextItem_10 (by decide) (fun _ => ?_) (fun c => absurd c (by decide))
      refine x_aload_n (i := 0) (o := some m) dX10_nextItem_30 rfl rfl ?_
      refine x_iload_n (i := 2) (x := nI k) dX10_nextItem_31 rfl rfl ?_
      refine x_ldc2 (v := 23162468) dX10_nextItem_32 kX10_nextItem_144 ?_
      by_cases q55 : C k = -5
      · skip
        refine x_callV (a := m) (av := [x_i (nI k), x_l 23162468]) (rest := []) (r := (some (x_i 1))) (h1 := h) dX10_nextItem_35 sX10_nextItem_168 (mPk_0 hK.1) rfl rfl (Nat.le_of_ble_eq_true rfl) ⟨Nat.le_refl _, Nat.le_refl _⟩ (k_has_t G hK (a := k) (by omega) z_K_and q55) ?_
        show x_E _ _ _ _ 38 _ [x_i 1] _
        refine x_if_eq (tgt := 47) dX10_nextItem_38 (by decide) (fun c => absurd c (by decide)) (fun _ => ?_)
        refine x_iload_n (i := 2) (x := nI k) dX10_nextItem_41 rfl rfl ?_
        refine x_iconst (v := 1) dX10_nextItem_42 (by decide) ?_
        refine x_iadd dX10_nextItem_43 ?_
        rw [show (nI k) + 1 = nI (k + 1) from nI_1 k]
        refine x_goto (tgt := 48) dX10_nextItem_44 (by decide) ?_
        refine x_ireturn dX10_nextItem_48 rfl (rfl) ⟨Nat.le_refl _, Nat.le_refl _⟩ ?_
        have e : k = b := by
          by_cases z : k < b
          · exact absurd q55 (hin k (by omega) z).2.2.1
          · omega
        subst e
        exact ⟨by rw [if_pos q55], rfl⟩
      · skip
        refine x_callV (a := m) (av := [x_i (nI k), x_l 23162468]) (rest := []) (r := (some (x_i 0))) (h1 := h) dX10_nextItem_35 sX10_nextItem_168 (mPk_0 hK.1) rfl rfl (Nat.le_of_ble_eq_true rfl) ⟨Nat.le_refl _, Nat.le_refl _⟩ (k_has_f G hK (a := k) (by omega) z_K_and q55) ?_
        show x_E _ _ _ _ 38 _ [x_i 0] _
        refine x_if_eq (tgt := 47) dX10_nextItem_38 (by decide) (fun _ => ?_) (fun c => absurd (by decide) c)
        refine x_iconst (v := (-1)) dX10_nextItem_47 (by decide) ?_
        refine x_ireturn dX10_nextItem_48 rfl (rfl) ⟨Nat.le_refl _, Nat.le_refl _⟩ ?_
        exact absurd q5 q55
    · skip
      refine x_callV (a := m) (av := [x_i (nI k), x_l 23162468]) (rest := []) (r := (some (x_i 0))) (h1 := h) dX10_nextItem_7 sX10_nextItem_168 (mPk_0 hK.1) rfl rfl (Nat.le_of_ble_eq_true rfl) ⟨Nat.le_refl _, Nat.le_refl _⟩ (k_has_f G hK (a := k) (by omega) z_K_and q5) ?_
      show x_E _ _ _ _ 10 _ [x_i 0] _
      refine x_if_ne (tgt := 30) dX10_nextItem_10 (by decide) (fun c => absurd c (by decide)) (fun _ => ?_)
      refine x_aload_n (i := 0) (o := some m) dX10_nextItem_13 rfl rfl ?_
      refine x_iload_n (i := 2) (x := nI k) dX10_nextItem_14 rfl rfl ?_
      refine x_ldc2 (v := 23424612) dX10_nextItem_15 kX10_nextItem_146 ?_
      by_cases q6 : C k = -6
      · skip
        refine x_callV (a := m) (av := [x_i (nI k), x_l 23424612]) (rest := []) (r := (some (x_i 1))) (h1 := h) dX10_nextItem_18 sX10_nextItem_168 (mPk_0 hK.1) rfl rfl (Nat.le_of_ble_eq_true rfl) ⟨Nat.le_refl _, Nat.le_refl _⟩ (k_has_t G hK (a := k) (by omega) z_K_end q6) ?_
        show x_E _ _ _ _ 21 _ [x_i 1] _
        refine x_if_ne (tgt := 30) dX10_nextItem_21 (by decide) (fun _ => ?_) (fun c => absurd c (by decide))
        refine x_aload_n (i := 0) (o := some m) dX10_nextItem_30 rfl rfl ?_
        refine x_iload_n (i := 2) (x := nI k) dX10_nextItem_31 rfl rfl ?_
        refine x_ldc2 (v := 23162468) dX10_nextItem_32 kX10_nextItem_144 ?_
        by_cases q55 : C k = -5
        · skip
          refine x_callV (a := m) (av := [x_i (nI k), x_l 23162468]) (rest := []) (r := (some (x_i 1))) (h1 := h) dX10_nextItem_35 sX10_nextItem_168 (mPk_0 hK.1) rfl rfl (Nat.le_of_ble_eq_true rfl) ⟨Nat.le_refl _, Nat.le_refl _⟩ (k_has_t G hK (a := k) (by omega) z_K_and q55) ?_
          show x_E _ _ _ _ 38 _ [x_i 1] _
          refine x_if_eq (tgt := 47) dX10_nextItem_38 (by decide) (fun c => absurd c (by decide)) (fun _ => ?_)
          refine x_iload_n (i := 2) (x := nI k) dX10_nextItem_41 rfl rfl ?_
          refine x_iconst (v := 1) dX10_nextItem_42 (by decide) ?_
          refine x_iadd dX10_nextItem_43 ?_
          rw [show (nI k) + 1 = nI (k + 1) from nI_1 k]
          refine x_goto (tgt := 48) dX10_nextItem_44 (by decide) ?_
          refine x_ireturn dX10_nextItem_48 rfl (rfl) ⟨Nat.le_refl _, Nat.le_refl _⟩ ?_
          have e : k = b := by
            by_cases z : k < b
            · exact absurd q55 (hin k (by omega) z).2.2.1
            · omega
          subst e
          exact ⟨by rw [if_pos q55], rfl⟩
        · skip
          refine x_callV (a := m) (av := [x_i (nI k), x_l 23162468]) (rest := []) (r := (some (x_i 0))) (h1 := h) dX10_nextItem_35 sX10_nextItem_168 (mPk_0 hK.1) rfl rfl (Nat.le_of_ble_eq_true rfl) ⟨Nat.le_refl _, Nat.le_refl _⟩ (k_has_f G hK (a := k) (by omega) z_K_and q55) ?_
          show x_E _ _ _ _ 38 _ [x_i 0] _
          refine x_if_eq (tgt := 47) dX10_nextItem_38 (by decide) (fun _ => ?_) (fun c => absurd (by decide) c)
          refine x_iconst (v := (-1)) dX10_nextItem_47 (by decide) ?_
          refine x_ireturn dX10_nextItem_48 rfl (rfl) ⟨Nat.le_refl _, Nat.le_refl _⟩ ?_
          have e : k = b := by
            by_cases z : k < b
            · exact absurd q6 (hin k (by omega) z).2.2.2
            · omega
          subst e
          exact ⟨by rw [if_neg q55], rfl⟩
      · skip
        refine x_callV (a := m) (av := [x_i (nI k), x_l 23424612]) (rest := []) (r := (some (x_i 0))) (h1 := h) dX10_nextItem_18 sX10_nextItem_168 (mPk_0 hK.1) rfl rfl (Nat.le_of_ble_eq_true rfl) ⟨Nat.le_refl _, Nat.le_refl _⟩ (k_has_f G hK (a := k) (by omega) z_K_end q6) ?_
        show x_E _ _ _ _ 21 _ [x_i 0] _
        refine x_if_ne (tgt := 30) dX10_nextItem_21 (by decide) (fun c => absurd c (by decide)) (fun _ => ?_)
        refine x_iinc (i := 2) (x := nI k) (v := nI (k + 1)) (lv' := [(0, x_r (some m)), (1, x_i (nI p)), (2, x_i (nI (k + 1)))]) dX10_nextItem_24 rfl (nI_1 k) (by decide) rfl ?_
        refine x_goto (tgt := 2) dX10_nextItem_27 (by decide) ?_
        have e : ¬ k = b := by
          rintro rfl
          rcases hb with z | z
          · exact q5 z
          · exact q6 z
        exact ih (k + 1) (by omega) (by omega) (by omega)
set_option maxHeartbeats 4000000 in
set_option maxRecDepth 100000 in
theorem c_nextItem (G : x_G) {h : x_H} {m : Nat} {l : List (Nat × Nat)} {C : Nat → Int32} (hK : m_K h m l C) {F p b : Nat} (hq : q_item C F p = (true, b)) (hb : C b = -5 ∨ C b = -6) : x_Call G mX10_nextItem h [x_r (some m), x_i (nI p)] (some (x_i (if C b = -5 then nI (b + 1) else -1))) h := by
  have hll := hK.ll
  have hbn : b < l.length := hK.N.lt (by rcases hb with z | z <;> rw [z] <;> decide)
  have hpb : p ≤ b := by
    have := q_item_lt hK.N hq
    have y := (q_item_st (F := F) hK.N (a := p) (by omega)).1
    rw [hq] at y
    exact y
  refine x_Ex.call (x_enter mwX10_nextItem (Nat.le_of_ble_eq_true rfl) ?_)
  show x_E _ _ _ _ _ [(0, x_r (some m)), (1, x_i (nI p))] _ _
  refine x_iload_n (i := 1) (x := nI p) dX10_nextItem_0 rfl rfl ?_
  refine x_istore_n (i := 2) (lv' := [(0, x_r (some m)), (1, x_i (nI p)), (2, x_i (nI p))]) dX10_nextItem_1 rfl (by decide) rfl ?_
  exact l_nextItem G hK hq hb (by omega) _ p (Nat.le_refl _) hpb rfl
