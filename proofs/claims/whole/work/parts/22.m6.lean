/-! THE REFERENCE: eatsAll -/
theorem m_num {h : x_H} {m : Nat} {l : List (Nat × Nat)} {C : Nat → Int32} (G : x_G) (hr : m_R h m l C) {a b : Nat} (ha : a < l.length) (hc : 0 ≤ C a) : x_Call G mX10_numberOf (m_A h m b) [x_r (some (m + 1)), x_r (some (m + 5)), x_r (some (m + 6)), x_i (nI a)] (some (x_i (C a))) (m_A h m b) := by
  have hll := hr.ll
  obtain ⟨hp, hw, hn, hC⟩ := hr
  obtain ⟨q, hq⟩ : ∃ q, l[a]? = some q := ⟨_, List.getElem?_eq_getElem ha⟩
  obtain ⟨w1, w2, w3, w4⟩ := hw.2.2 a q hq
  have k := c_numberOf G (m_A h m b) (m + 1) (m + 5) (m + 6) a q.1 q.2 (mPk_1 hp) (mPk_5 hp) (mPk_6 hp) (by rw [show x_ln (m_A h m b) (m + 5) = 1501 from mPl_5 hp]; omega) (by rw [show x_ln (m_A h m b) (m + 6) = 1501 from mPl_6 hp]; omega) (by rw [show x_ln (m_A h m b) (m + 5) = 1501 from mPl_5 hp]; omega) (by rw [show x_ln (m_A h m b) (m + 6) = 1501 from mPl_6 hp]; omega) (by rw [show x_ln (m_A h m b) (m + 1) = 3000 from mPl_1 hp]; omega) w1 w2 (by omega) (by rw [show x_ln (m_A h m b) (m + 1) = 3000 from mPl_1 hp]; omega) (fun i => z_b8_by (hw.1 i))
  rw [z_code_num, show z_code (z_sl (x_rw (m_A h m b) (m + 1)) q.1 q.2) = C a by rw [hC, m_C_in hq]; rfl, if_pos hc] at k
  exact k
theorem l_notFrom (C : Nat → Int32) (F n f a ed ru : Nat) (L : Int32) (h1 : ¬ n ≤ a) (h2 : ¬ C a = -2) (hx : ed = 0 ∨ ¬ C a = -3) : q_all C F n (f + 1) a ed ru L = (false, a) := by
  unfold q_all
  rw [if_neg h1, if_neg h2]
  split
  · rfl
  · rename_i h3
    split
    · rfl
    · have h4 : q_rule C F a = (false, a) := by
        unfold q_rule
        rw [if_neg]
        rcases hx with hx | hx
        · exact absurd hx h3
        · exact hx
      rw [h4]
set_option maxHeartbeats 4000000 in
set_option maxRecDepth 100000 in
theorem l_eatsAll_6 (G : x_G) {h : x_H} {m : Nat} {l : List (Nat × Nat)} {C : Nat → Int32} (hr : m_R h m l C)  {F : Nat} (hF : l.length < F) (h0 : x_H) (hz : x_sz h0 = x_sz h ∧ x_us h0 = x_us h) (f : Nat) (ih : ∀ (a ed ru : Nat) (L : Int32), a ≤ l.length → l.length - a < f → 0 < ed → ru ≤ 60 → x_E G mX10_eatsAll (x_D G mX10_eatsAll h0 (fun r h1 => r = some (x_i (if (q_all C F l.length f a ed ru L).1 = true then 1 else 0)) ∧ h1 = m_A h m (q_all C F l.length f a ed ru L).2)) h0 79 [(0, x_r (some m)), (1, x_i L), (2, x_i (nI ru)), (3, x_i 1)] [] (m_A h m a)) (a ed ru : Nat) (L : Int32) (ha : a ≤ l.length) (hf : l.length - a < f + 1) (hru : ru ≤ 60) (hx : ed = 0 ∨ ¬ C a = -3) : x_E G mX10_eatsAll (x_D G mX10_eatsAll h0 (fun r h1 => r = some (x_i (if (q_all C F l.length (f + 1) a ed ru L).1 = true then 1 else 0)) ∧ h1 = m_A h m (q_all C F l.length (f + 1) a ed ru L).2)) h0 6 [(0, x_r (some m)), (1, x_i L), (2, x_i (nI ru)), (3, x_i 1)] [] (m_A h m a) := by
  have hll := hr.ll
  have hle : x_sz h0 ≤ x_sz h ∧ x_us h0 ≤ x_us h := ⟨Nat.le_of_eq hz.1, Nat.le_of_eq hz.2⟩
  refine x_iload_n (i := 3) (x := 1) dX10_eatsAll_6 rfl rfl ?_
  refine x_if_eq (tgt := 118) dX10_eatsAll_7 (by decide) (fun c => absurd c (by decide)) (fun _ => ?_)
  refine x_aload_n (i := 0) (o := some m) dX10_eatsAll_10 rfl rfl ?_
  refine x_getIv (v := nI a) dX10_eatsAll_11 fX10_eatsAll_83 (i := 1025) rfl rfl (mPk_0 hr.1) (m_A_at h m _) ?_
  refine x_aload_n (i := 0) (o := some m) dX10_eatsAll_14 rfl rfl ?_
  refine x_getIv (v := nI l.length) dX10_eatsAll_15 fX10_eatsAll_74 (i := 1008) rfl rfl (mPk_0 hr.1) ((m_A_nw h m _).trans hr.2.2.1) ?_
  refine x_icmp_ge (tgt := 118) dX10_eatsAll_18 (by decide) (fun c18 => ?_) (fun c18 => ?_)
  · skip
    have q18 := (nI_leI (by omega) (by omega)).mp c18
    refine x_iload_n (i := 3) (x := 1) dX10_eatsAll_118 rfl rfl ?_
    refine x_ireturn dX10_eatsAll_119 rfl (rfl) hle ?_
    exact ⟨by simp only [q_all, if_pos q18, reduceIte], by simp only [q_all, if_pos q18]⟩
  · skip
    have q18 : ¬ l.length ≤ a := fun z => c18 (nI_le z (by omega))
    refine x_aload_n (i := 0) (o := some m) dX10_eatsAll_21 rfl rfl ?_
    refine x_ldc2 (v := 6013742957) dX10_eatsAll_22 kX10_eatsAll_148 ?_
    by_cases hc1 : C a = -2
    · skip
      have hc1b := hr.N.c hc1 (by decide)
      refine x_callV (a := m) (av := [x_l 6013742957]) (rest := []) (r := (some (x_i 1))) (h1 := m_A h m (a + 1)) dX10_eatsAll_25 sX10_eatsAll_100 (mPk_0 hr.1) rfl rfl (Nat.le_of_ble_eq_true rfl) hle (e_eats_t G hr (a := a) (by omega) z_K_from hc1) ?_
      show x_E _ _ _ _ 28 _ [x_i 1] _
      refine x_if_eq (tgt := 45) dX10_eatsAll_28 (by decide) (fun c => absurd c (by decide)) (fun _ => ?_)
      refine x_aload_n (i := 0) (o := some m) dX10_eatsAll_31 rfl rfl ?_
      refine x_iload_n (i := 1) (x := L) dX10_eatsAll_32 rfl rfl ?_
      refine x_ldc (v := 999999999) dX10_eatsAll_33 kX10_eatsAll_113 ?_
      by_cases hc2 : q_n C L 999999999 (a + 1)
      · skip
        have hc2b := hr.N.n hc2
        refine x_callV (a := m) (av := [x_i L, x_i 999999999]) (rest := []) (r := (some (x_i 1))) (h1 := m_A h m (a + 2)) dX10_eatsAll_35 sX10_eatsAll_105 (mPk_0 hr.1) rfl rfl (Nat.le_of_ble_eq_true rfl) hle (e_eatsNumber_t G hr (a := a + 1) (by omega) hc2) ?_
        show x_E _ _ _ _ 38 _ [x_i 1] _
        refine x_if_eq (tgt := 45) dX10_eatsAll_38 (by decide) (fun c => absurd c (by decide)) (fun _ => ?_)
        refine x_iconst (v := 1) dX10_eatsAll_41 (by decide) ?_
        refine x_goto (tgt := 46) dX10_eatsAll_42 (by decide) ?_
        refine x_istore_n (i := 3) (lv' := [(0, x_r (some m)), (1, x_i L), (2, x_i (nI ru)), (3, x_i 1)]) dX10_eatsAll_46 rfl (by decide) rfl ?_
        refine x_iload_n (i := 3) (x := 1) dX10_eatsAll_47 rfl rfl ?_
        refine x_if_eq (tgt := 77) dX10_eatsAll_48 (by decide) (fun c => absurd c (by decide)) (fun _ => ?_)
        refine x_aload_n (i := 0) (o := some m) dX10_eatsAll_51 rfl rfl ?_
        refine x_getRv (v := some (m + 1)) dX10_eatsAll_52 fX10_eatsAll_7 (i := 1000) rfl rfl (mPk_0 hr.1) (mPr_1000 hr.1) ?_
        refine x_aload_n (i := 0) (o := some m) dX10_eatsAll_55 rfl rfl ?_
        refine x_getRv (v := some (m + 5)) dX10_eatsAll_56 fX10_eatsAll_23 (i := 1006) rfl rfl (mPk_0 hr.1) (mPr_1006 hr.1) ?_
        refine x_aload_n (i := 0) (o := some m) dX10_eatsAll_59 rfl rfl ?_
        refine x_getRv (v := some (m + 6)) dX10_eatsAll_60 fX10_eatsAll_26 (i := 1007) rfl rfl (mPk_0 hr.1) (mPr_1007 hr.1) ?_
        refine x_aload_n (i := 0) (o := some m) dX10_eatsAll_63 rfl rfl ?_
        refine x_getIv (v := nI (a + 2)) dX10_eatsAll_64 fX10_eatsAll_83 (i := 1025) rfl rfl (mPk_0 hr.1) (m_A_at h m _) ?_
        refine x_iconst (v := 1) dX10_eatsAll_67 (by decide) ?_
        refine x_isub dX10_eatsAll_68 ?_
        rw [show (nI (a + 2)) - 1 = nI (a + 1) from pk_sub (b := 1) (by omega)]
        refine x_callS (av := [x_r (some (m + 1)), x_r (some (m + 5)), x_r (some (m + 6)), x_i (nI (a + 1))]) (rest := []) (r := (some (x_i (C (a + 1))))) (h1 := m_A h m (a + 2)) dX10_eatsAll_69 sX10_eatsAll_94 rfl rfl (Nat.le_of_ble_eq_true rfl) hle (m_num G hr (by omega) hc2.1) ?_
        show x_E _ _ _ _ 72 _ [x_i (C (a + 1))] _
        refine x_iconst (v := 1) dX10_eatsAll_72 (by decide) ?_
        refine x_iadd dX10_eatsAll_73 ?_
        refine x_goto (tgt := 78) dX10_eatsAll_74 (by decide) ?_
        refine x_istore_n (i := 1) (lv' := [(0, x_r (some m)), (1, x_i ((C (a + 1)) + 1)), (2, x_i (nI ru)), (3, x_i 1)]) dX10_eatsAll_78 rfl (by decide) rfl ?_
        simp only [q_all, if_neg q18, if_pos hc1, if_pos hc2]
        exact ih (a + 2) (ed + 1) ru (C (a + 1) + 1) (by omega) (by omega) (by omega) (by omega)
      · skip
        refine x_callV (a := m) (av := [x_i L, x_i 999999999]) (rest := []) (r := (some (x_i 0))) (h1 := m_A h m (a + 1)) dX10_eatsAll_35 sX10_eatsAll_105 (mPk_0 hr.1) rfl rfl (Nat.le_of_ble_eq_true rfl) hle (e_eatsNumber_f G hr (a := a + 1) (by omega) hc2) ?_
        show x_E _ _ _ _ 38 _ [x_i 0] _
        refine x_if_eq (tgt := 45) dX10_eatsAll_38 (by decide) (fun _ => ?_) (fun c => absurd (by decide) c)
        refine x_iconst (v := 0) dX10_eatsAll_45 (by decide) ?_
        refine x_istore_n (i := 3) (lv' := [(0, x_r (some m)), (1, x_i L), (2, x_i (nI ru)), (3, x_i 0)]) dX10_eatsAll_46 rfl (by decide) rfl ?_
        refine x_iload_n (i := 3) (x := 0) dX10_eatsAll_47 rfl rfl ?_
        refine x_if_eq (tgt := 77) dX10_eatsAll_48 (by decide) (fun _ => ?_) (fun c => absurd (by decide) c)
        refine x_iconst (v := 0) dX10_eatsAll_77 (by decide) ?_
        refine x_istore_n (i := 1) (lv' := [(0, x_r (some m)), (1, x_i 0), (2, x_i (nI ru)), (3, x_i 0)]) dX10_eatsAll_78 rfl (by decide) rfl ?_
        refine x_iload_n (i := 3) (x := 0) dX10_eatsAll_79 rfl rfl ?_
        refine x_if_eq (tgt := 6) dX10_eatsAll_80 (by decide) (fun _ => ?_) (fun c => absurd (by decide) c)
        refine x_iload_n (i := 3) (x := 0) dX10_eatsAll_6 rfl rfl ?_
        refine x_if_eq (tgt := 118) dX10_eatsAll_7 (by decide) (fun _ => ?_) (fun c => absurd (by decide) c)
        refine x_iload_n (i := 3) (x := 0) dX10_eatsAll_118 rfl rfl ?_
        refine x_ireturn dX10_eatsAll_119 rfl (rfl) hle ?_
        exact ⟨by simp only [q_all, if_neg q18, if_pos hc1, if_neg hc2, reduceIte, Bool.false_eq_true], by simp only [q_all, if_neg q18, if_pos hc1, if_neg hc2]⟩
    · skip
      refine x_callV (a := m) (av := [x_l 6013742957]) (rest := []) (r := (some (x_i 0))) (h1 := m_A h m a) dX10_eatsAll_25 sX10_eatsAll_100 (mPk_0 hr.1) rfl rfl (Nat.le_of_ble_eq_true rfl) hle (e_eats_f G hr (a := a) (by omega) z_K_from hc1) ?_
      show x_E _ _ _ _ 28 _ [x_i 0] _
      refine x_if_eq (tgt := 45) dX10_eatsAll_28 (by decide) (fun _ => ?_) (fun c => absurd (by decide) c)
      refine x_iconst (v := 0) dX10_eatsAll_45 (by decide) ?_
      refine x_istore_n (i := 3) (lv' := [(0, x_r (some m)), (1, x_i L), (2, x_i (nI ru)), (3, x_i 0)]) dX10_eatsAll_46 rfl (by decide) rfl ?_
      refine x_iload_n (i := 3) (x := 0) dX10_eatsAll_47 rfl rfl ?_
      refine x_if_eq (tgt := 77) dX10_eatsAll_48 (by decide) (fun _ => ?_) (fun c => absurd (by decide) c)
      refine x_iconst (v := 0) dX10_eatsAll_77 (by decide) ?_
      refine x_istore_n (i := 1) (lv' := [(0, x_r (some m)), (1, x_i 0), (2, x_i (nI ru)), (3, x_i 0)]) dX10_eatsAll_78 rfl (by decide) rfl ?_
      refine x_iload_n (i := 3) (x := 0) dX10_eatsAll_79 rfl rfl ?_
      refine x_if_eq (tgt := 6) dX10_eatsAll_80 (by decide) (fun _ => ?_) (fun c => absurd (by decide) c)
      refine x_iload_n (i := 3) (x := 0) dX10_eatsAll_6 rfl rfl ?_
      refine x_if_eq (tgt := 118) dX10_eatsAll_7 (by decide) (fun _ => ?_) (fun c => absurd (by decide) c)
      refine x_iload_n (i := 3) (x := 0) dX10_eatsAll_118 rfl rfl ?_
      refine x_ireturn dX10_eatsAll_119 rfl (rfl) hle ?_
      rw [l_notFrom C F l.length f a ed ru L q18 hc1 hx]
      exact ⟨rfl, rfl⟩
theorem l_class (C : Nat → Int32) (F n f a ed ru : Nat) (L : Int32) (h1 : C a = -3) (h2 : a < n) (h3 : 0 < ed) (h4 : ¬ 60 ≤ ru) : q_all C F n (f + 1) a ed ru L = match q_rule C F a with
    | (false, b) => (false, b)
    | (true, b) => q_all C F n f b ed (ru + 1) L := by
  show (if n ≤ a then _ else if C a = -2 then _ else if ed = 0 then _ else if 60 ≤ ru then _ else _) = _
  rw [if_neg (by omega), if_neg (by rw [h1]; decide), if_neg (by omega), if_neg h4]
  rfl
theorem l_class60 (C : Nat → Int32) (F n f a ed ru : Nat) (L : Int32) (h1 : C a = -3) (h2 : a < n) (h3 : 0 < ed) (h4 : 60 ≤ ru) : q_all C F n (f + 1) a ed ru L = (false, a) := by
  show (if n ≤ a then _ else if C a = -2 then _ else if ed = 0 then _ else if 60 ≤ ru then _ else _) = _
  rw [if_neg (by omega), if_neg (by rw [h1]; decide), if_neg (by omega), if_pos h4]
set_option maxHeartbeats 4000000 in
set_option maxRecDepth 100000 in
theorem l_eatsAll (G : x_G) {h : x_H} {m : Nat} {l : List (Nat × Nat)} {C : Nat → Int32} (hr : m_R h m l C)  {F : Nat} (hF : l.length < F) (h0 : x_H) (hz : x_sz h0 = x_sz h ∧ x_us h0 = x_us h) : ∀ (f a ed ru : Nat) (L : Int32), a ≤ l.length → l.length - a < f → 0 < ed → ru ≤ 60 → x_E G mX10_eatsAll (x_D G mX10_eatsAll h0 (fun r h1 => r = some (x_i (if (q_all C F l.length f a ed ru L).1 = true then 1 else 0)) ∧ h1 = m_A h m (q_all C F l.length f a ed ru L).2)) h0 79 [(0, x_r (some m)), (1, x_i L), (2, x_i (nI ru)), (3, x_i 1)] [] (m_A h m a) := by
  have hll := hr.ll
  have hle : x_sz h0 ≤ x_sz h ∧ x_us h0 ≤ x_us h := ⟨Nat.le_of_eq hz.1, Nat.le_of_eq hz.2⟩
  intro f
  induction f with
  | zero => intro a ed ru L ha hf hed hru; omega
  | succ f ih =>
    intro a ed ru L ha hf hed hru
    refine x_iload_n (i := 3) (x := 1) dX10_eatsAll_79 rfl rfl ?_
    refine x_if_eq (tgt := 6) dX10_eatsAll_80 (by decide) (fun c => absurd c (by decide)) (fun _ => ?_)
    refine x_aload_n (i := 0) (o := some m) dX10_eatsAll_83 rfl rfl ?_
    refine x_ldc2 (v := 1526531715955) dX10_eatsAll_84 kX10_eatsAll_137 ?_
    by_cases hc3 : C a = -3
    · skip
      have hc3b := hr.N.c hc3 (by decide)
      refine x_callV (a := m) (av := [x_l 1526531715955]) (rest := []) (r := (some (x_i 1))) (h1 := m_A h m a) dX10_eatsAll_87 sX10_eatsAll_90 (mPk_0 hr.1) rfl rfl (Nat.le_of_ble_eq_true rfl) hle (e_sees_t G hr (a := a) (by omega) z_K_class hc3) ?_
      show x_E _ _ _ _ 90 _ [x_i 1] _
      refine x_if_eq (tgt := 6) dX10_eatsAll_90 (by decide) (fun c => absurd c (by decide)) (fun _ => ?_)
      refine x_iload_n (i := 2) (x := nI ru) dX10_eatsAll_93 rfl rfl ?_
      refine x_bipush (v := 60) dX10_eatsAll_94 (by decide) ?_
      refine x_icmp_ge (tgt := 110) dX10_eatsAll_96 (by decide) (fun c96 => ?_) (fun c96 => ?_)
      · skip
        have q96 := (nI_leI (a := 60) (by omega) (by omega)).mp c96
        refine x_iconst (v := 0) dX10_eatsAll_110 (by decide) ?_
        refine x_istore_n (i := 3) (lv' := [(0, x_r (some m)), (1, x_i L), (2, x_i (nI ru)), (3, x_i 0)]) dX10_eatsAll_111 rfl (by decide) rfl ?_
        refine x_iinc (i := 2) (x := nI ru) (v := nI (ru + 1)) (lv' := [(0, x_r (some m)), (1, x_i L), (2, x_i (nI (ru + 1))), (3, x_i 0)]) dX10_eatsAll_112 rfl (nI_1 ru) (by decide) rfl ?_
        refine x_goto (tgt := 79) dX10_eatsAll_115 (by decide) ?_
        refine x_iload_n (i := 3) (x := 0) dX10_eatsAll_79 rfl rfl ?_
        refine x_if_eq (tgt := 6) dX10_eatsAll_80 (by decide) (fun _ => ?_) (fun c => absurd (by decide) c)
        refine x_iload_n (i := 3) (x := 0) dX10_eatsAll_6 rfl rfl ?_
        refine x_if_eq (tgt := 118) dX10_eatsAll_7 (by decide) (fun _ => ?_) (fun c => absurd (by decide) c)
        refine x_iload_n (i := 3) (x := 0) dX10_eatsAll_118 rfl rfl ?_
        refine x_ireturn dX10_eatsAll_119 rfl (rfl) hle ?_
        rw [l_class60 C F l.length f a ed ru L hc3 hc3b hed q96]
        exact ⟨rfl, rfl⟩
      · skip
        have q96 : ¬ 60 ≤ ru := fun z => c96 (nI_le (a := 60) z (by omega))
        refine x_aload_n (i := 0) (o := some m) dX10_eatsAll_99 rfl rfl ?_
        rcases hq5 : q_rule C F a with ⟨_ | _, b4⟩
        · skip
          have hq5b := q_rule_st (F := F) hr.N (a := a) (by omega)
          rw [hq5] at hq5b
          obtain ⟨hq5c, hq5d, hq5e⟩ := hq5b
          dsimp only at hq5c hq5d
          refine x_callV (a := m) (av := []) (rest := []) (r := (some (x_i 0))) (h1 := m_A h m b4) dX10_eatsAll_100 sX10_eatsAll_150 (mPk_0 hr.1) rfl rfl (Nat.le_of_ble_eq_true rfl) hle (e_eatsRule G hr (a := a) (by omega) (F := F) hF hq5) ?_
          show x_E _ _ _ _ 103 _ [x_i 0] _
          refine x_if_eq (tgt := 110) dX10_eatsAll_103 (by decide) (fun _ => ?_) (fun c => absurd (by decide) c)
          refine x_iconst (v := 0) dX10_eatsAll_110 (by decide) ?_
          refine x_istore_n (i := 3) (lv' := [(0, x_r (some m)), (1, x_i L), (2, x_i (nI ru)), (3, x_i 0)]) dX10_eatsAll_111 rfl (by decide) rfl ?_
          refine x_iinc (i := 2) (x := nI ru) (v := nI (ru + 1)) (lv' := [(0, x_r (some m)), (1, x_i L), (2, x_i (nI (ru + 1))), (3, x_i 0)]) dX10_eatsAll_112 rfl (nI_1 ru) (by decide) rfl ?_
          refine x_goto (tgt := 79) dX10_eatsAll_115 (by decide) ?_
          refine x_iload_n (i := 3) (x := 0) dX10_eatsAll_79 rfl rfl ?_
          refine x_if_eq (tgt := 6) dX10_eatsAll_80 (by decide) (fun _ => ?_) (fun c => absurd (by decide) c)
          refine x_iload_n (i := 3) (x := 0) dX10_eatsAll_6 rfl rfl ?_
          refine x_if_eq (tgt := 118) dX10_eatsAll_7 (by decide) (fun _ => ?_) (fun c => absurd (by decide) c)
          refine x_iload_n (i := 3) (x := 0) dX10_eatsAll_118 rfl rfl ?_
          refine x_ireturn dX10_eatsAll_119 rfl (rfl) hle ?_
          rw [l_class C F l.length f a ed ru L hc3 hc3b hed q96]
          rw [hq5]
          exact ⟨rfl, rfl⟩
        · skip
          have hq5b := q_rule_st (F := F) hr.N (a := a) (by omega)
          rw [hq5] at hq5b
          obtain ⟨hq5c, hq5d, hq5e⟩ := hq5b
          have hq5e := hq5e rfl
          dsimp only at hq5c hq5d hq5e
          refine x_callV (a := m) (av := []) (rest := []) (r := (some (x_i 1))) (h1 := m_A h m b4) dX10_eatsAll_100 sX10_eatsAll_150 (mPk_0 hr.1) rfl rfl (Nat.le_of_ble_eq_true rfl) hle (e_eatsRule G hr (a := a) (by omega) (F := F) hF hq5) ?_
          show x_E _ _ _ _ 103 _ [x_i 1] _
          refine x_if_eq (tgt := 110) dX10_eatsAll_103 (by decide) (fun c => absurd c (by decide)) (fun _ => ?_)
          refine x_iconst (v := 1) dX10_eatsAll_106 (by decide) ?_
          refine x_goto (tgt := 111) dX10_eatsAll_107 (by decide) ?_
          refine x_istore_n (i := 3) (lv' := [(0, x_r (some m)), (1, x_i L), (2, x_i (nI ru)), (3, x_i 1)]) dX10_eatsAll_111 rfl (by decide) rfl ?_
          refine x_iinc (i := 2) (x := nI ru) (v := nI (ru + 1)) (lv' := [(0, x_r (some m)), (1, x_i L), (2, x_i (nI (ru + 1))), (3, x_i 1)]) dX10_eatsAll_112 rfl (nI_1 ru) (by decide) rfl ?_
          refine x_goto (tgt := 79) dX10_eatsAll_115 (by decide) ?_
          rw [l_class C F l.length f a ed ru L hc3 hc3b hed q96]
          simp only [hq5]
          exact ih b4 ed (ru + 1) L (by omega) (by omega) hed (by omega)
    · skip
      refine x_callV (a := m) (av := [x_l 1526531715955]) (rest := []) (r := (some (x_i 0))) (h1 := m_A h m a) dX10_eatsAll_87 sX10_eatsAll_90 (mPk_0 hr.1) rfl rfl (Nat.le_of_ble_eq_true rfl) hle (e_sees_f G hr (a := a) (by omega) z_K_class hc3) ?_
      show x_E _ _ _ _ 90 _ [x_i 0] _
      refine x_if_eq (tgt := 6) dX10_eatsAll_90 (by decide) (fun _ => ?_) (fun c => absurd (by decide) c)
      exact l_eatsAll_6 G hr hF h0 hz f ih a ed ru L ha hf hru (Or.inr hc3)
set_option maxHeartbeats 4000000 in
set_option maxRecDepth 100000 in
theorem c_eatsAll (G : x_G) {h : x_H} {m : Nat} {l : List (Nat × Nat)} {C : Nat → Int32} (hr : m_R h m l C)  {F : Nat} (hF : l.length < F) : x_Call G mX10_eatsAll (m_A h m 0) [x_r (some m)] (some (x_i (if (q_all C F l.length (l.length + 1) 0 0 0 0).1 = true then 1 else 0))) (m_A h m (q_all C F l.length (l.length + 1) 0 0 0 0).2) := by
  have hll := hr.ll
  refine x_Ex.call (x_enter mwX10_eatsAll (Nat.le_of_ble_eq_true rfl) ?_)
  show x_E _ _ _ _ _ [(0, x_r (some m))] _ _
  refine x_iconst (v := 0) dX10_eatsAll_0 (by decide) ?_
  refine x_istore_n (i := 1) (lv' := [(0, x_r (some m)), (1, x_i 0)]) dX10_eatsAll_1 rfl (by decide) rfl ?_
  refine x_iconst (v := 0) dX10_eatsAll_2 (by decide) ?_
  refine x_istore_n (i := 2) (lv' := [(0, x_r (some m)), (1, x_i 0), (2, x_i 0)]) dX10_eatsAll_3 rfl (by decide) rfl ?_
  refine x_iconst (v := 1) dX10_eatsAll_4 (by decide) ?_
  refine x_istore_n (i := 3) (lv' := [(0, x_r (some m)), (1, x_i 0), (2, x_i 0), (3, x_i 1)]) dX10_eatsAll_5 rfl (by decide) rfl ?_
  exact l_eatsAll_6 G hr hF (m_A h m 0) ⟨rfl, rfl⟩ l.length (l_eatsAll G hr hF (m_A h m 0) ⟨rfl, rfl⟩ l.length) 0 0 0 0 (Nat.zero_le _) (by omega) (by omega) (Or.inl rfl)
