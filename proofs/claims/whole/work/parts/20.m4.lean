/-! THE REFERENCE: its readers -/
def m_R (h : x_H) (m : Nat) (l : List (Nat × Nat)) (C : Nat → Int32) : Prop := mP h m ∧ m_W h (m + 1) (m + 5) (m + 6) l ∧ x_fi h 1008 m = nI l.length ∧ C = m_C (x_rw h (m + 1)) l
theorem m_R.N {h : x_H} {m : Nat} {l : List (Nat × Nat)} {C : Nat → Int32} (hr : m_R h m l C) : q_N C l.length := by
  intro k hk
  rw [hr.2.2.2]
  exact m_C_out hk
theorem m_R.ll {h : x_H} {m : Nat} {l : List (Nat × Nat)} {C : Nat → Int32} (hr : m_R h m l C) : l.length ≤ 1500 := hr.2.1.2.1
theorem e_sees_t (G : x_G) {h : x_H} {m : Nat} {l : List (Nat × Nat)} {C : Nat → Int32} (hr : m_R h m l C) {a : Nat} (ha : a ≤ l.length) {K : Int64} {c : Int32} (hK : z_K K c) (hc : C a = c) : x_Call G mX10_sees (m_A h m a) [x_r (some m), x_l K] (some (x_i 1)) (m_A h m a) := by
  have := hr.ll
  exact c_sees_t G hr.1 hr.2.1 hr.2.2.1 (by omega) hK (by rw [← hr.2.2.2]; exact hc)
theorem e_sees_f (G : x_G) {h : x_H} {m : Nat} {l : List (Nat × Nat)} {C : Nat → Int32} (hr : m_R h m l C) {a : Nat} (ha : a ≤ l.length) {K : Int64} {c : Int32} (hK : z_K K c) (hc : ¬ C a = c) : x_Call G mX10_sees (m_A h m a) [x_r (some m), x_l K] (some (x_i 0)) (m_A h m a) := by
  have := hr.ll
  exact c_sees_f G hr.1 hr.2.1 hr.2.2.1 (by omega) hK (by rw [← hr.2.2.2]; exact hc)
theorem e_eats_t (G : x_G) {h : x_H} {m : Nat} {l : List (Nat × Nat)} {C : Nat → Int32} (hr : m_R h m l C) {a : Nat} (ha : a ≤ l.length) {K : Int64} {c : Int32} (hK : z_K K c) (hc : C a = c) : x_Call G mX10_eats (m_A h m a) [x_r (some m), x_l K] (some (x_i 1)) (m_A h m (a + 1)) := by
  have := hr.ll
  exact c_eats_t G hr.1 hr.2.1 hr.2.2.1 (by omega) hK (by rw [← hr.2.2.2]; exact hc)
theorem e_eats_f (G : x_G) {h : x_H} {m : Nat} {l : List (Nat × Nat)} {C : Nat → Int32} (hr : m_R h m l C) {a : Nat} (ha : a ≤ l.length) {K : Int64} {c : Int32} (hK : z_K K c) (hc : ¬ C a = c) : x_Call G mX10_eats (m_A h m a) [x_r (some m), x_l K] (some (x_i 0)) (m_A h m a) := by
  have := hr.ll
  exact c_eats_f G hr.1 hr.2.1 hr.2.2.1 (by omega) hK (by rw [← hr.2.2.2]; exact hc)
theorem e_eatsNumber_t (G : x_G) {h : x_H} {m : Nat} {l : List (Nat × Nat)} {C : Nat → Int32} (hr : m_R h m l C) {a : Nat} (ha : a ≤ l.length) {lo hi : Int32} (hc : q_n C lo hi a) : x_Call G mX10_eatsNumber (m_A h m a) [x_r (some m), x_i lo, x_i hi] (some (x_i 1)) (m_A h m (a + 1)) := by
  have := hr.ll
  rw [hr.2.2.2] at hc
  exact c_eatsNumber_t G hr.1 hr.2.1 hr.2.2.1 (by omega) hc
theorem e_eatsNumber_f (G : x_G) {h : x_H} {m : Nat} {l : List (Nat × Nat)} {C : Nat → Int32} (hr : m_R h m l C) {a : Nat} (ha : a ≤ l.length) {lo hi : Int32} (hc : ¬ q_n C lo hi a) : x_Call G mX10_eatsNumber (m_A h m a) [x_r (some m), x_i lo, x_i hi] (some (x_i 0)) (m_A h m a) := by
  have := hr.ll
  rw [hr.2.2.2] at hc
  exact c_eatsNumber_f G hr.1 hr.2.1 hr.2.2.1 (by omega) hc
set_option maxHeartbeats 4000000 in
set_option maxRecDepth 100000 in
theorem l_eatsTerm (G : x_G) {h : x_H} {m : Nat} {l : List (Nat × Nat)} {C : Nat → Int32} (hr : m_R h m l C) {a : Nat} (ha : a ≤ l.length) (h0 : x_H) (hz : x_sz h0 = x_sz h ∧ x_us h0 = x_us h) (ha1 : a < l.length) : x_E G mX10_eatsTerm (x_D G mX10_eatsTerm h0 (fun r h1 => r = some (x_i (if (q_tm C a).1 = true then 1 else 0)) ∧ h1 = m_A h m (q_tm C a).2)) h0 22 [(0, x_r (some m))] [] (m_A h m (a + 1)) := by
  have hll := hr.ll
  have hle : x_sz h0 ≤ x_sz h ∧ x_us h0 ≤ x_us h := ⟨Nat.le_of_eq hz.1, Nat.le_of_eq hz.2⟩
  refine x_aload_n (i := 0) (o := some m) dX10_eatsTerm_22 rfl rfl ?_
  refine x_iconst (v := 0) dX10_eatsTerm_23 (by decide) ?_
  refine x_sipush (v := 1000) dX10_eatsTerm_24 (by decide) ?_
  by_cases hc1 : q_n C 0 1000 (a + 1)
  · skip
    have hc1b := hr.N.n hc1
    refine x_callV (a := m) (av := [x_i 0, x_i 1000]) (rest := []) (r := (some (x_i 1))) (h1 := m_A h m (a + 2)) dX10_eatsTerm_27 sX10_eatsTerm_105 (mPk_0 hr.1) rfl rfl (Nat.le_of_ble_eq_true rfl) hle (e_eatsNumber_t G hr (a := a + 1) (by omega) hc1) ?_
    show x_E _ _ _ _ 30 _ [x_i 1] _
    refine x_if_eq (tgt := 57) dX10_eatsTerm_30 (by decide) (fun c => absurd c (by decide)) (fun _ => ?_)
    refine x_aload_n (i := 0) (o := some m) dX10_eatsTerm_33 rfl rfl ?_
    refine x_ldc2 (v := 94054) dX10_eatsTerm_34 kX10_eatsTerm_109 ?_
    by_cases hc2 : C (a + 2) = -16
    · skip
      have hc2b := hr.N.c hc2 (by decide)
      refine x_callV (a := m) (av := [x_l 94054]) (rest := []) (r := (some (x_i 1))) (h1 := m_A h m (a + 3)) dX10_eatsTerm_37 sX10_eatsTerm_100 (mPk_0 hr.1) rfl rfl (Nat.le_of_ble_eq_true rfl) hle (e_eats_t G hr (a := a + 2) (by omega) z_K_of hc2) ?_
      show x_E _ _ _ _ 40 _ [x_i 1] _
      refine x_if_eq (tgt := 57) dX10_eatsTerm_40 (by decide) (fun c => absurd c (by decide)) (fun _ => ?_)
      refine x_aload_n (i := 0) (o := some m) dX10_eatsTerm_43 rfl rfl ?_
      refine x_iconst (v := 0) dX10_eatsTerm_44 (by decide) ?_
      refine x_bipush (v := 15) dX10_eatsTerm_45 (by decide) ?_
      by_cases hc3 : q_n C 0 15 (a + 3)
      · skip
        have hc3b := hr.N.n hc3
        refine x_callV (a := m) (av := [x_i 0, x_i 15]) (rest := []) (r := (some (x_i 1))) (h1 := m_A h m (a + 4)) dX10_eatsTerm_47 sX10_eatsTerm_105 (mPk_0 hr.1) rfl rfl (Nat.le_of_ble_eq_true rfl) hle (e_eatsNumber_t G hr (a := a + 3) (by omega) hc3) ?_
        show x_E _ _ _ _ 50 _ [x_i 1] _
        refine x_if_eq (tgt := 57) dX10_eatsTerm_50 (by decide) (fun c => absurd c (by decide)) (fun _ => ?_)
        refine x_iconst (v := 1) dX10_eatsTerm_53 (by decide) ?_
        refine x_goto (tgt := 58) dX10_eatsTerm_54 (by decide) ?_
        refine x_istore_n (i := 1) (lv' := [(0, x_r (some m)), (1, x_i 1)]) dX10_eatsTerm_58 rfl (by decide) rfl ?_
        refine x_iload_n (i := 1) (x := 1) dX10_eatsTerm_59 rfl rfl ?_
        refine x_if_eq (tgt := 81) dX10_eatsTerm_60 (by decide) (fun c => absurd c (by decide)) (fun _ => ?_)
        refine x_aload_n (i := 0) (o := some m) dX10_eatsTerm_63 rfl rfl ?_
        refine x_ldc2 (v := 23295348) dX10_eatsTerm_64 kX10_eatsTerm_111 ?_
        by_cases hc4 : C (a + 4) = -17
        · skip
          have hc4b := hr.N.c hc4 (by decide)
          refine x_callV (a := m) (av := [x_l 23295348]) (rest := []) (r := (some (x_i 1))) (h1 := m_A h m (a + 5)) dX10_eatsTerm_67 sX10_eatsTerm_100 (mPk_0 hr.1) rfl rfl (Nat.le_of_ble_eq_true rfl) hle (e_eats_t G hr (a := a + 4) (by omega) z_K_cut hc4) ?_
          show x_E _ _ _ _ 70 _ [x_i 1] _
          refine x_if_eq (tgt := 81) dX10_eatsTerm_70 (by decide) (fun c => absurd c (by decide)) (fun _ => ?_)
          refine x_aload_n (i := 0) (o := some m) dX10_eatsTerm_73 rfl rfl ?_
          refine x_iconst (v := 0) dX10_eatsTerm_74 (by decide) ?_
          refine x_ldc (v := 999999999) dX10_eatsTerm_75 kX10_eatsTerm_113 ?_
          by_cases hc5 : q_n C 0 999999999 (a + 5)
          · skip
            have hc5b := hr.N.n hc5
            refine x_callV (a := m) (av := [x_i 0, x_i 999999999]) (rest := []) (r := (some (x_i 1))) (h1 := m_A h m (a + 6)) dX10_eatsTerm_77 sX10_eatsTerm_105 (mPk_0 hr.1) rfl rfl (Nat.le_of_ble_eq_true rfl) hle (e_eatsNumber_t G hr (a := a + 5) (by omega) hc5) ?_
            show x_E _ _ _ _ 80 _ [x_i 1] _
            refine x_istore_n (i := 1) (lv' := [(0, x_r (some m)), (1, x_i 1)]) dX10_eatsTerm_80 rfl (by decide) rfl ?_
            refine x_iload_n (i := 1) (x := 1) dX10_eatsTerm_81 rfl rfl ?_
            refine x_if_eq (tgt := 104) dX10_eatsTerm_82 (by decide) (fun c => absurd c (by decide)) (fun _ => ?_)
            refine x_aload_n (i := 0) (o := some m) dX10_eatsTerm_85 rfl rfl ?_
            refine x_ldc2 (v := 90745) dX10_eatsTerm_86 kX10_eatsTerm_114 ?_
            by_cases hc6 : C (a + 6) = -18
            · skip
              have hc6b := hr.N.c hc6 (by decide)
              refine x_callV (a := m) (av := [x_l 90745]) (rest := []) (r := (some (x_i 1))) (h1 := m_A h m (a + 7)) dX10_eatsTerm_89 sX10_eatsTerm_100 (mPk_0 hr.1) rfl rfl (Nat.le_of_ble_eq_true rfl) hle (e_eats_t G hr (a := a + 6) (by omega) z_K_by hc6) ?_
              show x_E _ _ _ _ 92 _ [x_i 1] _
              refine x_if_eq (tgt := 104) dX10_eatsTerm_92 (by decide) (fun c => absurd c (by decide)) (fun _ => ?_)
              refine x_aload_n (i := 0) (o := some m) dX10_eatsTerm_95 rfl rfl ?_
              refine x_iconst (v := 0) dX10_eatsTerm_96 (by decide) ?_
              refine x_sipush (v := 999) dX10_eatsTerm_97 (by decide) ?_
              by_cases hc7 : q_n C 0 999 (a + 7)
              · skip
                have hc7b := hr.N.n hc7
                refine x_callV (a := m) (av := [x_i 0, x_i 999]) (rest := []) (r := (some (x_i 1))) (h1 := m_A h m (a + 8)) dX10_eatsTerm_100 sX10_eatsTerm_105 (mPk_0 hr.1) rfl rfl (Nat.le_of_ble_eq_true rfl) hle (e_eatsNumber_t G hr (a := a + 7) (by omega) hc7) ?_
                show x_E _ _ _ _ 103 _ [x_i 1] _
                refine x_istore_n (i := 1) (lv' := [(0, x_r (some m)), (1, x_i 1)]) dX10_eatsTerm_103 rfl (by decide) rfl ?_
                refine x_iload_n (i := 1) (x := 1) dX10_eatsTerm_104 rfl rfl ?_
                refine x_ireturn dX10_eatsTerm_105 rfl (rfl) hle ?_
                exact ⟨by simp only [q_tm, q_cut, q_by, if_pos hc1, if_pos hc2, if_pos hc3, if_pos hc4, if_pos hc5, if_pos hc6, if_pos hc7, reduceIte, Bool.false_eq_true], by simp only [q_tm, q_cut, q_by, if_pos hc1, if_pos hc2, if_pos hc3, if_pos hc4, if_pos hc5, if_pos hc6, if_pos hc7]⟩
              · skip
                refine x_callV (a := m) (av := [x_i 0, x_i 999]) (rest := []) (r := (some (x_i 0))) (h1 := m_A h m (a + 7)) dX10_eatsTerm_100 sX10_eatsTerm_105 (mPk_0 hr.1) rfl rfl (Nat.le_of_ble_eq_true rfl) hle (e_eatsNumber_f G hr (a := a + 7) (by omega) hc7) ?_
                show x_E _ _ _ _ 103 _ [x_i 0] _
                refine x_istore_n (i := 1) (lv' := [(0, x_r (some m)), (1, x_i 0)]) dX10_eatsTerm_103 rfl (by decide) rfl ?_
                refine x_iload_n (i := 1) (x := 0) dX10_eatsTerm_104 rfl rfl ?_
                refine x_ireturn dX10_eatsTerm_105 rfl (rfl) hle ?_
                exact ⟨by simp only [q_tm, q_cut, q_by, if_pos hc1, if_pos hc2, if_pos hc3, if_pos hc4, if_pos hc5, if_pos hc6, if_neg hc7, reduceIte, Bool.false_eq_true], by simp only [q_tm, q_cut, q_by, if_pos hc1, if_pos hc2, if_pos hc3, if_pos hc4, if_pos hc5, if_pos hc6, if_neg hc7]⟩
            · skip
              refine x_callV (a := m) (av := [x_l 90745]) (rest := []) (r := (some (x_i 0))) (h1 := m_A h m (a + 6)) dX10_eatsTerm_89 sX10_eatsTerm_100 (mPk_0 hr.1) rfl rfl (Nat.le_of_ble_eq_true rfl) hle (e_eats_f G hr (a := a + 6) (by omega) z_K_by hc6) ?_
              show x_E _ _ _ _ 92 _ [x_i 0] _
              refine x_if_eq (tgt := 104) dX10_eatsTerm_92 (by decide) (fun _ => ?_) (fun c => absurd (by decide) c)
              refine x_iload_n (i := 1) (x := 1) dX10_eatsTerm_104 rfl rfl ?_
              refine x_ireturn dX10_eatsTerm_105 rfl (rfl) hle ?_
              exact ⟨by simp only [q_tm, q_cut, q_by, if_pos hc1, if_pos hc2, if_pos hc3, if_pos hc4, if_pos hc5, if_neg hc6, reduceIte, Bool.false_eq_true], by simp only [q_tm, q_cut, q_by, if_pos hc1, if_pos hc2, if_pos hc3, if_pos hc4, if_pos hc5, if_neg hc6]⟩
          · skip
            refine x_callV (a := m) (av := [x_i 0, x_i 999999999]) (rest := []) (r := (some (x_i 0))) (h1 := m_A h m (a + 5)) dX10_eatsTerm_77 sX10_eatsTerm_105 (mPk_0 hr.1) rfl rfl (Nat.le_of_ble_eq_true rfl) hle (e_eatsNumber_f G hr (a := a + 5) (by omega) hc5) ?_
            show x_E _ _ _ _ 80 _ [x_i 0] _
            refine x_istore_n (i := 1) (lv' := [(0, x_r (some m)), (1, x_i 0)]) dX10_eatsTerm_80 rfl (by decide) rfl ?_
            refine x_iload_n (i := 1) (x := 0) dX10_eatsTerm_81 rfl rfl ?_
            refine x_if_eq (tgt := 104) dX10_eatsTerm_82 (by decide) (fun _ => ?_) (fun c => absurd (by decide) c)
            refine x_iload_n (i := 1) (x := 0) dX10_eatsTerm_104 rfl rfl ?_
            refine x_ireturn dX10_eatsTerm_105 rfl (rfl) hle ?_
            exact ⟨by simp only [q_tm, q_cut, q_by, if_pos hc1, if_pos hc2, if_pos hc3, if_pos hc4, if_neg hc5, reduceIte, Bool.false_eq_true], by simp only [q_tm, q_cut, q_by, if_pos hc1, if_pos hc2, if_pos hc3, if_pos hc4, if_neg hc5]⟩
        · skip
          refine x_callV (a := m) (av := [x_l 23295348]) (rest := []) (r := (some (x_i 0))) (h1 := m_A h m (a + 4)) dX10_eatsTerm_67 sX10_eatsTerm_100 (mPk_0 hr.1) rfl rfl (Nat.le_of_ble_eq_true rfl) hle (e_eats_f G hr (a := a + 4) (by omega) z_K_cut hc4) ?_
          show x_E _ _ _ _ 70 _ [x_i 0] _
          refine x_if_eq (tgt := 81) dX10_eatsTerm_70 (by decide) (fun _ => ?_) (fun c => absurd (by decide) c)
          refine x_iload_n (i := 1) (x := 1) dX10_eatsTerm_81 rfl rfl ?_
          refine x_if_eq (tgt := 104) dX10_eatsTerm_82 (by decide) (fun c => absurd c (by decide)) (fun _ => ?_)
          refine x_aload_n (i := 0) (o := some m) dX10_eatsTerm_85 rfl rfl ?_
          refine x_ldc2 (v := 90745) dX10_eatsTerm_86 kX10_eatsTerm_114 ?_
          by_cases hc8 : C (a + 4) = -18
          · skip
            have hc8b := hr.N.c hc8 (by decide)
            refine x_callV (a := m) (av := [x_l 90745]) (rest := []) (r := (some (x_i 1))) (h1 := m_A h m (a + 5)) dX10_eatsTerm_89 sX10_eatsTerm_100 (mPk_0 hr.1) rfl rfl (Nat.le_of_ble_eq_true rfl) hle (e_eats_t G hr (a := a + 4) (by omega) z_K_by hc8) ?_
            show x_E _ _ _ _ 92 _ [x_i 1] _
            refine x_if_eq (tgt := 104) dX10_eatsTerm_92 (by decide) (fun c => absurd c (by decide)) (fun _ => ?_)
            refine x_aload_n (i := 0) (o := some m) dX10_eatsTerm_95 rfl rfl ?_
            refine x_iconst (v := 0) dX10_eatsTerm_96 (by decide) ?_
            refine x_sipush (v := 999) dX10_eatsTerm_97 (by decide) ?_
            by_cases hc9 : q_n C 0 999 (a + 5)
            · skip
              have hc9b := hr.N.n hc9
              refine x_callV (a := m) (av := [x_i 0, x_i 999]) (rest := []) (r := (some (x_i 1))) (h1 := m_A h m (a + 6)) dX10_eatsTerm_100 sX10_eatsTerm_105 (mPk_0 hr.1) rfl rfl (Nat.le_of_ble_eq_true rfl) hle (e_eatsNumber_t G hr (a := a + 5) (by omega) hc9) ?_
              show x_E _ _ _ _ 103 _ [x_i 1] _
              refine x_istore_n (i := 1) (lv' := [(0, x_r (some m)), (1, x_i 1)]) dX10_eatsTerm_103 rfl (by decide) rfl ?_
              refine x_iload_n (i := 1) (x := 1) dX10_eatsTerm_104 rfl rfl ?_
              refine x_ireturn dX10_eatsTerm_105 rfl (rfl) hle ?_
              exact ⟨by simp only [q_tm, q_cut, q_by, if_pos hc1, if_pos hc2, if_pos hc3, if_neg hc4, if_pos hc8, if_pos hc9, reduceIte, Bool.false_eq_true], by simp only [q_tm, q_cut, q_by, if_pos hc1, if_pos hc2, if_pos hc3, if_neg hc4, if_pos hc8, if_pos hc9]⟩
            · skip
              refine x_callV (a := m) (av := [x_i 0, x_i 999]) (rest := []) (r := (some (x_i 0))) (h1 := m_A h m (a + 5)) dX10_eatsTerm_100 sX10_eatsTerm_105 (mPk_0 hr.1) rfl rfl (Nat.le_of_ble_eq_true rfl) hle (e_eatsNumber_f G hr (a := a + 5) (by omega) hc9) ?_
              show x_E _ _ _ _ 103 _ [x_i 0] _
              refine x_istore_n (i := 1) (lv' := [(0, x_r (some m)), (1, x_i 0)]) dX10_eatsTerm_103 rfl (by decide) rfl ?_
              refine x_iload_n (i := 1) (x := 0) dX10_eatsTerm_104 rfl rfl ?_
              refine x_ireturn dX10_eatsTerm_105 rfl (rfl) hle ?_
              exact ⟨by simp only [q_tm, q_cut, q_by, if_pos hc1, if_pos hc2, if_pos hc3, if_neg hc4, if_pos hc8, if_neg hc9, reduceIte, Bool.false_eq_true], by simp only [q_tm, q_cut, q_by, if_pos hc1, if_pos hc2, if_pos hc3, if_neg hc4, if_pos hc8, if_neg hc9]⟩
          · skip
            refine x_callV (a := m) (av := [x_l 90745]) (rest := []) (r := (some (x_i 0))) (h1 := m_A h m (a + 4)) dX10_eatsTerm_89 sX10_eatsTerm_100 (mPk_0 hr.1) rfl rfl (Nat.le_of_ble_eq_true rfl) hle (e_eats_f G hr (a := a + 4) (by omega) z_K_by hc8) ?_
            show x_E _ _ _ _ 92 _ [x_i 0] _
            refine x_if_eq (tgt := 104) dX10_eatsTerm_92 (by decide) (fun _ => ?_) (fun c => absurd (by decide) c)
            refine x_iload_n (i := 1) (x := 1) dX10_eatsTerm_104 rfl rfl ?_
            refine x_ireturn dX10_eatsTerm_105 rfl (rfl) hle ?_
            exact ⟨by simp only [q_tm, q_cut, q_by, if_pos hc1, if_pos hc2, if_pos hc3, if_neg hc4, if_neg hc8, reduceIte, Bool.false_eq_true], by simp only [q_tm, q_cut, q_by, if_pos hc1, if_pos hc2, if_pos hc3, if_neg hc4, if_neg hc8]⟩
      · skip
        refine x_callV (a := m) (av := [x_i 0, x_i 15]) (rest := []) (r := (some (x_i 0))) (h1 := m_A h m (a + 3)) dX10_eatsTerm_47 sX10_eatsTerm_105 (mPk_0 hr.1) rfl rfl (Nat.le_of_ble_eq_true rfl) hle (e_eatsNumber_f G hr (a := a + 3) (by omega) hc3) ?_
        show x_E _ _ _ _ 50 _ [x_i 0] _
        refine x_if_eq (tgt := 57) dX10_eatsTerm_50 (by decide) (fun _ => ?_) (fun c => absurd (by decide) c)
        refine x_iconst (v := 0) dX10_eatsTerm_57 (by decide) ?_
        refine x_istore_n (i := 1) (lv' := [(0, x_r (some m)), (1, x_i 0)]) dX10_eatsTerm_58 rfl (by decide) rfl ?_
        refine x_iload_n (i := 1) (x := 0) dX10_eatsTerm_59 rfl rfl ?_
        refine x_if_eq (tgt := 81) dX10_eatsTerm_60 (by decide) (fun _ => ?_) (fun c => absurd (by decide) c)
        refine x_iload_n (i := 1) (x := 0) dX10_eatsTerm_81 rfl rfl ?_
        refine x_if_eq (tgt := 104) dX10_eatsTerm_82 (by decide) (fun _ => ?_) (fun c => absurd (by decide) c)
        refine x_iload_n (i := 1) (x := 0) dX10_eatsTerm_104 rfl rfl ?_
        refine x_ireturn dX10_eatsTerm_105 rfl (rfl) hle ?_
        exact ⟨by simp only [q_tm, q_cut, q_by, if_pos hc1, if_pos hc2, if_neg hc3, reduceIte, Bool.false_eq_true], by simp only [q_tm, q_cut, q_by, if_pos hc1, if_pos hc2, if_neg hc3]⟩
    · skip
      refine x_callV (a := m) (av := [x_l 94054]) (rest := []) (r := (some (x_i 0))) (h1 := m_A h m (a + 2)) dX10_eatsTerm_37 sX10_eatsTerm_100 (mPk_0 hr.1) rfl rfl (Nat.le_of_ble_eq_true rfl) hle (e_eats_f G hr (a := a + 2) (by omega) z_K_of hc2) ?_
      show x_E _ _ _ _ 40 _ [x_i 0] _
      refine x_if_eq (tgt := 57) dX10_eatsTerm_40 (by decide) (fun _ => ?_) (fun c => absurd (by decide) c)
      refine x_iconst (v := 0) dX10_eatsTerm_57 (by decide) ?_
      refine x_istore_n (i := 1) (lv' := [(0, x_r (some m)), (1, x_i 0)]) dX10_eatsTerm_58 rfl (by decide) rfl ?_
      refine x_iload_n (i := 1) (x := 0) dX10_eatsTerm_59 rfl rfl ?_
      refine x_if_eq (tgt := 81) dX10_eatsTerm_60 (by decide) (fun _ => ?_) (fun c => absurd (by decide) c)
      refine x_iload_n (i := 1) (x := 0) dX10_eatsTerm_81 rfl rfl ?_
      refine x_if_eq (tgt := 104) dX10_eatsTerm_82 (by decide) (fun _ => ?_) (fun c => absurd (by decide) c)
      refine x_iload_n (i := 1) (x := 0) dX10_eatsTerm_104 rfl rfl ?_
      refine x_ireturn dX10_eatsTerm_105 rfl (rfl) hle ?_
      exact ⟨by simp only [q_tm, q_cut, q_by, if_pos hc1, if_neg hc2, reduceIte, Bool.false_eq_true], by simp only [q_tm, q_cut, q_by, if_pos hc1, if_neg hc2]⟩
  · skip
    refine x_callV (a := m) (av := [x_i 0, x_i 1000]) (rest := []) (r := (some (x_i 0))) (h1 := m_A h m (a + 1)) dX10_eatsTerm_27 sX10_eatsTerm_105 (mPk_0 hr.1) rfl rfl (Nat.le_of_ble_eq_true rfl) hle (e_eatsNumber_f G hr (a := a + 1) (by omega) hc1) ?_
    show x_E _ _ _ _ 30 _ [x_i 0] _
    refine x_if_eq (tgt := 57) dX10_eatsTerm_30 (by decide) (fun _ => ?_) (fun c => absurd (by decide) c)
    refine x_iconst (v := 0) dX10_eatsTerm_57 (by decide) ?_
    refine x_istore_n (i := 1) (lv' := [(0, x_r (some m)), (1, x_i 0)]) dX10_eatsTerm_58 rfl (by decide) rfl ?_
    refine x_iload_n (i := 1) (x := 0) dX10_eatsTerm_59 rfl rfl ?_
    refine x_if_eq (tgt := 81) dX10_eatsTerm_60 (by decide) (fun _ => ?_) (fun c => absurd (by decide) c)
    refine x_iload_n (i := 1) (x := 0) dX10_eatsTerm_81 rfl rfl ?_
    refine x_if_eq (tgt := 104) dX10_eatsTerm_82 (by decide) (fun _ => ?_) (fun c => absurd (by decide) c)
    refine x_iload_n (i := 1) (x := 0) dX10_eatsTerm_104 rfl rfl ?_
    refine x_ireturn dX10_eatsTerm_105 rfl (rfl) hle ?_
    exact ⟨by simp only [q_tm, q_cut, q_by, if_neg hc1, reduceIte, Bool.false_eq_true], by simp only [q_tm, q_cut, q_by, if_neg hc1]⟩
set_option maxHeartbeats 4000000 in
set_option maxRecDepth 100000 in
theorem c_eatsTerm (G : x_G) {h : x_H} {m : Nat} {l : List (Nat × Nat)} {C : Nat → Int32} (hr : m_R h m l C) {a : Nat} (ha : a ≤ l.length) : x_Call G mX10_eatsTerm (m_A h m a) [x_r (some m)] (some (x_i (if (q_term C a).1 = true then 1 else 0))) (m_A h m (q_term C a).2) := by
  have hll := hr.ll
  refine x_Ex.call (x_enter mwX10_eatsTerm (Nat.le_of_ble_eq_true rfl) ?_)
  show x_E _ _ _ _ _ [(0, x_r (some m))] _ _
  refine x_aload_n (i := 0) (o := some m) dX10_eatsTerm_0 rfl rfl ?_
  refine x_ldc2 (v := 6181123443) dX10_eatsTerm_1 kX10_eatsTerm_98 ?_
  by_cases hc10 : C a = -14
  · skip
    have hc10b := hr.N.c hc10 (by decide)
    refine x_callV (a := m) (av := [x_l 6181123443]) (rest := []) (r := (some (x_i 1))) (h1 := m_A h m (a + 1)) dX10_eatsTerm_4 sX10_eatsTerm_100 (mPk_0 hr.1) rfl rfl (Nat.le_of_ble_eq_true rfl) ⟨Nat.le_refl _, Nat.le_refl _⟩ (e_eats_t G hr (a := a) (by omega) z_K_plus hc10) ?_
    show x_E _ _ _ _ 7 _ [x_i 1] _
    refine x_if_ne (tgt := 22) dX10_eatsTerm_7 (by decide) (fun _ => ?_) (fun c => absurd c (by decide))
    simp only [q_term, if_pos hc10]
    exact l_eatsTerm G hr ha (m_A h m a) ⟨rfl, rfl⟩ (by omega)
  · skip
    refine x_callV (a := m) (av := [x_l 6181123443]) (rest := []) (r := (some (x_i 0))) (h1 := m_A h m a) dX10_eatsTerm_4 sX10_eatsTerm_100 (mPk_0 hr.1) rfl rfl (Nat.le_of_ble_eq_true rfl) ⟨Nat.le_refl _, Nat.le_refl _⟩ (e_eats_f G hr (a := a) (by omega) z_K_plus hc10) ?_
    show x_E _ _ _ _ 7 _ [x_i 0] _
    refine x_if_ne (tgt := 22) dX10_eatsTerm_7 (by decide) (fun c => absurd c (by decide)) (fun _ => ?_)
    refine x_aload_n (i := 0) (o := some m) dX10_eatsTerm_10 rfl rfl ?_
    refine x_ldc2 (v := 1569431909747) dX10_eatsTerm_11 kX10_eatsTerm_103 ?_
    by_cases hc11 : C a = -15
    · skip
      have hc11b := hr.N.c hc11 (by decide)
      refine x_callV (a := m) (av := [x_l 1569431909747]) (rest := []) (r := (some (x_i 1))) (h1 := m_A h m (a + 1)) dX10_eatsTerm_14 sX10_eatsTerm_100 (mPk_0 hr.1) rfl rfl (Nat.le_of_ble_eq_true rfl) ⟨Nat.le_refl _, Nat.le_refl _⟩ (e_eats_t G hr (a := a) (by omega) z_K_minus hc11) ?_
      show x_E _ _ _ _ 17 _ [x_i 1] _
      refine x_if_ne (tgt := 22) dX10_eatsTerm_17 (by decide) (fun _ => ?_) (fun c => absurd c (by decide))
      simp only [q_term, if_neg hc10, if_pos hc11]
      exact l_eatsTerm G hr ha (m_A h m a) ⟨rfl, rfl⟩ (by omega)
    · skip
      refine x_callV (a := m) (av := [x_l 1569431909747]) (rest := []) (r := (some (x_i 0))) (h1 := m_A h m a) dX10_eatsTerm_14 sX10_eatsTerm_100 (mPk_0 hr.1) rfl rfl (Nat.le_of_ble_eq_true rfl) ⟨Nat.le_refl _, Nat.le_refl _⟩ (e_eats_f G hr (a := a) (by omega) z_K_minus hc11) ?_
      show x_E _ _ _ _ 17 _ [x_i 0] _
      refine x_if_ne (tgt := 22) dX10_eatsTerm_17 (by decide) (fun c => absurd c (by decide)) (fun _ => ?_)
      refine x_iconst (v := 0) dX10_eatsTerm_20 (by decide) ?_
      refine x_ireturn dX10_eatsTerm_21 rfl (rfl) ⟨Nat.le_refl _, Nat.le_refl _⟩ ?_
      exact ⟨by simp only [q_term, if_neg hc10, if_neg hc11, reduceIte, Bool.false_eq_true], by simp only [q_term, if_neg hc10, if_neg hc11]⟩
theorem e_eatsTerm (G : x_G) {h : x_H} {m : Nat} {l : List (Nat × Nat)} {C : Nat → Int32} (hr : m_R h m l C) {a : Nat} (ha : a ≤ l.length) {b : Nat} {g : Bool} (hq : q_term C a = (g, b)) : x_Call G mX10_eatsTerm (m_A h m a) [x_r (some m)] (some (x_i (if g = true then 1 else 0))) (m_A h m b) := by
  have k := c_eatsTerm G hr ha
  rw [hq] at k
  exact k
