/-! THE REFERENCE: add -/
set_option maxHeartbeats 4000000 in
set_option maxRecDepth 100000 in
theorem l_add01 (G : x_G) {h : x_H} {m : Nat} {l : List (Nat × Nat)} {C : Nat → Int32} (hK : m_K h m l C) {X : z_X} (hX : m_X h m X) (h0 : x_H) (D : Room → x_Z → Prop) (it part : Int32) (high : Bool) (a k : Nat) (t : Int64) (lk : Int32) (hp16 : q_n C 0 15 (a + 3)) (hby : z_lk X C a = -1 → ¬ (z_bq C a).toInt64 = 0) (kx : x_E G mX10_add D h0 15 [(0, x_r (some m)), (1, x_i it), (2, x_i (if high = true then 1 else 0)), (3, x_i part), (4, x_i (nI k))] [] (m_L h m (if z_lk X C a = -1 then t + z_sh X C high part a else t) (if lk = -1 then z_lk X C a else lk))) : x_E G mX10_add D h0 161 [(0, x_r (some m)), (1, x_i it), (2, x_i (if high = true then 1 else 0)), (3, x_i part), (4, x_i (nI k)), (5, x_i (if z_mi C a = true then 1 else 0)), (6, x_i (C (a + 1))), (7, x_i (nI (z_pt C a))), (8, x_i (z_cu C a)), (9, x_i (z_bq C a)), (10, x_i (z_lk X C a))] [] (m_L h m t lk) := by
  refine x_aload_n (i := 0) (o := some m) dX10_add_161 rfl rfl ?_
  refine x_aload_n (i := 0) (o := some m) dX10_add_162 rfl rfl ?_
  refine x_getIv (v := lk) dX10_add_163 fX10_add_188 (i := 1027) rfl rfl (mPk_0 hK.1) (m_L_lk h m t lk) ?_
  refine x_iconst (v := (-1)) dX10_add_166 (by decide) ?_
  refine x_icmp_ne (tgt := 175) dX10_add_167 (by decide) (fun c167 => ?_) (fun c167 => ?_)
  · skip
    rw [show (if lk = -1 then z_lk X C a else lk) = lk from if_neg c167] at kx
    refine x_aload_n (i := 0) (o := some m) dX10_add_175 rfl rfl ?_
    refine x_getIv (v := lk) dX10_add_176 fX10_add_188 (i := 1027) rfl rfl (mPk_0 hK.1) (m_L_lk h m t lk) ?_
    refine x_putI (i := 1027) dX10_add_179 pX10_add_188 rfl rfl (mPk_0 hK.1) (rfl) (by rfl) ?_
    rw [show x_sI (m_L h m t lk) 1027 m lk = m_L h m t lk from m_L_I h m t lk _]
    exact l_add1 G hK hX h0 D it part high a k t _ hp16 hby kx
  · skip
    rw [show (if lk = -1 then z_lk X C a else lk) = z_lk X C a from if_pos c167] at kx
    refine x_iload (i := 10) (x := z_lk X C a) dX10_add_170 rfl ?_
    refine x_goto (tgt := 179) dX10_add_172 (by decide) ?_
    refine x_putI (i := 1027) dX10_add_179 pX10_add_188 rfl rfl (mPk_0 hK.1) (rfl) (by rfl) ?_
    rw [show x_sI (m_L h m t lk) 1027 m (z_lk X C a) = m_L h m t (z_lk X C a) from m_L_I h m t lk _]
    exact l_add1 G hK hX h0 D it part high a k t _ hp16 hby kx
set_option maxHeartbeats 4000000 in
set_option maxRecDepth 100000 in
theorem l_add0 (G : x_G) {h : x_H} {m : Nat} {l : List (Nat × Nat)} {C : Nat → Int32} (hK : m_K h m l C) {X : z_X} (hX : m_X h m X) (h0 : x_H) (D : Room → x_Z → Prop) (it part : Int32) (high : Bool) (a k : Nat) (t : Int64) (lk : Int32) (hp16 : q_n C 0 15 (a + 3)) (hby : z_lk X C a = -1 → ¬ (z_bq C a).toInt64 = 0) (kx : x_E G mX10_add D h0 15 [(0, x_r (some m)), (1, x_i it), (2, x_i (if high = true then 1 else 0)), (3, x_i part), (4, x_i (nI k))] [] (m_L h m (if z_lk X C a = -1 then t + z_sh X C high part a else t) (if lk = -1 then z_lk X C a else lk))) : x_E G mX10_add D h0 129 [(0, x_r (some m)), (1, x_i it), (2, x_i (if high = true then 1 else 0)), (3, x_i part), (4, x_i (nI k)), (5, x_i (if z_mi C a = true then 1 else 0)), (6, x_i (C (a + 1))), (7, x_i (nI (z_pt C a))), (8, x_i (z_cu C a)), (9, x_i (z_bq C a))] [] (m_L h m t lk) := by
  have hp := z_pt_eq hp16
  refine x_aload_n (i := 0) (o := some m) dX10_add_129 rfl rfl ?_
  refine x_getRv (v := some (m + 12)) dX10_add_130 fX10_add_44 (i := 1016) rfl rfl (mPk_0 hK.1) (mPr_1016 hK.1) ?_
  refine x_iload (i := 7) (x := nI (z_pt C a)) dX10_add_133 rfl ?_
  refine x_zaloadN (n := z_pt C a) (v := if X.1 (z_pt C a) = true then 1 else 0) dX10_add_135 (mPk_12 hK.1) (rfl) (by show z_pt C a < x_ln h _; rw [mPl_12 hK.1]; exact hp.2) (by show x_ln h _ < _; rw [mPl_12 hK.1]; omega) ((hX.1 _ hp.2).1) ?_
  refine x_if_ne (tgt := 144) dX10_add_136 (by decide) (fun c136 => ?_) (fun c136 => ?_)
  · skip
    have e0 : X.1 (z_pt C a) = true := by
      by_cases z : X.1 (z_pt C a) = true
      · exact z
      · rw [if_neg z] at c136; exact absurd rfl c136
    refine x_iload (i := 9) (x := z_bq C a) dX10_add_144 rfl ?_
    refine x_if_ne (tgt := 158) dX10_add_146 (by decide) (fun c146 => ?_) (fun c146 => ?_)
    · skip
      have e : (-1) = z_lk X C a := by
        unfold z_lk
        rw [if_neg (by rw [e0]; decide), if_neg c146]
      refine x_iconst (v := (-1)) dX10_add_158 (by decide) ?_
      refine x_istore (i := 10) (lv' := [(0, x_r (some m)), (1, x_i it), (2, x_i (if high = true then 1 else 0)), (3, x_i part), (4, x_i (nI k)), (5, x_i (if z_mi C a = true then 1 else 0)), (6, x_i (C (a + 1))), (7, x_i (nI (z_pt C a))), (8, x_i (z_cu C a)), (9, x_i (z_bq C a)), (10, x_i ((-1)))]) dX10_add_159 (by decide) rfl ?_
      have k9 := l_add01 G hK hX h0 D it part high a k t lk hp16 hby kx
      exact x_E.eq k9 rfl (by rw [e]) rfl rfl
    · skip
      have e : 200 + nI (z_pt C a) = z_lk X C a := by
        unfold z_lk
        rw [if_neg (by rw [e0]; decide), if_pos c146, hp.1]
      refine x_sipush (v := 200) dX10_add_149 (by decide) ?_
      refine x_iload (i := 7) (x := nI (z_pt C a)) dX10_add_152 rfl ?_
      refine x_iadd dX10_add_154 ?_
      refine x_goto (tgt := 159) dX10_add_155 (by decide) ?_
      refine x_istore (i := 10) (lv' := [(0, x_r (some m)), (1, x_i it), (2, x_i (if high = true then 1 else 0)), (3, x_i part), (4, x_i (nI k)), (5, x_i (if z_mi C a = true then 1 else 0)), (6, x_i (C (a + 1))), (7, x_i (nI (z_pt C a))), (8, x_i (z_cu C a)), (9, x_i (z_bq C a)), (10, x_i (200 + (nI (z_pt C a))))]) dX10_add_159 (by decide) rfl ?_
      have k9 := l_add01 G hK hX h0 D it part high a k t lk hp16 hby kx
      exact x_E.eq k9 rfl (by rw [e]) rfl rfl
  · skip
    have e0 : X.1 (z_pt C a) = false := by
      cases z : X.1 (z_pt C a)
      · rfl
      · rw [if_pos z] at c136; exact absurd c136 (by decide)
    have e : nI (z_pt C a) = z_lk X C a := by
      unfold z_lk
      rw [if_pos e0, hp.1]
    refine x_iload (i := 7) (x := nI (z_pt C a)) dX10_add_139 rfl ?_
    refine x_goto (tgt := 159) dX10_add_141 (by decide) ?_
    refine x_istore (i := 10) (lv' := [(0, x_r (some m)), (1, x_i it), (2, x_i (if high = true then 1 else 0)), (3, x_i part), (4, x_i (nI k)), (5, x_i (if z_mi C a = true then 1 else 0)), (6, x_i (C (a + 1))), (7, x_i (nI (z_pt C a))), (8, x_i (z_cu C a)), (9, x_i (z_bq C a)), (10, x_i (nI (z_pt C a)))]) dX10_add_159 (by decide) rfl ?_
    have k9 := l_add01 G hK hX h0 D it part high a k t lk hp16 hby kx
    exact x_E.eq k9 rfl (by rw [e]) rfl rfl
set_option maxHeartbeats 4000000 in
set_option maxRecDepth 100000 in
theorem l_addT (G : x_G) {h : x_H} {m : Nat} {l : List (Nat × Nat)} {C : Nat → Int32} (hK : m_K h m l C) {X : z_X} (hX : m_X h m X) (h0 : x_H) (D : Room → x_Z → Prop) (it part : Int32) (high : Bool) (a : Nat) (t : Int64) (lk : Int32) (hz : x_sz h0 ≤ x_sz h ∧ x_us h0 ≤ x_us h) (ha : a < 2000) (hk : z_tk C a) (kx : x_E G mX10_add D h0 15 [(0, x_r (some m)), (1, x_i it), (2, x_i (if high = true then 1 else 0)), (3, x_i part), (4, x_i (nI (z_te C a)))] [] (m_L h m (if z_lk X C a = -1 then t + z_sh X C high part a else t) (if lk = -1 then z_lk X C a else lk))) : x_E G mX10_add D h0 39 [(0, x_r (some m)), (1, x_i it), (2, x_i (if high = true then 1 else 0)), (3, x_i part), (4, x_i (nI a))] [] (m_L h m t lk) := by
  have hp := z_pt_eq hk.2.2.1
  have hby : z_lk X C a = -1 → ¬ (z_bq C a).toInt64 = 0 := by
    intro z1 z2
    unfold z_lk at z1
    have z3 : ¬ z_bq C a = 0 := by
      intro z
      rw [if_pos z] at z1
      split at z1
      · rw [hp.1] at z1
        exact absurd z1 (z_neg1 (nI_pos' (by omega)))
      · rw [hp.1] at z1
        have : (200 : Int32) + nI (z_pt C a) = nI (200 + z_pt C a) := nI_add 200 _
        rw [this] at z1
        exact absurd z1 (z_neg1 (nI_pos' (by omega)))
    apply z3
    have := congrArg Int64.toInt32 z2
    simpa using this
  refine x_aload_n (i := 0) (o := some m) dX10_add_39 rfl rfl ?_
  refine x_iload (i := 4) (x := nI a) dX10_add_40 rfl ?_
  refine x_ldc2 (v := 1569431909747) dX10_add_42 kX10_add_103 ?_
  by_cases q15 : C a = -15
  · skip
    refine x_callV (a := m) (av := [x_i (nI a), x_l 1569431909747]) (rest := []) (r := (some (x_i 1))) (h1 := m_L h m t lk) dX10_add_45 sX10_add_168 (mPk_0 hK.1) rfl rfl (Nat.le_of_ble_eq_true rfl) hz (k_has_t G (hK.L t lk) (a := a) (by omega) z_K_minus q15) ?_
    show x_E _ _ _ _ 48 _ [x_i 1] _
    refine x_istore (i := 5) (lv' := [(0, x_r (some m)), (1, x_i it), (2, x_i (if high = true then 1 else 0)), (3, x_i part), (4, x_i (nI a)), (5, x_i 1)]) dX10_add_48 (by decide) rfl ?_
    refine x_aload_n (i := 0) (o := some m) dX10_add_50 rfl rfl ?_
    refine x_iload (i := 4) (x := nI a) dX10_add_51 rfl ?_
    refine x_iconst (v := 1) dX10_add_53 (by decide) ?_
    refine x_iadd dX10_add_54 ?_
    rw [show (nI a) + 1 = nI (a + 1) from nI_1 a]
    refine x_callV (a := m) (av := [x_i (nI (a + 1))]) (rest := []) (r := (some (x_i (C (a + 1))))) (h1 := m_L h m t lk) dX10_add_55 sX10_add_172 (mPk_0 hK.1) rfl rfl (Nat.le_of_ble_eq_true rfl) hz (k_num G (hK.L t lk) hk.2.1.1) ?_
    show x_E _ _ _ _ 58 _ [x_i (C (a + 1))] _
    refine x_istore (i := 6) (lv' := [(0, x_r (some m)), (1, x_i it), (2, x_i (if high = true then 1 else 0)), (3, x_i part), (4, x_i (nI a)), (5, x_i 1), (6, x_i (C (a + 1)))]) dX10_add_58 (by decide) rfl ?_
    refine x_aload_n (i := 0) (o := some m) dX10_add_60 rfl rfl ?_
    refine x_iload (i := 4) (x := nI a) dX10_add_61 rfl ?_
    refine x_iconst (v := 3) dX10_add_63 (by decide) ?_
    refine x_iadd dX10_add_64 ?_
    rw [show (nI a) + 3 = nI (a + 3) from nI_add a 3]
    refine x_callV (a := m) (av := [x_i (nI (a + 3))]) (rest := []) (r := (some (x_i (C (a + 3))))) (h1 := m_L h m t lk) dX10_add_65 sX10_add_172 (mPk_0 hK.1) rfl rfl (Nat.le_of_ble_eq_true rfl) hz (k_num G (hK.L t lk) hk.2.2.1.1) ?_
    show x_E _ _ _ _ 68 _ [x_i (C (a + 3))] _
    refine x_istore (i := 7) (lv' := [(0, x_r (some m)), (1, x_i it), (2, x_i (if high = true then 1 else 0)), (3, x_i part), (4, x_i (nI a)), (5, x_i 1), (6, x_i (C (a + 1))), (7, x_i (C (a + 3)))]) dX10_add_68 (by decide) rfl ?_
    refine x_iinc (i := 4) (x := nI a) (v := nI (a + 4)) (lv' := [(0, x_r (some m)), (1, x_i it), (2, x_i (if high = true then 1 else 0)), (3, x_i part), (4, x_i (nI (a + 4))), (5, x_i 1), (6, x_i (C (a + 1))), (7, x_i (C (a + 3)))]) dX10_add_70 rfl (nI_add a 4) (by decide) rfl ?_
    refine x_iconst (v := 0) dX10_add_73 (by decide) ?_
    refine x_istore (i := 8) (lv' := [(0, x_r (some m)), (1, x_i it), (2, x_i (if high = true then 1 else 0)), (3, x_i part), (4, x_i (nI (a + 4))), (5, x_i 1), (6, x_i (C (a + 1))), (7, x_i (C (a + 3))), (8, x_i 0)]) dX10_add_74 (by decide) rfl ?_
    refine x_iconst (v := 1) dX10_add_76 (by decide) ?_
    refine x_istore (i := 9) (lv' := [(0, x_r (some m)), (1, x_i it), (2, x_i (if high = true then 1 else 0)), (3, x_i part), (4, x_i (nI (a + 4))), (5, x_i 1), (6, x_i (C (a + 1))), (7, x_i (C (a + 3))), (8, x_i 0), (9, x_i 1)]) dX10_add_77 (by decide) rfl ?_
    refine x_aload_n (i := 0) (o := some m) dX10_add_79 rfl rfl ?_
    refine x_iload (i := 4) (x := nI (a + 4)) dX10_add_80 rfl ?_
    refine x_ldc2 (v := 23295348) dX10_add_82 kX10_add_111 ?_
    by_cases q17 : C (a + 4) = -17
    · skip
      refine x_callV (a := m) (av := [x_i (nI (a + 4)), x_l 23295348]) (rest := []) (r := (some (x_i 1))) (h1 := m_L h m t lk) dX10_add_85 sX10_add_168 (mPk_0 hK.1) rfl rfl (Nat.le_of_ble_eq_true rfl) hz (k_has_t G (hK.L t lk) (a := a + 4) (by omega) z_K_cut q17) ?_
      show x_E _ _ _ _ 88 _ [x_i 1] _
      refine x_if_eq (tgt := 104) dX10_add_88 (by decide) (fun c => absurd c (by decide)) (fun _ => ?_)
      refine x_aload_n (i := 0) (o := some m) dX10_add_91 rfl rfl ?_
      refine x_iload (i := 4) (x := nI (a + 4)) dX10_add_92 rfl ?_
      refine x_iconst (v := 1) dX10_add_94 (by decide) ?_
      refine x_iadd dX10_add_95 ?_
      rw [show (nI (a + 4)) + 1 = nI (a + 5) from nI_1 (a + 4)]
      refine x_callV (a := m) (av := [x_i (nI (a + 5))]) (rest := []) (r := (some (x_i (C (a + 5))))) (h1 := m_L h m t lk) dX10_add_96 sX10_add_172 (mPk_0 hK.1) rfl rfl (Nat.le_of_ble_eq_true rfl) hz (k_num G (hK.L t lk) (hk.2.2.2.1 q17).1) ?_
      show x_E _ _ _ _ 99 _ [x_i (C (a + 5))] _
      refine x_istore (i := 8) (lv' := [(0, x_r (some m)), (1, x_i it), (2, x_i (if high = true then 1 else 0)), (3, x_i part), (4, x_i (nI (a + 4))), (5, x_i 1), (6, x_i (C (a + 1))), (7, x_i (C (a + 3))), (8, x_i (C (a + 5))), (9, x_i 1)]) dX10_add_99 (by decide) rfl ?_
      refine x_iinc (i := 4) (x := nI (a + 4)) (v := nI (a + 6)) (lv' := [(0, x_r (some m)), (1, x_i it), (2, x_i (if high = true then 1 else 0)), (3, x_i part), (4, x_i (nI (a + 6))), (5, x_i 1), (6, x_i (C (a + 1))), (7, x_i (C (a + 3))), (8, x_i (C (a + 5))), (9, x_i 1)]) dX10_add_101 rfl (nI_add (a + 4) 2) (by decide) rfl ?_
      refine x_aload_n (i := 0) (o := some m) dX10_add_104 rfl rfl ?_
      refine x_iload (i := 4) (x := nI (a + 6)) dX10_add_105 rfl ?_
      refine x_ldc2 (v := 90745) dX10_add_107 kX10_add_114 ?_
      by_cases q18 : C (a + 6) = -18
      · skip
        refine x_callV (a := m) (av := [x_i (nI (a + 6)), x_l 90745]) (rest := []) (r := (some (x_i 1))) (h1 := m_L h m t lk) dX10_add_110 sX10_add_168 (mPk_0 hK.1) rfl rfl (Nat.le_of_ble_eq_true rfl) hz (k_has_t G (hK.L t lk) (a := a + 6) (by omega) z_K_by q18) ?_
        show x_E _ _ _ _ 113 _ [x_i 1] _
        refine x_if_eq (tgt := 129) dX10_add_113 (by decide) (fun c => absurd c (by decide)) (fun _ => ?_)
        refine x_aload_n (i := 0) (o := some m) dX10_add_116 rfl rfl ?_
        refine x_iload (i := 4) (x := nI (a + 6)) dX10_add_117 rfl ?_
        refine x_iconst (v := 1) dX10_add_119 (by decide) ?_
        refine x_iadd dX10_add_120 ?_
        rw [show (nI (a + 6)) + 1 = nI (a + 7) from nI_1 _]
        refine x_callV (a := m) (av := [x_i (nI (a + 7))]) (rest := []) (r := (some (x_i (C (a + 7))))) (h1 := m_L h m t lk) dX10_add_121 sX10_add_172 (mPk_0 hK.1) rfl rfl (Nat.le_of_ble_eq_true rfl) hz (k_num G (hK.L t lk) (by have z := hk.2.2.2.2; unfold z_a5 at z; rw [if_pos q17] at z; exact (z q18).1)) ?_
        show x_E _ _ _ _ 124 _ [x_i (C (a + 7))] _
        refine x_istore (i := 9) (lv' := [(0, x_r (some m)), (1, x_i it), (2, x_i (if high = true then 1 else 0)), (3, x_i part), (4, x_i (nI (a + 6))), (5, x_i 1), (6, x_i (C (a + 1))), (7, x_i (C (a + 3))), (8, x_i (C (a + 5))), (9, x_i (C (a + 7)))]) dX10_add_124 (by decide) rfl ?_
        refine x_iinc (i := 4) (x := nI (a + 6)) (v := nI (a + 8)) (lv' := [(0, x_r (some m)), (1, x_i it), (2, x_i (if high = true then 1 else 0)), (3, x_i part), (4, x_i (nI (a + 8))), (5, x_i 1), (6, x_i (C (a + 1))), (7, x_i (C (a + 3))), (8, x_i (C (a + 5))), (9, x_i (C (a + 7)))]) dX10_add_126 rfl (nI_add _ 2) (by decide) rfl ?_
        have e5 : z_a5 C a = a + 6 := by unfold z_a5; rw [if_pos q17]
        have k9 := l_add0 G hK hX h0 D it part high a (z_te C a) t lk hk.2.2.1 hby kx
        have f1 : z_te C a = a + 8 := by unfold z_te; rw [e5, if_pos q18]
        have f2 : z_bq C a = C (a + 7) := by unfold z_bq; rw [e5, if_pos q18]
        have f3 : z_cu C a = C (a + 5) := by unfold z_cu; rw [if_pos q17]
        have f4 : (if z_mi C a = true then (1 : Int32) else 0) = 1 := by
          rw [if_pos (by unfold z_mi; rw [q15]; rfl)]
        rw [f1, f2, f3, f4, ← hp.1] at k9
        exact k9
      · skip
        refine x_callV (a := m) (av := [x_i (nI (a + 6)), x_l 90745]) (rest := []) (r := (some (x_i 0))) (h1 := m_L h m t lk) dX10_add_110 sX10_add_168 (mPk_0 hK.1) rfl rfl (Nat.le_of_ble_eq_true rfl) hz (k_has_f G (hK.L t lk) (a := a + 6) (by omega) z_K_by q18) ?_
        show x_E _ _ _ _ 113 _ [x_i 0] _
        refine x_if_eq (tgt := 129) dX10_add_113 (by decide) (fun _ => ?_) (fun c => absurd (by decide) c)
        have e5 : z_a5 C a = a + 6 := by unfold z_a5; rw [if_pos q17]
        have k9 := l_add0 G hK hX h0 D it part high a (z_te C a) t lk hk.2.2.1 hby kx
        have f1 : z_te C a = a + 6 := by unfold z_te; rw [e5, if_neg q18]
        have f2 : z_bq C a = 1 := by unfold z_bq; rw [e5, if_neg q18]
        have f3 : z_cu C a = C (a + 5) := by unfold z_cu; rw [if_pos q17]
        have f4 : (if z_mi C a = true then (1 : Int32) else 0) = 1 := by
          rw [if_pos (by unfold z_mi; rw [q15]; rfl)]
        rw [f1, f2, f3, f4, ← hp.1] at k9
        exact k9
    · skip
      refine x_callV (a := m) (av := [x_i (nI (a + 4)), x_l 23295348]) (rest := []) (r := (some (x_i 0))) (h1 := m_L h m t lk) dX10_add_85 sX10_add_168 (mPk_0 hK.1) rfl rfl (Nat.le_of_ble_eq_true rfl) hz (k_has_f G (hK.L t lk) (a := a + 4) (by omega) z_K_cut q17) ?_
      show x_E _ _ _ _ 88 _ [x_i 0] _
      refine x_if_eq (tgt := 104) dX10_add_88 (by decide) (fun _ => ?_) (fun c => absurd (by decide) c)
      refine x_aload_n (i := 0) (o := some m) dX10_add_104 rfl rfl ?_
      refine x_iload (i := 4) (x := nI (a + 4)) dX10_add_105 rfl ?_
      refine x_ldc2 (v := 90745) dX10_add_107 kX10_add_114 ?_
      by_cases q18 : C (a + 4) = -18
      · skip
        refine x_callV (a := m) (av := [x_i (nI (a + 4)), x_l 90745]) (rest := []) (r := (some (x_i 1))) (h1 := m_L h m t lk) dX10_add_110 sX10_add_168 (mPk_0 hK.1) rfl rfl (Nat.le_of_ble_eq_true rfl) hz (k_has_t G (hK.L t lk) (a := a + 4) (by omega) z_K_by q18) ?_
        show x_E _ _ _ _ 113 _ [x_i 1] _
        refine x_if_eq (tgt := 129) dX10_add_113 (by decide) (fun c => absurd c (by decide)) (fun _ => ?_)
        refine x_aload_n (i := 0) (o := some m) dX10_add_116 rfl rfl ?_
        refine x_iload (i := 4) (x := nI (a + 4)) dX10_add_117 rfl ?_
        refine x_iconst (v := 1) dX10_add_119 (by decide) ?_
        refine x_iadd dX10_add_120 ?_
        rw [show (nI (a + 4)) + 1 = nI (a + 5) from nI_1 _]
        refine x_callV (a := m) (av := [x_i (nI (a + 5))]) (rest := []) (r := (some (x_i (C (a + 5))))) (h1 := m_L h m t lk) dX10_add_121 sX10_add_172 (mPk_0 hK.1) rfl rfl (Nat.le_of_ble_eq_true rfl) hz (k_num G (hK.L t lk) (by have z := hk.2.2.2.2; unfold z_a5 at z; rw [if_neg q17] at z; exact (z q18).1)) ?_
        show x_E _ _ _ _ 124 _ [x_i (C (a + 5))] _
        refine x_istore (i := 9) (lv' := [(0, x_r (some m)), (1, x_i it), (2, x_i (if high = true then 1 else 0)), (3, x_i part), (4, x_i (nI (a + 4))), (5, x_i 1), (6, x_i (C (a + 1))), (7, x_i (C (a + 3))), (8, x_i 0), (9, x_i (C (a + 5)))]) dX10_add_124 (by decide) rfl ?_
        refine x_iinc (i := 4) (x := nI (a + 4)) (v := nI (a + 6)) (lv' := [(0, x_r (some m)), (1, x_i it), (2, x_i (if high = true then 1 else 0)), (3, x_i part), (4, x_i (nI (a + 6))), (5, x_i 1), (6, x_i (C (a + 1))), (7, x_i (C (a + 3))), (8, x_i 0), (9, x_i (C (a + 5)))]) dX10_add_126 rfl (nI_add _ 2) (by decide) rfl ?_
        have e5 : z_a5 C a = a + 4 := by unfold z_a5; rw [if_neg q17]
        have k9 := l_add0 G hK hX h0 D it part high a (z_te C a) t lk hk.2.2.1 hby kx
        have f1 : z_te C a = a + 6 := by unfold z_te; rw [e5, if_pos q18]
        have f2 : z_bq C a = C (a + 5) := by unfold z_bq; rw [e5, if_pos q18]
        have f3 : z_cu C a = 0 := by unfold z_cu; rw [if_neg q17]
        have f4 : (if z_mi C a = true then (1 : Int32) else 0) = 1 := by
          rw [if_pos (by unfold z_mi; rw [q15]; rfl)]
        rw [f1, f2, f3, f4, ← hp.1] at k9
        exact k9
      · skip
        refine x_callV (a := m) (av := [x_i (nI (a + 4)), x_l 90745]) (rest := []) (r := (some (x_i 0))) (h1 := m_L h m t lk) dX10_add_110 sX10_add_168 (mPk_0 hK.1) rfl rfl (Nat.le_of_ble_eq_true rfl) hz (k_has_f G (hK.L t lk) (a := a + 4) (by omega) z_K_by q18) ?_
        show x_E _ _ _ _ 113 _ [x_i 0] _
        refine x_if_eq (tgt := 129) dX10_add_113 (by decide) (fun _ => ?_) (fun c => absurd (by decide) c)
        have e5 : z_a5 C a = a + 4 := by unfold z_a5; rw [if_neg q17]
        have k9 := l_add0 G hK hX h0 D it part high a (z_te C a) t lk hk.2.2.1 hby kx
        have f1 : z_te C a = a + 4 := by unfold z_te; rw [e5, if_neg q18]
        have f2 : z_bq C a = 1 := by unfold z_bq; rw [e5, if_neg q18]
        have f3 : z_cu C a = 0 := by unfold z_cu; rw [if_neg q17]
        have f4 : (if z_mi C a = true then (1 : Int32) else 0) = 1 := by
          rw [if_pos (by unfold z_mi; rw [q15]; rfl)]
        rw [f1, f2, f3, f4, ← hp.1] at k9
        exact k9
  · skip
    refine x_callV (a := m) (av := [x_i (nI a), x_l 1569431909747]) (rest := []) (r := (some (x_i 0))) (h1 := m_L h m t lk) dX10_add_45 sX10_add_168 (mPk_0 hK.1) rfl rfl (Nat.le_of_ble_eq_true rfl) hz (k_has_f G (hK.L t lk) (a := a) (by omega) z_K_minus q15) ?_
    show x_E _ _ _ _ 48 _ [x_i 0] _
    refine x_istore (i := 5) (lv' := [(0, x_r (some m)), (1, x_i it), (2, x_i (if high = true then 1 else 0)), (3, x_i part), (4, x_i (nI a)), (5, x_i 0)]) dX10_add_48 (by decide) rfl ?_
    refine x_aload_n (i := 0) (o := some m) dX10_add_50 rfl rfl ?_
    refine x_iload (i := 4) (x := nI a) dX10_add_51 rfl ?_
    refine x_iconst (v := 1) dX10_add_53 (by decide) ?_
    refine x_iadd dX10_add_54 ?_
    rw [show (nI a) + 1 = nI (a + 1) from nI_1 a]
    refine x_callV (a := m) (av := [x_i (nI (a + 1))]) (rest := []) (r := (some (x_i (C (a + 1))))) (h1 := m_L h m t lk) dX10_add_55 sX10_add_172 (mPk_0 hK.1) rfl rfl (Nat.le_of_ble_eq_true rfl) hz (k_num G (hK.L t lk) hk.2.1.1) ?_
    show x_E _ _ _ _ 58 _ [x_i (C (a + 1))] _
    refine x_istore (i := 6) (lv' := [(0, x_r (some m)), (1, x_i it), (2, x_i (if high = true then 1 else 0)), (3, x_i part), (4, x_i (nI a)), (5, x_i 0), (6, x_i (C (a + 1)))]) dX10_add_58 (by decide) rfl ?_
    refine x_aload_n (i := 0) (o := some m) dX10_add_60 rfl rfl ?_
    refine x_iload (i := 4) (x := nI a) dX10_add_61 rfl ?_
    refine x_iconst (v := 3) dX10_add_63 (by decide) ?_
    refine x_iadd dX10_add_64 ?_
    rw [show (nI a) + 3 = nI (a + 3) from nI_add a 3]
    refine x_callV (a := m) (av := [x_i (nI (a + 3))]) (rest := []) (r := (some (x_i (C (a + 3))))) (h1 := m_L h m t lk) dX10_add_65 sX10_add_172 (mPk_0 hK.1) rfl rfl (Nat.le_of_ble_eq_true rfl) hz (k_num G (hK.L t lk) hk.2.2.1.1) ?_
    show x_E _ _ _ _ 68 _ [x_i (C (a + 3))] _
    refine x_istore (i := 7) (lv' := [(0, x_r (some m)), (1, x_i it), (2, x_i (if high = true then 1 else 0)), (3, x_i part), (4, x_i (nI a)), (5, x_i 0), (6, x_i (C (a + 1))), (7, x_i (C (a + 3)))]) dX10_add_68 (by decide) rfl ?_
    refine x_iinc (i := 4) (x := nI a) (v := nI (a + 4)) (lv' := [(0, x_r (some m)), (1, x_i it), (2, x_i (if high = true then 1 else 0)), (3, x_i part), (4, x_i (nI (a + 4))), (5, x_i 0), (6, x_i (C (a + 1))), (7, x_i (C (a + 3)))]) dX10_add_70 rfl (nI_add a 4) (by decide) rfl ?_
    refine x_iconst (v := 0) dX10_add_73 (by decide) ?_
    refine x_istore (i := 8) (lv' := [(0, x_r (some m)), (1, x_i it), (2, x_i (if high = true then 1 else 0)), (3, x_i part), (4, x_i (nI (a + 4))), (5, x_i 0), (6, x_i (C (a + 1))), (7, x_i (C (a + 3))), (8, x_i 0)]) dX10_add_74 (by decide) rfl ?_
    refine x_iconst (v := 1) dX10_add_76 (by decide) ?_
    refine x_istore (i := 9) (lv' := [(0, x_r (some m)), (1, x_i it), (2, x_i (if high = true then 1 else 0)), (3, x_i part), (4, x_i (nI (a + 4))), (5, x_i 0), (6, x_i (C (a + 1))), (7, x_i (C (a + 3))), (8, x_i 0), (9, x_i 1)]) dX10_add_77 (by decide) rfl ?_
    refine x_aload_n (i := 0) (o := some m) dX10_add_79 rfl rfl ?_
    refine x_iload (i := 4) (x := nI (a + 4)) dX10_add_80 rfl ?_
    refine x_ldc2 (v := 23295348) dX10_add_82 kX10_add_111 ?_
    by_cases q17 : C (a + 4) = -17
    · skip
      refine x_callV (a := m) (av := [x_i (nI (a + 4)), x_l 23295348]) (rest := []) (r := (some (x_i 1))) (h1 := m_L h m t lk) dX10_add_85 sX10_add_168 (mPk_0 hK.1) rfl rfl (Nat.le_of_ble_eq_true rfl) hz (k_has_t G (hK.L t lk) (a := a + 4) (by omega) z_K_cut q17) ?_
      show x_E _ _ _ _ 88 _ [x_i 1] _
      refine x_if_eq (tgt := 104) dX10_add_88 (by decide) (fun c => absurd c (by decide)) (fun _ => ?_)
      refine x_aload_n (i := 0) (o := some m) dX10_add_91 rfl rfl ?_
      refine x_iload (i := 4) (x := nI (a + 4)) dX10_add_92 rfl ?_
      refine x_iconst (v := 1) dX10_add_94 (by decide) ?_
      refine x_iadd dX10_add_95 ?_
      rw [show (nI (a + 4)) + 1 = nI (a + 5) from nI_1 (a + 4)]
      refine x_callV (a := m) (av := [x_i (nI (a + 5))]) (rest := []) (r := (some (x_i (C (a + 5))))) (h1 := m_L h m t lk) dX10_add_96 sX10_add_172 (mPk_0 hK.1) rfl rfl (Nat.le_of_ble_eq_true rfl) hz (k_num G (hK.L t lk) (hk.2.2.2.1 q17).1) ?_
      show x_E _ _ _ _ 99 _ [x_i (C (a + 5))] _
      refine x_istore (i := 8) (lv' := [(0, x_r (some m)), (1, x_i it), (2, x_i (if high = true then 1 else 0)), (3, x_i part), (4, x_i (nI (a + 4))), (5, x_i 0), (6, x_i (C (a + 1))), (7, x_i (C (a + 3))), (8, x_i (C (a + 5))), (9, x_i 1)]) dX10_add_99 (by decide) rfl ?_
      refine x_iinc (i := 4) (x := nI (a + 4)) (v := nI (a + 6)) (lv' := [(0, x_r (some m)), (1, x_i it), (2, x_i (if high = true then 1 else 0)), (3, x_i part), (4, x_i (nI (a + 6))), (5, x_i 0), (6, x_i (C (a + 1))), (7, x_i (C (a + 3))), (8, x_i (C (a + 5))), (9, x_i 1)]) dX10_add_101 rfl (nI_add (a + 4) 2) (by decide) rfl ?_
      refine x_aload_n (i := 0) (o := some m) dX10_add_104 rfl rfl ?_
      refine x_iload (i := 4) (x := nI (a + 6)) dX10_add_105 rfl ?_
      refine x_ldc2 (v := 90745) dX10_add_107 kX10_add_114 ?_
      by_cases q18 : C (a + 6) = -18
      · skip
        refine x_callV (a := m) (av := [x_i (nI (a + 6)), x_l 90745]) (rest := []) (r := (some (x_i 1))) (h1 := m_L h m t lk) dX10_add_110 sX10_add_168 (mPk_0 hK.1) rfl rfl (Nat.le_of_ble_eq_true rfl) hz (k_has_t G (hK.L t lk) (a := a + 6) (by omega) z_K_by q18) ?_
        show x_E _ _ _ _ 113 _ [x_i 1] _
        refine x_if_eq (tgt := 129) dX10_add_113 (by decide) (fun c => absurd c (by decide)) (fun _ => ?_)
        refine x_aload_n (i := 0) (o := some m) dX10_add_116 rfl rfl ?_
        refine x_iload (i := 4) (x := nI (a + 6)) dX10_add_117 rfl ?_
        refine x_iconst (v := 1) dX10_add_119 (by decide) ?_
        refine x_iadd dX10_add_120 ?_
        rw [show (nI (a + 6)) + 1 = nI (a + 7) from nI_1 _]
        refine x_callV (a := m) (av := [x_i (nI (a + 7))]) (rest := []) (r := (some (x_i (C (a + 7))))) (h1 := m_L h m t lk) dX10_add_121 sX10_add_172 (mPk_0 hK.1) rfl rfl (Nat.le_of_ble_eq_true rfl) hz (k_num G (hK.L t lk) (by have z := hk.2.2.2.2; unfold z_a5 at z; rw [if_pos q17] at z; exact (z q18).1)) ?_
        show x_E _ _ _ _ 124 _ [x_i (C (a + 7))] _
        refine x_istore (i := 9) (lv' := [(0, x_r (some m)), (1, x_i it), (2, x_i (if high = true then 1 else 0)), (3, x_i part), (4, x_i (nI (a + 6))), (5, x_i 0), (6, x_i (C (a + 1))), (7, x_i (C (a + 3))), (8, x_i (C (a + 5))), (9, x_i (C (a + 7)))]) dX10_add_124 (by decide) rfl ?_
        refine x_iinc (i := 4) (x := nI (a + 6)) (v := nI (a + 8)) (lv' := [(0, x_r (some m)), (1, x_i it), (2, x_i (if high = true then 1 else 0)), (3, x_i part), (4, x_i (nI (a + 8))), (5, x_i 0), (6, x_i (C (a + 1))), (7, x_i (C (a + 3))), (8, x_i (C (a + 5))), (9, x_i (C (a + 7)))]) dX10_add_126 rfl (nI_add _ 2) (by decide) rfl ?_
        have e5 : z_a5 C a = a + 6 := by unfold z_a5; rw [if_pos q17]
        have k9 := l_add0 G hK hX h0 D it part high a (z_te C a) t lk hk.2.2.1 hby kx
        have f1 : z_te C a = a + 8 := by unfold z_te; rw [e5, if_pos q18]
        have f2 : z_bq C a = C (a + 7) := by unfold z_bq; rw [e5, if_pos q18]
        have f3 : z_cu C a = C (a + 5) := by unfold z_cu; rw [if_pos q17]
        have f4 : (if z_mi C a = true then (1 : Int32) else 0) = 0 := by
          rw [if_neg (by unfold z_mi; simp [q15])]
        rw [f1, f2, f3, f4, ← hp.1] at k9
        exact k9
      · skip
        refine x_callV (a := m) (av := [x_i (nI (a + 6)), x_l 90745]) (rest := []) (r := (some (x_i 0))) (h1 := m_L h m t lk) dX10_add_110 sX10_add_168 (mPk_0 hK.1) rfl rfl (Nat.le_of_ble_eq_true rfl) hz (k_has_f G (hK.L t lk) (a := a + 6) (by omega) z_K_by q18) ?_
        show x_E _ _ _ _ 113 _ [x_i 0] _
        refine x_if_eq (tgt := 129) dX10_add_113 (by decide) (fun _ => ?_) (fun c => absurd (by decide) c)
        have e5 : z_a5 C a = a + 6 := by unfold z_a5; rw [if_pos q17]
        have k9 := l_add0 G hK hX h0 D it part high a (z_te C a) t lk hk.2.2.1 hby kx
        have f1 : z_te C a = a + 6 := by unfold z_te; rw [e5, if_neg q18]
        have f2 : z_bq C a = 1 := by unfold z_bq; rw [e5, if_neg q18]
        have f3 : z_cu C a = C (a + 5) := by unfold z_cu; rw [if_pos q17]
        have f4 : (if z_mi C a = true then (1 : Int32) else 0) = 0 := by
          rw [if_neg (by unfold z_mi; simp [q15])]
        rw [f1, f2, f3, f4, ← hp.1] at k9
        exact k9
    · skip
      refine x_callV (a := m) (av := [x_i (nI (a + 4)), x_l 23295348]) (rest := []) (r := (some (x_i 0))) (h1 := m_L h m t lk) dX10_add_85 sX10_add_168 (mPk_0 hK.1) rfl rfl (Nat.le_of_ble_eq_true rfl) hz (k_has_f G (hK.L t lk) (a := a + 4) (by omega) z_K_cut q17) ?_
      show x_E _ _ _ _ 88 _ [x_i 0] _
      refine x_if_eq (tgt := 104) dX10_add_88 (by decide) (fun _ => ?_) (fun c => absurd (by decide) c)
      refine x_aload_n (i := 0) (o := some m) dX10_add_104 rfl rfl ?_
      refine x_iload (i := 4) (x := nI (a + 4)) dX10_add_105 rfl ?_
      refine x_ldc2 (v := 90745) dX10_add_107 kX10_add_114 ?_
      by_cases q18 : C (a + 4) = -18
      · skip
        refine x_callV (a := m) (av := [x_i (nI (a + 4)), x_l 90745]) (rest := []) (r := (some (x_i 1))) (h1 := m_L h m t lk) dX10_add_110 sX10_add_168 (mPk_0 hK.1) rfl rfl (Nat.le_of_ble_eq_true rfl) hz (k_has_t G (hK.L t lk) (a := a + 4) (by omega) z_K_by q18) ?_
        show x_E _ _ _ _ 113 _ [x_i 1] _
        refine x_if_eq (tgt := 129) dX10_add_113 (by decide) (fun c => absurd c (by decide)) (fun _ => ?_)
        refine x_aload_n (i := 0) (o := some m) dX10_add_116 rfl rfl ?_
        refine x_iload (i := 4) (x := nI (a + 4)) dX10_add_117 rfl ?_
        refine x_iconst (v := 1) dX10_add_119 (by decide) ?_
        refine x_iadd dX10_add_120 ?_
        rw [show (nI (a + 4)) + 1 = nI (a + 5) from nI_1 _]
        refine x_callV (a := m) (av := [x_i (nI (a + 5))]) (rest := []) (r := (some (x_i (C (a + 5))))) (h1 := m_L h m t lk) dX10_add_121 sX10_add_172 (mPk_0 hK.1) rfl rfl (Nat.le_of_ble_eq_true rfl) hz (k_num G (hK.L t lk) (by have z := hk.2.2.2.2; unfold z_a5 at z; rw [if_neg q17] at z; exact (z q18).1)) ?_
        show x_E _ _ _ _ 124 _ [x_i (C (a + 5))] _
        refine x_istore (i := 9) (lv' := [(0, x_r (some m)), (1, x_i it), (2, x_i (if high = true then 1 else 0)), (3, x_i part), (4, x_i (nI (a + 4))), (5, x_i 0), (6, x_i (C (a + 1))), (7, x_i (C (a + 3))), (8, x_i 0), (9, x_i (C (a + 5)))]) dX10_add_124 (by decide) rfl ?_
        refine x_iinc (i := 4) (x := nI (a + 4)) (v := nI (a + 6)) (lv' := [(0, x_r (some m)), (1, x_i it), (2, x_i (if high = true then 1 else 0)), (3, x_i part), (4, x_i (nI (a + 6))), (5, x_i 0), (6, x_i (C (a + 1))), (7, x_i (C (a + 3))), (8, x_i 0), (9, x_i (C (a + 5)))]) dX10_add_126 rfl (nI_add _ 2) (by decide) rfl ?_
        have e5 : z_a5 C a = a + 4 := by unfold z_a5; rw [if_neg q17]
        have k9 := l_add0 G hK hX h0 D it part high a (z_te C a) t lk hk.2.2.1 hby kx
        have f1 : z_te C a = a + 6 := by unfold z_te; rw [e5, if_pos q18]
        have f2 : z_bq C a = C (a + 5) := by unfold z_bq; rw [e5, if_pos q18]
        have f3 : z_cu C a = 0 := by unfold z_cu; rw [if_neg q17]
        have f4 : (if z_mi C a = true then (1 : Int32) else 0) = 0 := by
          rw [if_neg (by unfold z_mi; simp [q15])]
        rw [f1, f2, f3, f4, ← hp.1] at k9
        exact k9
      · skip
        refine x_callV (a := m) (av := [x_i (nI (a + 4)), x_l 90745]) (rest := []) (r := (some (x_i 0))) (h1 := m_L h m t lk) dX10_add_110 sX10_add_168 (mPk_0 hK.1) rfl rfl (Nat.le_of_ble_eq_true rfl) hz (k_has_f G (hK.L t lk) (a := a + 4) (by omega) z_K_by q18) ?_
        show x_E _ _ _ _ 113 _ [x_i 0] _
        refine x_if_eq (tgt := 129) dX10_add_113 (by decide) (fun _ => ?_) (fun c => absurd (by decide) c)
        have e5 : z_a5 C a = a + 4 := by unfold z_a5; rw [if_neg q17]
        have k9 := l_add0 G hK hX h0 D it part high a (z_te C a) t lk hk.2.2.1 hby kx
        have f1 : z_te C a = a + 4 := by unfold z_te; rw [e5, if_neg q18]
        have f2 : z_bq C a = 1 := by unfold z_bq; rw [e5, if_neg q18]
        have f3 : z_cu C a = 0 := by unfold z_cu; rw [if_neg q17]
        have f4 : (if z_mi C a = true then (1 : Int32) else 0) = 0 := by
          rw [if_neg (by unfold z_mi; simp [q15])]
        rw [f1, f2, f3, f4, ← hp.1] at k9
        exact k9
theorem q_more_c {C : Nat → Int32} {f k b : Nat} (h : q_more C f k = (true, b)) : ((C k = -14 ∨ C k = -15) ∧ ∃ g, f = g + 1 ∧ z_tk C k ∧ q_more C g (z_te C k) = (true, b)) ∨ (¬ C k = -14 ∧ ¬ C k = -15 ∧ q_cmp C k = (true, b)) := by
  have key : q_sum C f k = (true, b) → ∃ g, f = g + 1 ∧ z_tk C k ∧ q_more C g (z_te C k) = (true, b) := by
    intro hs
    cases f with
    | zero => cases hs
    | succ g =>
      rw [q_sum_s] at hs
      cases hq : q_term C k with
      | mk u c =>
        rw [hq] at hs
        cases u with
        | false => cases hs
        | true =>
          dsimp only at hs
          obtain ⟨t1, t2⟩ := z_tk_of hq
          subst t2
          exact ⟨g, rfl, t1, hs⟩
  unfold q_more at h
  split at h
  · rename_i h1
    exact Or.inl ⟨Or.inl h1, key h⟩
  · split at h
    · rename_i h1
      exact Or.inl ⟨Or.inr h1, key h⟩
    · rename_i h1 h2
      exact Or.inr ⟨h1, h2, h⟩
set_option maxHeartbeats 4000000 in
set_option maxRecDepth 100000 in
theorem l_add (G : x_G) {h : x_H} {m : Nat} {l : List (Nat × Nat)} {C : Nat → Int32} (hK : m_K h m l C) {X : z_X} (hX : m_X h m X) (h0 : x_H) (D : Room → x_Z → Prop) (it part : Int32) (high : Bool)  (hz : x_sz h0 ≤ x_sz h ∧ x_us h0 ≤ x_us h) (b : Nat) (hle2 : ∀ k, z_tk C k → z_te C k ≤ 1600) : ∀ (f : Nat) (k : Nat) (t : Int64) (lk : Int32), k ≤ 1600 → q_more C f k = (true, b) → x_E G mX10_add D h0 284 [(0, x_r (some m)), (1, x_i it), (2, x_i (if high = true then 1 else 0)), (3, x_i part), (4, x_i (nI (z_cp C f k)))] [] (m_L h m (z_tot X C high part (z_tms C f k) t) (z_lks X C (z_tms C f k) lk)) → x_E G mX10_add D h0 15 [(0, x_r (some m)), (1, x_i it), (2, x_i (if high = true then 1 else 0)), (3, x_i part), (4, x_i (nI k))] [] (m_L h m t lk) := by
  intro f
  induction f using Nat.strongRecOn with
  | _ f ih =>
    intro k t lk hk6 hm kx
    refine x_aload_n (i := 0) (o := some m) dX10_add_15 rfl rfl ?_
    refine x_iload (i := 4) (x := nI k) dX10_add_16 rfl ?_
    refine x_ldc2 (v := 6181123443) dX10_add_18 kX10_add_98 ?_
    by_cases q14 : C k = -14
    · skip
      refine x_callV (a := m) (av := [x_i (nI k), x_l 6181123443]) (rest := []) (r := (some (x_i 1))) (h1 := m_L h m t lk) dX10_add_21 sX10_add_168 (mPk_0 hK.1) rfl rfl (Nat.le_of_ble_eq_true rfl) hz (k_has_t G (hK.L t lk) (a := k) (by omega) z_K_plus q14) ?_
      show x_E _ _ _ _ 24 _ [x_i 1] _
      refine x_if_ne (tgt := 39) dX10_add_24 (by decide) (fun _ => ?_) (fun c => absurd c (by decide))
      rcases q_more_c hm with ⟨h1, g, rfl, htk, hm2⟩ | ⟨h1, h2, -⟩
      · refine l_addT G hK hX h0 D it part high k t lk hz (by omega) htk ?_
        have hin := hK.N.lt (a := k) (by rcases h1 with z | z <;> rw [z] <;> decide)
        refine ih g (by omega) (z_te C k) _ _ (hle2 k htk) hm2 ?_
        have e1 : z_tms C (g + 1) k = k :: z_tms C g (z_te C k) := if_pos h1
        have e2 : z_cp C (g + 1) k = z_cp C g (z_te C k) := if_pos h1
        rw [e1, e2] at kx
        exact kx
      · exact absurd q14 h1
    · skip
      refine x_callV (a := m) (av := [x_i (nI k), x_l 6181123443]) (rest := []) (r := (some (x_i 0))) (h1 := m_L h m t lk) dX10_add_21 sX10_add_168 (mPk_0 hK.1) rfl rfl (Nat.le_of_ble_eq_true rfl) hz (k_has_f G (hK.L t lk) (a := k) (by omega) z_K_plus q14) ?_
      show x_E _ _ _ _ 24 _ [x_i 0] _
      refine x_if_ne (tgt := 39) dX10_add_24 (by decide) (fun c => absurd c (by decide)) (fun _ => ?_)
      refine x_aload_n (i := 0) (o := some m) dX10_add_27 rfl rfl ?_
      refine x_iload (i := 4) (x := nI k) dX10_add_28 rfl ?_
      refine x_ldc2 (v := 1569431909747) dX10_add_30 kX10_add_103 ?_
      by_cases q15 : C k = -15
      · skip
        refine x_callV (a := m) (av := [x_i (nI k), x_l 1569431909747]) (rest := []) (r := (some (x_i 1))) (h1 := m_L h m t lk) dX10_add_33 sX10_add_168 (mPk_0 hK.1) rfl rfl (Nat.le_of_ble_eq_true rfl) hz (k_has_t G (hK.L t lk) (a := k) (by omega) z_K_minus q15) ?_
        show x_E _ _ _ _ 36 _ [x_i 1] _
        refine x_if_eq (tgt := 284) dX10_add_36 (by decide) (fun c => absurd c (by decide)) (fun _ => ?_)
        rcases q_more_c hm with ⟨h1, g, rfl, htk, hm2⟩ | ⟨h1, h2, -⟩
        · refine l_addT G hK hX h0 D it part high k t lk hz (by omega) htk ?_
          have hin := hK.N.lt (a := k) (by rcases h1 with z | z <;> rw [z] <;> decide)
          refine ih g (by omega) (z_te C k) _ _ (hle2 k htk) hm2 ?_
          have e1 : z_tms C (g + 1) k = k :: z_tms C g (z_te C k) := if_pos h1
          have e2 : z_cp C (g + 1) k = z_cp C g (z_te C k) := if_pos h1
          rw [e1, e2] at kx
          exact kx
        · exact absurd q15 h2
      · skip
        refine x_callV (a := m) (av := [x_i (nI k), x_l 1569431909747]) (rest := []) (r := (some (x_i 0))) (h1 := m_L h m t lk) dX10_add_33 sX10_add_168 (mPk_0 hK.1) rfl rfl (Nat.le_of_ble_eq_true rfl) hz (k_has_f G (hK.L t lk) (a := k) (by omega) z_K_minus q15) ?_
        show x_E _ _ _ _ 36 _ [x_i 0] _
        refine x_if_eq (tgt := 284) dX10_add_36 (by decide) (fun _ => ?_) (fun c => absurd (by decide) c)
        rcases q_more_c hm with ⟨h1, g, rfl, htk, hm2⟩ | ⟨h1, h2, -⟩
        · rcases h1 with z | z
          · exact absurd z q14
          · exact absurd z q15
        · have e1 : z_tms C f k = [] := by
            cases f with
            | zero => rfl
            | succ g => exact if_neg (fun z => by rcases z with z | z; exact h1 z; exact h2 z)
          have e2 : z_cp C f k = k := by
            cases f with
            | zero => rfl
            | succ g => exact if_neg (fun z => by rcases z with z | z; exact h1 z; exact h2 z)
          rw [e1, e2] at kx
          exact kx
set_option maxHeartbeats 4000000 in
set_option maxRecDepth 100000 in
theorem c_add (G : x_G) {h : x_H} {m : Nat} {l : List (Nat × Nat)} {C : Nat → Int32} (hK : m_K h m l C) {X : z_X} (hX : m_X h m X) (part : Int32) (high : Bool) {F p b : Nat} (hq : q_sum C F (p + 1) = (true, b)) : x_Call G mX10_add h [x_r (some m), x_i (nI p), x_i (if high = true then 1 else 0), x_i part] none (x_sI (m_L h m (z_tot X C high part (z_tms C F (p + 1)) 0) (z_lks X C (z_tms C F (p + 1)) (-1))) 1028 m (nI (z_cp C F (p + 1)))) := by
  have hll := hK.ll
  have hq' : q_more C F (p + 1) = (true, b) := by
    unfold q_more
    split
    · exact hq
    · split
      · exact hq
      · rename_i h1 h2
        cases F with
        | zero => cases hq
        | succ F =>
          rw [q_sum_s] at hq
          have : q_term C (p + 1) = (false, p + 1) := by unfold q_term; rw [if_neg h1, if_neg h2]
          rw [this] at hq
          cases hq
  have hp6 : p + 1 ≤ 1500 := by
    by_cases hc : C (p + 1) = -1
    · exfalso
      unfold q_more at hq'
      rw [if_neg (by rw [hc]; decide), if_neg (by rw [hc]; decide)] at hq'
      unfold q_cmp at hq'
      rw [if_neg (by rw [hc]; decide), if_neg (by rw [hc]; decide)] at hq'
      cases hq'
    · have := hK.N.lt hc
      omega
  have hle2 : ∀ k, z_tk C k → z_te C k ≤ 1600 := by
    intro k hk
    have h1 := hK.N.n hk.2.2.1
    unfold z_te z_a5
    split <;> split <;> omega
  refine x_Ex.call (x_enter mwX10_add (Nat.le_of_ble_eq_true rfl) ?_)
  show x_E _ _ _ _ _ [(0, x_r (some m)), (1, x_i (nI p)), (2, x_i (if high = true then 1 else 0)), (3, x_i part)] _ _
  refine x_aload_n (i := 0) (o := some m) dX10_add_0 rfl rfl ?_
  refine x_lconst (v := 0) dX10_add_1 (by decide) ?_
  refine x_putL (i := 1026) dX10_add_2 pX10_add_184 rfl rfl (mPk_0 hK.1) ?_
  refine x_aload_n (i := 0) (o := some m) dX10_add_5 rfl rfl ?_
  refine x_iconst (v := (-1)) dX10_add_6 (by decide) ?_
  refine x_putI (i := 1027) dX10_add_7 pX10_add_188 rfl rfl (mPk_0 hK.1) (rfl) (by rfl) ?_
  rw [show x_sI (x_sL h 1026 m 0) 1027 m ((-1)) = m_L h m 0 (-1) from rfl]
  refine x_iload_n (i := 1) (x := nI p) dX10_add_10 rfl rfl ?_
  refine x_iconst (v := 1) dX10_add_11 (by decide) ?_
  refine x_iadd dX10_add_12 ?_
  rw [show (nI p) + 1 = nI (p + 1) from nI_1 p]
  refine x_istore (i := 4) (lv' := [(0, x_r (some m)), (1, x_i (nI p)), (2, x_i (if high = true then 1 else 0)), (3, x_i part), (4, x_i (nI (p + 1)))]) dX10_add_13 (by decide) rfl ?_
  refine l_add G hK hX h _ (nI p) part high ⟨Nat.le_refl _, Nat.le_refl _⟩ b hle2 F (p + 1) 0 (-1) (by omega) hq' ?_
  generalize z_tot X C high part (z_tms C F (p + 1)) 0 = t
  generalize z_lks X C (z_tms C F (p + 1)) (-1) = lk
  refine x_aload_n (i := 0) (o := some m) dX10_add_284 rfl rfl ?_
  refine x_iload (i := 4) (x := nI (z_cp C F (p + 1))) dX10_add_285 rfl ?_
  refine x_putI (i := 1028) dX10_add_287 pX10_add_191 rfl rfl (mPk_0 hK.1) (rfl) (by rfl) ?_
  refine x_return dX10_add_290 rfl ⟨Nat.le_refl _, Nat.le_refl _⟩ ?_
  exact ⟨rfl, rfl⟩
