/-! THE CLASS: Words: split, ended, take, takeNumber -/
theorem c_S_at {h h1 : x_H} {w : Nat} {T : Nat → Int32} {l : List (Nat × Nat)} (k9 : c_S h h1 w T l) {j : Nat} (hj : j < l.length) : x_rw h1 (w + 1) j = m_C T l j := by
  obtain ⟨q, hq⟩ : ∃ q, l[j]? = some q := ⟨_, List.getElem?_eq_getElem hj⟩
  rw [k9.2.2.2 j q hq, m_C_in hq]
set_option maxHeartbeats 4000000 in
set_option maxRecDepth 100000 in
theorem c_splitX {G : x_G} {ad st vl : Nat → Nat} {kt : Nat × Option Nat} (hG : x_GS G ad st vl kt) {h : x_H} {w a n : Nat} (hW : c_W h w) (hk : x_kd h a = 21) (hl3 : x_ln h a = 3000) (hn3 : n ≤ 3000) : x_Ex G mX8_split h [x_r (some w), x_r (some a), x_i (nI n)] (fun r h2 => r = none ∧ x_F h h2 (fun i b => b = w ∧ (i = 801 ∨ i = 802)) (fun b => b = w + 1) ∧ c_T h2 w (z_words (x_rw h a) n).length 0 (m_C (x_rw h a) (z_words (x_rw h a) n))) := by
  refine x_enter mwX8_split (Nat.le_of_ble_eq_true rfl) ?_
  show x_E _ _ _ _ _ [(0, x_r (some w)), (1, x_r (some a)), (2, x_i (nI n))] _ _
  refine x_iload_n (i := 2) (x := nI n) dX8_split_0 rfl rfl ?_
  refine x_aload_n (i := 1) (o := some a) dX8_split_1 rfl rfl ?_
  refine x_alen (kd := 21) (t0 := 1) dX8_split_2 hk (by omega) (by omega) rfl ?_
  rw [hl3]
  refine x_min (v := nI n) dX8_split_3 sX8_split_22 (Nat.le_of_ble_eq_true rfl) (by
    by_cases z : nI 3000 < nI n
    · exact absurd ((nI_ltI (by omega) (by omega)).mp z) (by omega)
    · rw [if_neg z]) ?_
  refine x_istore_n (i := 3) (lv' := [(0, x_r (some w)), (1, x_r (some a)), (2, x_i (nI n)), (3, x_i (nI n))]) dX8_split_6 rfl (by decide) rfl ?_
  refine x_aload_n (i := 0) (o := some w) dX8_split_7 rfl rfl ?_
  refine x_iconst (v := 0) dX8_split_8 (by decide) ?_
  refine x_putI (i := 801) dX8_split_9 pX8_split_15 rfl rfl hW.1 (rfl) (by rfl) ?_
  refine x_aload_n (i := 0) (o := some w) dX8_split_12 rfl rfl ?_
  refine x_iconst (v := 0) dX8_split_13 (by decide) ?_
  refine x_putI (i := 802) dX8_split_14 pX8_split_19 rfl rfl hW.1 (rfl) (by rfl) ?_
  refine x_iconst (v := 0) dX8_split_17 (by decide) ?_
  refine x_istore (i := 4) (lv' := [(0, x_r (some w)), (1, x_r (some a)), (2, x_i (nI n)), (3, x_i (nI n)), (4, x_i 0)]) dX8_split_18 (by decide) rfl ?_
  refine x_iconst (v := 0) dX8_split_20 (by decide) ?_
  refine x_istore (i := 5) (lv' := [(0, x_r (some w)), (1, x_r (some a)), (2, x_i (nI n)), (3, x_i (nI n)), (4, x_i 0), (5, x_i 0)]) dX8_split_21 (by decide) rfl ?_
  show x_E _ _ _ _ 23 _ _ _
  refine l_splitX hG hW hk hl3 hn3 _ (fun h2 k9 g15 => ⟨rfl, k9.1, (k9.W hW), k9.2.1, k9.2.2.1, g15, Nat.zero_le _, fun j hj => c_S_at k9 hj, fun j hj => m_C_out hj⟩) (n + 1) 0 0 [] _ (Nat.le_refl _) (by omega) rfl (by omega) (Nat.le_refl _) ⟨(x_F.rf.I ⟨rfl, Or.inl rfl⟩).I ⟨rfl, Or.inr rfl⟩, ?_, ?_, fun j q hj => ?_⟩ rfl (fun j g1 g2 => by omega)
  · rw [x_fi_sI, if_neg (by omega), x_fi_sI, if_pos ⟨rfl, rfl⟩]
    rfl
  · rw [x_fi_sI, if_pos ⟨rfl, rfl⟩]
  · simp at hj
set_option maxHeartbeats 4000000 in
set_option maxRecDepth 100000 in
theorem c_ended (G : x_G) {h : x_H} {w n a : Nat} {C : Nat → Int32} (hT : c_T h w n a C) : x_Call G mX8_ended h [x_r (some w)] (some (x_i (if n ≤ a then 1 else 0))) h := by
  have h15 := hT.2.2.2.1
  have han := hT.2.2.2.2.1
  refine x_Ex.call (x_enter mwX8_ended (Nat.le_of_ble_eq_true rfl) ?_)
  show x_E _ _ _ _ _ [(0, x_r (some w))] _ _
  refine x_aload_n (i := 0) (o := some w) dX8_ended_0 rfl rfl ?_
  refine x_getIv (v := nI a) dX8_ended_1 fX8_ended_19 (i := 802) rfl rfl hT.1.1 (hT.2.2.1) ?_
  refine x_aload_n (i := 0) (o := some w) dX8_ended_4 rfl rfl ?_
  refine x_getIv (v := nI n) dX8_ended_5 fX8_ended_15 (i := 801) rfl rfl hT.1.1 (hT.2.1) ?_
  refine x_icmp_lt (tgt := 15) dX8_ended_8 (by decide) (fun c8 => ?_) (fun c8 => ?_)
  · skip
    have q8 := (nI_ltI (by omega) (by omega)).mp c8
    refine x_iconst (v := 0) dX8_ended_15 (by decide) ?_
    refine x_ireturn dX8_ended_16 rfl (rfl) ⟨Nat.le_refl _, Nat.le_refl _⟩ ?_
    exact ⟨by rw [if_neg (by omega)], rfl⟩
  · skip
    have q8 : n ≤ a := Nat.le_of_not_lt fun z => c8 (nI_lt z (by omega))
    refine x_iconst (v := 1) dX8_ended_11 (by decide) ?_
    refine x_goto (tgt := 16) dX8_ended_12 (by decide) ?_
    refine x_ireturn dX8_ended_16 rfl (rfl) ⟨Nat.le_refl _, Nat.le_refl _⟩ ?_
    exact ⟨by rw [if_pos q8], rfl⟩
theorem z_kc_ne {k : Nat} (hk : k < 17) : ¬ z_kc k = -1 := by
  have : ∀ k, k < 17 → ¬ z_kc k = -1 := by decide +kernel
  exact this k hk
theorem c_T.to {h : x_H} {w n a : Nat} {C : Nat → Int32} (hT : c_T h w n a C) {b : Nat} (hb : b ≤ n) : c_T (x_sI h 802 w (nI b)) w n b C := by
  obtain ⟨h1, h2, h3, h4, h5, h6, h7⟩ := hT
  refine ⟨h1, ?_, ?_, h4, hb, h6, h7⟩
  · rw [x_fi_sI, if_neg (by omega)]
    exact h2
  · rw [x_fi_sI, if_pos ⟨rfl, rfl⟩]
set_option maxHeartbeats 4000000 in
set_option maxRecDepth 100000 in
theorem c_take_t {G : x_G} {ad st vl : Nat → Nat} {kt : Nat × Option Nat} (hG : x_GS G ad st vl kt) {h : x_H} {w n a : Nat} {C : Nat → Int32} (hT : c_T h w n a C) {k : Nat} (hk : k < 17) (hc : C a = z_kc k) : x_Call G mX8_take h [x_r (some w), x_r (some (ad k))] (some (x_i 1)) (x_sI h 802 w (nI (a + 1))) := by
  have h15 := hT.2.2.2.1
  have han : a < n := hT.2.2.2.2.2.2.lt (by rw [hc]; exact z_kc_ne hk)
  refine x_Ex.call (x_enter mwX8_take (Nat.le_of_ble_eq_true rfl) ?_)
  show x_E _ _ _ _ _ [(0, x_r (some w)), (1, x_r (some (ad k)))] _ _
  refine x_aload_n (i := 0) (o := some w) dX8_take_0 rfl rfl ?_
  refine x_getIv (v := nI a) dX8_take_1 fX8_take_19 (i := 802) rfl rfl hT.1.1 (hT.2.2.1) ?_
  refine x_if_lt (tgt := 46) dX8_take_4 (by decide) (fun c4 => ?_) (fun c4 => ?_)
  · skip
    exact absurd c4 (nI_pos (by omega))
  · skip
    refine x_aload_n (i := 0) (o := some w) dX8_take_7 rfl rfl ?_
    refine x_getIv (v := nI a) dX8_take_8 fX8_take_19 (i := 802) rfl rfl hT.1.1 (hT.2.2.1) ?_
    refine x_aload_n (i := 0) (o := some w) dX8_take_11 rfl rfl ?_
    refine x_getIv (v := nI n) dX8_take_12 fX8_take_15 (i := 801) rfl rfl hT.1.1 (hT.2.1) ?_
    refine x_icmp_ge (tgt := 46) dX8_take_15 (by decide) (fun c15 => ?_) (fun c15 => ?_)
    · skip
      exact absurd ((nI_leI (by omega) (by omega)).mp c15) (by omega)
    · skip
      refine x_aload_n (i := 0) (o := some w) dX8_take_18 rfl rfl ?_
      refine x_getIv (v := nI a) dX8_take_19 fX8_take_19 (i := 802) rfl rfl hT.1.1 (hT.2.2.1) ?_
      refine x_aload_n (i := 0) (o := some w) dX8_take_22 rfl rfl ?_
      refine x_getRv (v := some (w + 1)) dX8_take_23 fX8_take_9 (i := 800) rfl rfl hT.1.1 (hT.1.2.1) ?_
      refine x_alen (kd := 20) (t0 := 0) dX8_take_26 hT.1.2.2.1 (by omega) (by omega) rfl ?_
      rw [hT.1.2.2.2]
      refine x_icmp_ge (tgt := 46) dX8_take_27 (by decide) (fun c27 => ?_) (fun c27 => ?_)
      · skip
        exact absurd ((nI_leI (b := a) (by omega) (by omega)).mp c27) (by omega)
      · skip
        refine x_aload_n (i := 0) (o := some w) dX8_take_30 rfl rfl ?_
        refine x_getRv (v := some (w + 1)) dX8_take_31 fX8_take_9 (i := 800) rfl rfl hT.1.1 (hT.1.2.1) ?_
        refine x_aload_n (i := 0) (o := some w) dX8_take_34 rfl rfl ?_
        refine x_getIv (v := nI a) dX8_take_35 fX8_take_19 (i := 802) rfl rfl hT.1.1 (hT.2.2.1) ?_
        refine x_ialoadN (n := a) (v := C a) dX8_take_38 hT.1.2.2.1 (rfl) (by rw [hT.1.2.2.2]; omega) (by rw [hT.1.2.2.2]; omega) (hT.2.2.2.2.2.1 a (by omega)) ?_
        refine x_aload_n (i := 1) (o := some (ad k)) dX8_take_39 rfl rfl ?_
        refine x_getX (v := x_i (z_kc k)) dX8_take_40 fX8_take_36 (fun U hU => ((hG U hU).2.2.1 k hk).2.1) ?_
        refine x_icmp_eq (tgt := 48) dX8_take_43 (by decide) (fun c43 => ?_) (fun c43 => ?_)
        · skip
          refine x_aload_n (i := 0) (o := some w) dX8_take_48 rfl rfl ?_
          refine x_dup dX8_take_49 rfl ?_
          refine x_getIv (v := nI a) dX8_take_50 fX8_take_19 (i := 802) rfl rfl hT.1.1 (hT.2.2.1) ?_
          refine x_iconst (v := 1) dX8_take_53 (by decide) ?_
          refine x_iadd dX8_take_54 ?_
          rw [show (nI a) + 1 = nI (a + 1) from nI_1 a]
          refine x_putI (i := 802) dX8_take_55 pX8_take_19 rfl rfl hT.1.1 (rfl) (by rfl) ?_
          refine x_iconst (v := 1) dX8_take_58 (by decide) ?_
          refine x_ireturn dX8_take_59 rfl (rfl) ⟨Nat.le_refl _, Nat.le_refl _⟩ ?_
          exact ⟨rfl, rfl⟩
        · skip
          exact absurd hc c43
set_option maxHeartbeats 4000000 in
set_option maxRecDepth 100000 in
theorem c_take_f {G : x_G} {ad st vl : Nat → Nat} {kt : Nat × Option Nat} (hG : x_GS G ad st vl kt) {h : x_H} {w n a : Nat} {C : Nat → Int32} (hT : c_T h w n a C) {k : Nat} (hk : k < 17) (hc : ¬ C a = z_kc k) : x_Call G mX8_take h [x_r (some w), x_r (some (ad k))] (some (x_i 0)) h := by
  have h15 := hT.2.2.2.1
  have han := hT.2.2.2.2.1
  refine x_Ex.call (x_enter mwX8_take (Nat.le_of_ble_eq_true rfl) ?_)
  show x_E _ _ _ _ _ [(0, x_r (some w)), (1, x_r (some (ad k)))] _ _
  refine x_aload_n (i := 0) (o := some w) dX8_take_0 rfl rfl ?_
  refine x_getIv (v := nI a) dX8_take_1 fX8_take_19 (i := 802) rfl rfl hT.1.1 (hT.2.2.1) ?_
  refine x_if_lt (tgt := 46) dX8_take_4 (by decide) (fun c4 => ?_) (fun c4 => ?_)
  · skip
    exact absurd c4 (nI_pos (by omega))
  · skip
    refine x_aload_n (i := 0) (o := some w) dX8_take_7 rfl rfl ?_
    refine x_getIv (v := nI a) dX8_take_8 fX8_take_19 (i := 802) rfl rfl hT.1.1 (hT.2.2.1) ?_
    refine x_aload_n (i := 0) (o := some w) dX8_take_11 rfl rfl ?_
    refine x_getIv (v := nI n) dX8_take_12 fX8_take_15 (i := 801) rfl rfl hT.1.1 (hT.2.1) ?_
    refine x_icmp_ge (tgt := 46) dX8_take_15 (by decide) (fun c15 => ?_) (fun c15 => ?_)
    · skip
      refine x_iconst (v := 0) dX8_take_46 (by decide) ?_
      refine x_ireturn dX8_take_47 rfl (rfl) ⟨Nat.le_refl _, Nat.le_refl _⟩ ?_
      exact ⟨rfl, rfl⟩
    · skip
      have q15 : a < n := Nat.lt_of_not_le fun z => c15 (nI_le z (by omega))
      refine x_aload_n (i := 0) (o := some w) dX8_take_18 rfl rfl ?_
      refine x_getIv (v := nI a) dX8_take_19 fX8_take_19 (i := 802) rfl rfl hT.1.1 (hT.2.2.1) ?_
      refine x_aload_n (i := 0) (o := some w) dX8_take_22 rfl rfl ?_
      refine x_getRv (v := some (w + 1)) dX8_take_23 fX8_take_9 (i := 800) rfl rfl hT.1.1 (hT.1.2.1) ?_
      refine x_alen (kd := 20) (t0 := 0) dX8_take_26 hT.1.2.2.1 (by omega) (by omega) rfl ?_
      rw [hT.1.2.2.2]
      refine x_icmp_ge (tgt := 46) dX8_take_27 (by decide) (fun c27 => ?_) (fun c27 => ?_)
      · skip
        exact absurd ((nI_leI (b := a) (by omega) (by omega)).mp c27) (by omega)
      · skip
        refine x_aload_n (i := 0) (o := some w) dX8_take_30 rfl rfl ?_
        refine x_getRv (v := some (w + 1)) dX8_take_31 fX8_take_9 (i := 800) rfl rfl hT.1.1 (hT.1.2.1) ?_
        refine x_aload_n (i := 0) (o := some w) dX8_take_34 rfl rfl ?_
        refine x_getIv (v := nI a) dX8_take_35 fX8_take_19 (i := 802) rfl rfl hT.1.1 (hT.2.2.1) ?_
        refine x_ialoadN (n := a) (v := C a) dX8_take_38 hT.1.2.2.1 (rfl) (by rw [hT.1.2.2.2]; omega) (by rw [hT.1.2.2.2]; omega) (hT.2.2.2.2.2.1 a (by omega)) ?_
        refine x_aload_n (i := 1) (o := some (ad k)) dX8_take_39 rfl rfl ?_
        refine x_getX (v := x_i (z_kc k)) dX8_take_40 fX8_take_36 (fun U hU => ((hG U hU).2.2.1 k hk).2.1) ?_
        refine x_icmp_eq (tgt := 48) dX8_take_43 (by decide) (fun c43 => ?_) (fun c43 => ?_)
        · skip
          exact absurd c43 hc
        · skip
          refine x_iconst (v := 0) dX8_take_46 (by decide) ?_
          refine x_ireturn dX8_take_47 rfl (rfl) ⟨Nat.le_refl _, Nat.le_refl _⟩ ?_
          exact ⟨rfl, rfl⟩
set_option maxHeartbeats 4000000 in
set_option maxRecDepth 100000 in
theorem c_tnum_t (G : x_G) {h : x_H} {w n a : Nat} {C : Nat → Int32} (hT : c_T h w n a C) {lo hi : Int32} (hc : q_n C lo hi a) : x_Call G mX8_takeNumber h [x_r (some w), x_i lo, x_i hi] (some (x_i (C a))) (x_sI h 802 w (nI (a + 1))) := by
  have h15 := hT.2.2.2.1
  have han : a < n := hT.2.2.2.2.2.2.n hc
  refine x_Ex.call (x_enter mwX8_takeNumber (Nat.le_of_ble_eq_true rfl) ?_)
  show x_E _ _ _ _ _ [(0, x_r (some w)), (1, x_i lo), (2, x_i hi)] _ _
  refine x_aload_n (i := 0) (o := some w) dX8_takeNumber_0 rfl rfl ?_
  refine x_getIv (v := nI a) dX8_takeNumber_1 fX8_takeNumber_19 (i := 802) rfl rfl hT.1.1 (hT.2.2.1) ?_
  refine x_if_lt (tgt := 30) dX8_takeNumber_4 (by decide) (fun c4 => ?_) (fun c4 => ?_)
  · skip
    exact absurd c4 (nI_pos (by omega))
  · skip
    refine x_aload_n (i := 0) (o := some w) dX8_takeNumber_7 rfl rfl ?_
    refine x_getIv (v := nI a) dX8_takeNumber_8 fX8_takeNumber_19 (i := 802) rfl rfl hT.1.1 (hT.2.2.1) ?_
    refine x_aload_n (i := 0) (o := some w) dX8_takeNumber_11 rfl rfl ?_
    refine x_getIv (v := nI n) dX8_takeNumber_12 fX8_takeNumber_15 (i := 801) rfl rfl hT.1.1 (hT.2.1) ?_
    refine x_icmp_ge (tgt := 30) dX8_takeNumber_15 (by decide) (fun c15 => ?_) (fun c15 => ?_)
    · skip
      exact absurd ((nI_leI (by omega) (by omega)).mp c15) (by omega)
    · skip
      refine x_aload_n (i := 0) (o := some w) dX8_takeNumber_18 rfl rfl ?_
      refine x_getIv (v := nI a) dX8_takeNumber_19 fX8_takeNumber_19 (i := 802) rfl rfl hT.1.1 (hT.2.2.1) ?_
      refine x_aload_n (i := 0) (o := some w) dX8_takeNumber_22 rfl rfl ?_
      refine x_getRv (v := some (w + 1)) dX8_takeNumber_23 fX8_takeNumber_9 (i := 800) rfl rfl hT.1.1 (hT.1.2.1) ?_
      refine x_alen (kd := 20) (t0 := 0) dX8_takeNumber_26 hT.1.2.2.1 (by omega) (by omega) rfl ?_
      rw [hT.1.2.2.2]
      refine x_icmp_lt (tgt := 32) dX8_takeNumber_27 (by decide) (fun c27 => ?_) (fun c27 => ?_)
      · skip
        refine x_aload_n (i := 0) (o := some w) dX8_takeNumber_32 rfl rfl ?_
        refine x_getRv (v := some (w + 1)) dX8_takeNumber_33 fX8_takeNumber_9 (i := 800) rfl rfl hT.1.1 (hT.1.2.1) ?_
        refine x_aload_n (i := 0) (o := some w) dX8_takeNumber_36 rfl rfl ?_
        refine x_getIv (v := nI a) dX8_takeNumber_37 fX8_takeNumber_19 (i := 802) rfl rfl hT.1.1 (hT.2.2.1) ?_
        refine x_ialoadN (n := a) (v := C a) dX8_takeNumber_40 hT.1.2.2.1 (rfl) (by rw [hT.1.2.2.2]; omega) (by rw [hT.1.2.2.2]; omega) (hT.2.2.2.2.2.1 a (by omega)) ?_
        refine x_istore_n (i := 3) (lv' := [(0, x_r (some w)), (1, x_i lo), (2, x_i hi), (3, x_i (C a))]) dX8_takeNumber_41 rfl (by decide) rfl ?_
        refine x_iload_n (i := 3) (x := C a) dX8_takeNumber_42 rfl rfl ?_
        refine x_iload_n (i := 1) (x := lo) dX8_takeNumber_43 rfl rfl ?_
        refine x_icmp_lt (tgt := 52) dX8_takeNumber_44 (by decide) (fun c44 => ?_) (fun c44 => ?_)
        · skip
          exact absurd hc.2.1 (Int32.not_le.mpr c44)
        · skip
          refine x_iload_n (i := 3) (x := C a) dX8_takeNumber_47 rfl rfl ?_
          refine x_iload_n (i := 2) (x := hi) dX8_takeNumber_48 rfl rfl ?_
          refine x_icmp_le (tgt := 54) dX8_takeNumber_49 (by decide) (fun c49 => ?_) (fun c49 => ?_)
          · skip
            refine x_aload_n (i := 0) (o := some w) dX8_takeNumber_54 rfl rfl ?_
            refine x_dup dX8_takeNumber_55 rfl ?_
            refine x_getIv (v := nI a) dX8_takeNumber_56 fX8_takeNumber_19 (i := 802) rfl rfl hT.1.1 (hT.2.2.1) ?_
            refine x_iconst (v := 1) dX8_takeNumber_59 (by decide) ?_
            refine x_iadd dX8_takeNumber_60 ?_
            rw [show (nI a) + 1 = nI (a + 1) from nI_1 a]
            refine x_putI (i := 802) dX8_takeNumber_61 pX8_takeNumber_19 rfl rfl hT.1.1 (rfl) (by rfl) ?_
            refine x_iload_n (i := 3) (x := C a) dX8_takeNumber_64 rfl rfl ?_
            refine x_ireturn dX8_takeNumber_65 rfl (rfl) ⟨Nat.le_refl _, Nat.le_refl _⟩ ?_
            exact ⟨rfl, rfl⟩
          · skip
            exact absurd hc.2.2 c49
      · skip
        exact absurd (nI_lt (b := 1500) (by omega) (by omega)) c27
set_option maxHeartbeats 4000000 in
set_option maxRecDepth 100000 in
theorem c_tnum_f (G : x_G) {h : x_H} {w n a : Nat} {C : Nat → Int32} (hT : c_T h w n a C) {lo hi : Int32} (h0 : 0 ≤ lo) (hc : ¬ q_n C lo hi a) : x_Call G mX8_takeNumber h [x_r (some w), x_i lo, x_i hi] (some (x_i (-1))) h := by
  have h15 := hT.2.2.2.1
  have han := hT.2.2.2.2.1
  refine x_Ex.call (x_enter mwX8_takeNumber (Nat.le_of_ble_eq_true rfl) ?_)
  show x_E _ _ _ _ _ [(0, x_r (some w)), (1, x_i lo), (2, x_i hi)] _ _
  refine x_aload_n (i := 0) (o := some w) dX8_takeNumber_0 rfl rfl ?_
  refine x_getIv (v := nI a) dX8_takeNumber_1 fX8_takeNumber_19 (i := 802) rfl rfl hT.1.1 (hT.2.2.1) ?_
  refine x_if_lt (tgt := 30) dX8_takeNumber_4 (by decide) (fun c4 => ?_) (fun c4 => ?_)
  · skip
    exact absurd c4 (nI_pos (by omega))
  · skip
    refine x_aload_n (i := 0) (o := some w) dX8_takeNumber_7 rfl rfl ?_
    refine x_getIv (v := nI a) dX8_takeNumber_8 fX8_takeNumber_19 (i := 802) rfl rfl hT.1.1 (hT.2.2.1) ?_
    refine x_aload_n (i := 0) (o := some w) dX8_takeNumber_11 rfl rfl ?_
    refine x_getIv (v := nI n) dX8_takeNumber_12 fX8_takeNumber_15 (i := 801) rfl rfl hT.1.1 (hT.2.1) ?_
    refine x_icmp_ge (tgt := 30) dX8_takeNumber_15 (by decide) (fun c15 => ?_) (fun c15 => ?_)
    · skip
      refine x_iconst (v := (-1)) dX8_takeNumber_30 (by decide) ?_
      refine x_ireturn dX8_takeNumber_31 rfl (rfl) ⟨Nat.le_refl _, Nat.le_refl _⟩ ?_
      exact ⟨rfl, rfl⟩
    · skip
      have q15 : a < n := Nat.lt_of_not_le fun z => c15 (nI_le z (by omega))
      refine x_aload_n (i := 0) (o := some w) dX8_takeNumber_18 rfl rfl ?_
      refine x_getIv (v := nI a) dX8_takeNumber_19 fX8_takeNumber_19 (i := 802) rfl rfl hT.1.1 (hT.2.2.1) ?_
      refine x_aload_n (i := 0) (o := some w) dX8_takeNumber_22 rfl rfl ?_
      refine x_getRv (v := some (w + 1)) dX8_takeNumber_23 fX8_takeNumber_9 (i := 800) rfl rfl hT.1.1 (hT.1.2.1) ?_
      refine x_alen (kd := 20) (t0 := 0) dX8_takeNumber_26 hT.1.2.2.1 (by omega) (by omega) rfl ?_
      rw [hT.1.2.2.2]
      refine x_icmp_lt (tgt := 32) dX8_takeNumber_27 (by decide) (fun c27 => ?_) (fun c27 => ?_)
      · skip
        refine x_aload_n (i := 0) (o := some w) dX8_takeNumber_32 rfl rfl ?_
        refine x_getRv (v := some (w + 1)) dX8_takeNumber_33 fX8_takeNumber_9 (i := 800) rfl rfl hT.1.1 (hT.1.2.1) ?_
        refine x_aload_n (i := 0) (o := some w) dX8_takeNumber_36 rfl rfl ?_
        refine x_getIv (v := nI a) dX8_takeNumber_37 fX8_takeNumber_19 (i := 802) rfl rfl hT.1.1 (hT.2.2.1) ?_
        refine x_ialoadN (n := a) (v := C a) dX8_takeNumber_40 hT.1.2.2.1 (rfl) (by rw [hT.1.2.2.2]; omega) (by rw [hT.1.2.2.2]; omega) (hT.2.2.2.2.2.1 a (by omega)) ?_
        refine x_istore_n (i := 3) (lv' := [(0, x_r (some w)), (1, x_i lo), (2, x_i hi), (3, x_i (C a))]) dX8_takeNumber_41 rfl (by decide) rfl ?_
        refine x_iload_n (i := 3) (x := C a) dX8_takeNumber_42 rfl rfl ?_
        refine x_iload_n (i := 1) (x := lo) dX8_takeNumber_43 rfl rfl ?_
        refine x_icmp_lt (tgt := 52) dX8_takeNumber_44 (by decide) (fun c44 => ?_) (fun c44 => ?_)
        · skip
          refine x_iconst (v := (-1)) dX8_takeNumber_52 (by decide) ?_
          refine x_ireturn dX8_takeNumber_53 rfl (rfl) ⟨Nat.le_refl _, Nat.le_refl _⟩ ?_
          exact ⟨rfl, rfl⟩
        · skip
          refine x_iload_n (i := 3) (x := C a) dX8_takeNumber_47 rfl rfl ?_
          refine x_iload_n (i := 2) (x := hi) dX8_takeNumber_48 rfl rfl ?_
          refine x_icmp_le (tgt := 54) dX8_takeNumber_49 (by decide) (fun c49 => ?_) (fun c49 => ?_)
          · skip
            exact absurd ⟨Int32.le_trans h0 (Int32.not_lt.mp c44), Int32.not_lt.mp c44, c49⟩ hc
          · skip
            refine x_iconst (v := (-1)) dX8_takeNumber_52 (by decide) ?_
            refine x_ireturn dX8_takeNumber_53 rfl (rfl) ⟨Nat.le_refl _, Nat.le_refl _⟩ ?_
            exact ⟨rfl, rfl⟩
      · skip
        exact absurd (nI_lt (b := 1500) (by omega) (by omega)) c27
