/-! THE CLASS: Facts: what is lacking, sums, verdicts of items -/
theorem z_toInt64_0 {x : Int32} (h : x.toInt64 = 0) : x = 0 := by
  have := congrArg Int64.toInt32 h
  simpa using this
set_option maxHeartbeats 4000000 in
set_option maxRecDepth 100000 in
theorem c_shareOf (G : x_G) {h : x_H} {fa : Nat} (hf : f_P h fa) {X : z_X} (hX : f_X h fa X) {C : Nat → Int32} {t a : Nat} (ht : y_tm C h t a) (hk : z_tk C a) (high : Bool) : x_Call G mX2_shareOf h [x_r (some fa), x_r (some t), x_i (if high = true then 1 else 0)] (some (x_l (if z_lk X C a = -1 then (if z_mi C a = true then -(z_md X C high a) else z_md X C high a) else 0))) h := by
  have hp16 := (z_pt_eq hk.2.2.1).2
  refine x_Ex.call (x_enter mwX2_shareOf (Nat.le_of_ble_eq_true rfl) ?_)
  show x_E _ _ _ _ _ [(0, x_r (some fa)), (1, x_r (some t)), (2, x_i (if high = true then 1 else 0))] _ _
  rcases emi : z_mi C a with _ | _
  · rcases high with _ | _
    · skip
      refine x_aload_n (i := 0) (o := some fa) dX2_shareOf_0 rfl rfl ?_
      refine x_aload_n (i := 1) (o := some t) dX2_shareOf_1 rfl rfl ?_
      refine x_getIv (v := nI (z_pt C a)) dX2_shareOf_2 fX2_shareOf_66 (i := 702) rfl rfl ht.1 ((ht.2.2.2.1.trans (z_pt_eq hk.2.2.1).1)) ?_
      by_cases qs : X.1 (z_pt C a) = true
      · skip
        refine x_callV (a := fa) (av := [x_i (nI (z_pt C a))]) (rest := []) (r := (some (x_i 1))) (h1 := h) dX2_shareOf_5 sX2_shareOf_71 (by first | (simp only [x_kd_sI, x_kd_sA, x_kd_sJ]; exact hf.1) | exact hf.1) rfl rfl (Nat.le_of_ble_eq_true rfl) (by first | exact ⟨Nat.le_refl _, Nat.le_refl _⟩ | (simp only [x_sz_sI, x_sz_sA, x_sz_sJ, x_us_sI, x_us_sA, x_us_sJ]; exact ⟨Nat.le_refl _, Nat.le_refl _⟩)) (by have k := c_hasSpan G hf hX hp16; rw [if_pos qs] at k; exact k) ?_
        show x_E _ _ _ _ 8 _ [x_i 1] _
        refine x_if_eq (tgt := 18) dX2_shareOf_8 (by decide) (fun c => absurd c (by decide)) (fun _ => ?_)
        refine x_aload_n (i := 1) (o := some t) dX2_shareOf_11 rfl rfl ?_
        refine x_getIv (v := z_bq C a) dX2_shareOf_12 fX2_shareOf_75 (i := 704) rfl rfl ht.1 (ht.2.2.2.2.2) ?_
        refine x_if_ne (tgt := 20) dX2_shareOf_15 (by decide) (fun c15 => ?_) (fun c15 => ?_)
        · skip
          refine x_iload_n (i := 2) (x := 0) dX2_shareOf_20 rfl rfl ?_
          refine x_aload_n (i := 1) (o := some t) dX2_shareOf_21 rfl rfl ?_
          refine x_getIv (v := 0) dX2_shareOf_22 fX2_shareOf_85 (i := 700) rfl rfl ht.1 (ht.2.1.trans (by rw [emi]; rfl)) ?_
          refine x_icmp_eq (tgt := 40) dX2_shareOf_25 (by decide) (fun _ => ?_) (fun c => absurd (by decide) c)
          refine x_aload_n (i := 0) (o := some fa) dX2_shareOf_40 rfl rfl ?_
          refine x_getRv (v := some (fa + 1)) dX2_shareOf_41 fX2_shareOf_15 (i := 301) rfl rfl (by first | (simp only [x_kd_sI, x_kd_sA, x_kd_sJ]; exact hf.1) | exact hf.1) ((by first | (simp only [x_fr_sI, x_fr_sA, x_fr_sJ]; exact hf.2.1.1) | exact hf.2.1.1)) ?_
          refine x_aload_n (i := 1) (o := some t) dX2_shareOf_44 rfl rfl ?_
          refine x_getIv (v := nI (z_pt C a)) dX2_shareOf_45 fX2_shareOf_66 (i := 702) rfl rfl ht.1 ((ht.2.2.2.1.trans (z_pt_eq hk.2.2.1).1)) ?_
          refine x_laloadN (n := z_pt C a) (v := X.2.1 (z_pt C a)) dX2_shareOf_48 (by first | (simp only [x_kd_sI, x_kd_sA, x_kd_sJ]; exact hf.2.1.2.1) | exact hf.2.1.2.1) (rfl) (by first | (rw [hf.2.1.2.2]; omega) | (simp only [x_ln_sI, x_ln_sA, x_ln_sJ]; rw [hf.2.1.2.2]; omega)) (by first | (rw [hf.2.1.2.2]; omega) | (simp only [x_ln_sI, x_ln_sA, x_ln_sJ]; rw [hf.2.1.2.2]; omega)) ((hX.1 _ hp16).2.1) ?_
          refine x_lstore_n (i := 3) (lv' := [(0, x_r (some fa)), (1, x_r (some t)), (2, x_i 0), (3, x_l (X.2.1 (z_pt C a)))]) dX2_shareOf_49 rfl (by decide) rfl ?_
          refine x_lload_n (i := 3) (x := X.2.1 (z_pt C a)) dX2_shareOf_50 rfl rfl ?_
          refine x_aload_n (i := 1) (o := some t) dX2_shareOf_51 rfl rfl ?_
          refine x_getIv (v := z_cu C a) dX2_shareOf_52 fX2_shareOf_88 (i := 703) rfl rfl ht.1 (ht.2.2.2.2.1) ?_
          refine x_i2l dX2_shareOf_55 ?_
          refine x_lcmp dX2_shareOf_56 ?_
          refine x_if_ge (tgt := 62) dX2_shareOf_57 (by decide) (fun c57 => ?_) (fun c57 => ?_)
          · skip
            refine x_lload_n (i := 3) (x := X.2.1 (z_pt C a)) dX2_shareOf_62 rfl rfl ?_
            refine x_aload_n (i := 1) (o := some t) dX2_shareOf_63 rfl rfl ?_
            refine x_getIv (v := C (a + 1)) dX2_shareOf_64 fX2_shareOf_91 (i := 701) rfl rfl ht.1 (ht.2.2.1) ?_
            refine x_i2l dX2_shareOf_67 ?_
            refine x_lmul dX2_shareOf_68 ?_
            refine x_aload_n (i := 1) (o := some t) dX2_shareOf_69 rfl rfl ?_
            refine x_getIv (v := z_bq C a) dX2_shareOf_70 fX2_shareOf_75 (i := 704) rfl rfl ht.1 (ht.2.2.2.2.2) ?_
            refine x_i2l dX2_shareOf_73 ?_
            refine x_ldiv dX2_shareOf_74 (fun z => c15 (z_toInt64_0 z)) ?_
            refine x_lstore (i := 5) (lv' := [(0, x_r (some fa)), (1, x_r (some t)), (2, x_i 0), (3, x_l (X.2.1 (z_pt C a))), (5, x_l (((X.2.1 (z_pt C a)) * (Int32.toInt64 (C (a + 1)))) / (Int32.toInt64 (z_bq C a))))]) dX2_shareOf_75 (by decide) rfl ?_
            refine x_aload_n (i := 1) (o := some t) dX2_shareOf_77 rfl rfl ?_
            refine x_getIv (v := 0) dX2_shareOf_78 fX2_shareOf_85 (i := 700) rfl rfl ht.1 (ht.2.1.trans (by rw [emi]; rfl)) ?_
            refine x_if_eq (tgt := 90) dX2_shareOf_81 (by decide) (fun _ => ?_) (fun c => absurd (by decide) c)
            refine x_lload (i := 5) (x := ((X.2.1 (z_pt C a)) * (Int32.toInt64 (C (a + 1)))) / (Int32.toInt64 (z_bq C a))) dX2_shareOf_90 rfl ?_
            refine x_lreturn dX2_shareOf_92 rfl (by first | exact ⟨Nat.le_refl _, Nat.le_refl _⟩ | (simp only [x_sz_sI, x_sz_sA, x_sz_sJ, x_us_sI, x_us_sA, x_us_sJ]; exact ⟨Nat.le_refl _, Nat.le_refl _⟩)) ?_
            refine ⟨?_, rfl⟩
            have elk : z_lk X C a = -1 := by unfold z_lk; rw [if_neg (by rw [qs]; decide), if_neg c15]
            have evl : z_vl X C false a = X.2.1 (z_pt C a) := by unfold z_vl; rw [emi]; exact if_pos rfl
            have ect : z_ct X C false a = X.2.1 (z_pt C a) := by unfold z_ct; rw [evl]; exact if_neg (Int64.not_lt.mpr ((lg_cmp_ge _ _).mp c57))
            rw [if_pos elk]
            rw [if_neg (show ¬ (false : Bool) = true by decide)]
            unfold z_md
            rw [ect]
          · skip
            refine x_lconst (v := 0) dX2_shareOf_60 (by decide) ?_
            refine x_lstore_n (i := 3) (lv' := [(0, x_r (some fa)), (1, x_r (some t)), (2, x_i 0), (3, x_l 0)]) dX2_shareOf_61 rfl (by decide) rfl ?_
            refine x_lload_n (i := 3) (x := 0) dX2_shareOf_62 rfl rfl ?_
            refine x_aload_n (i := 1) (o := some t) dX2_shareOf_63 rfl rfl ?_
            refine x_getIv (v := C (a + 1)) dX2_shareOf_64 fX2_shareOf_91 (i := 701) rfl rfl ht.1 (ht.2.2.1) ?_
            refine x_i2l dX2_shareOf_67 ?_
            refine x_lmul dX2_shareOf_68 ?_
            refine x_aload_n (i := 1) (o := some t) dX2_shareOf_69 rfl rfl ?_
            refine x_getIv (v := z_bq C a) dX2_shareOf_70 fX2_shareOf_75 (i := 704) rfl rfl ht.1 (ht.2.2.2.2.2) ?_
            refine x_i2l dX2_shareOf_73 ?_
            refine x_ldiv dX2_shareOf_74 (fun z => c15 (z_toInt64_0 z)) ?_
            refine x_lstore (i := 5) (lv' := [(0, x_r (some fa)), (1, x_r (some t)), (2, x_i 0), (3, x_l 0), (5, x_l ((0 * (Int32.toInt64 (C (a + 1)))) / (Int32.toInt64 (z_bq C a))))]) dX2_shareOf_75 (by decide) rfl ?_
            refine x_aload_n (i := 1) (o := some t) dX2_shareOf_77 rfl rfl ?_
            refine x_getIv (v := 0) dX2_shareOf_78 fX2_shareOf_85 (i := 700) rfl rfl ht.1 (ht.2.1.trans (by rw [emi]; rfl)) ?_
            refine x_if_eq (tgt := 90) dX2_shareOf_81 (by decide) (fun _ => ?_) (fun c => absurd (by decide) c)
            refine x_lload (i := 5) (x := (0 * (Int32.toInt64 (C (a + 1)))) / (Int32.toInt64 (z_bq C a))) dX2_shareOf_90 rfl ?_
            refine x_lreturn dX2_shareOf_92 rfl (by first | exact ⟨Nat.le_refl _, Nat.le_refl _⟩ | (simp only [x_sz_sI, x_sz_sA, x_sz_sJ, x_us_sI, x_us_sA, x_us_sJ]; exact ⟨Nat.le_refl _, Nat.le_refl _⟩)) ?_
            refine ⟨?_, rfl⟩
            have elk : z_lk X C a = -1 := by unfold z_lk; rw [if_neg (by rw [qs]; decide), if_neg c15]
            have evl : z_vl X C false a = X.2.1 (z_pt C a) := by unfold z_vl; rw [emi]; exact if_pos rfl
            have ect : z_ct X C false a = 0 := by unfold z_ct; rw [evl]; exact if_pos (Int64.not_le.mp fun z => c57 ((lg_cmp_ge _ _).mpr z))
            rw [if_pos elk]
            rw [if_neg (show ¬ (false : Bool) = true by decide)]
            unfold z_md
            rw [ect]
        · skip
          refine x_lconst (v := 0) dX2_shareOf_18 (by decide) ?_
          refine x_lreturn dX2_shareOf_19 rfl (by first | exact ⟨Nat.le_refl _, Nat.le_refl _⟩ | (simp only [x_sz_sI, x_sz_sA, x_sz_sJ, x_us_sI, x_us_sA, x_us_sJ]; exact ⟨Nat.le_refl _, Nat.le_refl _⟩)) ?_
          refine ⟨?_, rfl⟩
          rw [if_neg]
          rw [show z_lk X C a = 200 + C (a + 3) from by unfold z_lk; rw [if_neg (by rw [qs]; decide), if_pos c15], (z_pt_eq hk.2.2.1).1]
          exact z_neg1 (nI_add 200 _ ▸ nI_pos' (by omega))
      · skip
        refine x_callV (a := fa) (av := [x_i (nI (z_pt C a))]) (rest := []) (r := (some (x_i 0))) (h1 := h) dX2_shareOf_5 sX2_shareOf_71 (by first | (simp only [x_kd_sI, x_kd_sA, x_kd_sJ]; exact hf.1) | exact hf.1) rfl rfl (Nat.le_of_ble_eq_true rfl) (by first | exact ⟨Nat.le_refl _, Nat.le_refl _⟩ | (simp only [x_sz_sI, x_sz_sA, x_sz_sJ, x_us_sI, x_us_sA, x_us_sJ]; exact ⟨Nat.le_refl _, Nat.le_refl _⟩)) (by have k := c_hasSpan G hf hX hp16; rw [if_neg qs] at k; exact k) ?_
        show x_E _ _ _ _ 8 _ [x_i 0] _
        refine x_if_eq (tgt := 18) dX2_shareOf_8 (by decide) (fun _ => ?_) (fun c => absurd (by decide) c)
        refine x_lconst (v := 0) dX2_shareOf_18 (by decide) ?_
        refine x_lreturn dX2_shareOf_19 rfl (by first | exact ⟨Nat.le_refl _, Nat.le_refl _⟩ | (simp only [x_sz_sI, x_sz_sA, x_sz_sJ, x_us_sI, x_us_sA, x_us_sJ]; exact ⟨Nat.le_refl _, Nat.le_refl _⟩)) ?_
        refine ⟨?_, rfl⟩
        rw [if_neg]
        rw [show z_lk X C a = C (a + 3) from if_pos (by simpa using qs)]
        exact z_neg1 hk.2.2.1.1
    · skip
      refine x_aload_n (i := 0) (o := some fa) dX2_shareOf_0 rfl rfl ?_
      refine x_aload_n (i := 1) (o := some t) dX2_shareOf_1 rfl rfl ?_
      refine x_getIv (v := nI (z_pt C a)) dX2_shareOf_2 fX2_shareOf_66 (i := 702) rfl rfl ht.1 ((ht.2.2.2.1.trans (z_pt_eq hk.2.2.1).1)) ?_
      by_cases qs : X.1 (z_pt C a) = true
      · skip
        refine x_callV (a := fa) (av := [x_i (nI (z_pt C a))]) (rest := []) (r := (some (x_i 1))) (h1 := h) dX2_shareOf_5 sX2_shareOf_71 (by first | (simp only [x_kd_sI, x_kd_sA, x_kd_sJ]; exact hf.1) | exact hf.1) rfl rfl (Nat.le_of_ble_eq_true rfl) (by first | exact ⟨Nat.le_refl _, Nat.le_refl _⟩ | (simp only [x_sz_sI, x_sz_sA, x_sz_sJ, x_us_sI, x_us_sA, x_us_sJ]; exact ⟨Nat.le_refl _, Nat.le_refl _⟩)) (by have k := c_hasSpan G hf hX hp16; rw [if_pos qs] at k; exact k) ?_
        show x_E _ _ _ _ 8 _ [x_i 1] _
        refine x_if_eq (tgt := 18) dX2_shareOf_8 (by decide) (fun c => absurd c (by decide)) (fun _ => ?_)
        refine x_aload_n (i := 1) (o := some t) dX2_shareOf_11 rfl rfl ?_
        refine x_getIv (v := z_bq C a) dX2_shareOf_12 fX2_shareOf_75 (i := 704) rfl rfl ht.1 (ht.2.2.2.2.2) ?_
        refine x_if_ne (tgt := 20) dX2_shareOf_15 (by decide) (fun c15 => ?_) (fun c15 => ?_)
        · skip
          refine x_iload_n (i := 2) (x := 1) dX2_shareOf_20 rfl rfl ?_
          refine x_aload_n (i := 1) (o := some t) dX2_shareOf_21 rfl rfl ?_
          refine x_getIv (v := 0) dX2_shareOf_22 fX2_shareOf_85 (i := 700) rfl rfl ht.1 (ht.2.1.trans (by rw [emi]; rfl)) ?_
          refine x_icmp_eq (tgt := 40) dX2_shareOf_25 (by decide) (fun c => absurd c (by decide)) (fun _ => ?_)
          refine x_aload_n (i := 0) (o := some fa) dX2_shareOf_28 rfl rfl ?_
          refine x_getRv (v := some (fa + 2)) dX2_shareOf_29 fX2_shareOf_19 (i := 302) rfl rfl (by first | (simp only [x_kd_sI, x_kd_sA, x_kd_sJ]; exact hf.1) | exact hf.1) ((by first | (simp only [x_fr_sI, x_fr_sA, x_fr_sJ]; exact hf.2.2.1.1) | exact hf.2.2.1.1)) ?_
          refine x_aload_n (i := 1) (o := some t) dX2_shareOf_32 rfl rfl ?_
          refine x_getIv (v := nI (z_pt C a)) dX2_shareOf_33 fX2_shareOf_66 (i := 702) rfl rfl ht.1 ((ht.2.2.2.1.trans (z_pt_eq hk.2.2.1).1)) ?_
          refine x_laloadN (n := z_pt C a) (v := X.2.2.1 (z_pt C a)) dX2_shareOf_36 (by first | (simp only [x_kd_sI, x_kd_sA, x_kd_sJ]; exact hf.2.2.1.2.1) | exact hf.2.2.1.2.1) (rfl) (by first | (rw [hf.2.2.1.2.2]; omega) | (simp only [x_ln_sI, x_ln_sA, x_ln_sJ]; rw [hf.2.2.1.2.2]; omega)) (by first | (rw [hf.2.2.1.2.2]; omega) | (simp only [x_ln_sI, x_ln_sA, x_ln_sJ]; rw [hf.2.2.1.2.2]; omega)) ((hX.1 _ hp16).2.2) ?_
          refine x_goto (tgt := 49) dX2_shareOf_37 (by decide) ?_
          refine x_lstore_n (i := 3) (lv' := [(0, x_r (some fa)), (1, x_r (some t)), (2, x_i 1), (3, x_l (X.2.2.1 (z_pt C a)))]) dX2_shareOf_49 rfl (by decide) rfl ?_
          refine x_lload_n (i := 3) (x := X.2.2.1 (z_pt C a)) dX2_shareOf_50 rfl rfl ?_
          refine x_aload_n (i := 1) (o := some t) dX2_shareOf_51 rfl rfl ?_
          refine x_getIv (v := z_cu C a) dX2_shareOf_52 fX2_shareOf_88 (i := 703) rfl rfl ht.1 (ht.2.2.2.2.1) ?_
          refine x_i2l dX2_shareOf_55 ?_
          refine x_lcmp dX2_shareOf_56 ?_
          refine x_if_ge (tgt := 62) dX2_shareOf_57 (by decide) (fun c57 => ?_) (fun c57 => ?_)
          · skip
            refine x_lload_n (i := 3) (x := X.2.2.1 (z_pt C a)) dX2_shareOf_62 rfl rfl ?_
            refine x_aload_n (i := 1) (o := some t) dX2_shareOf_63 rfl rfl ?_
            refine x_getIv (v := C (a + 1)) dX2_shareOf_64 fX2_shareOf_91 (i := 701) rfl rfl ht.1 (ht.2.2.1) ?_
            refine x_i2l dX2_shareOf_67 ?_
            refine x_lmul dX2_shareOf_68 ?_
            refine x_aload_n (i := 1) (o := some t) dX2_shareOf_69 rfl rfl ?_
            refine x_getIv (v := z_bq C a) dX2_shareOf_70 fX2_shareOf_75 (i := 704) rfl rfl ht.1 (ht.2.2.2.2.2) ?_
            refine x_i2l dX2_shareOf_73 ?_
            refine x_ldiv dX2_shareOf_74 (fun z => c15 (z_toInt64_0 z)) ?_
            refine x_lstore (i := 5) (lv' := [(0, x_r (some fa)), (1, x_r (some t)), (2, x_i 1), (3, x_l (X.2.2.1 (z_pt C a))), (5, x_l (((X.2.2.1 (z_pt C a)) * (Int32.toInt64 (C (a + 1)))) / (Int32.toInt64 (z_bq C a))))]) dX2_shareOf_75 (by decide) rfl ?_
            refine x_aload_n (i := 1) (o := some t) dX2_shareOf_77 rfl rfl ?_
            refine x_getIv (v := 0) dX2_shareOf_78 fX2_shareOf_85 (i := 700) rfl rfl ht.1 (ht.2.1.trans (by rw [emi]; rfl)) ?_
            refine x_if_eq (tgt := 90) dX2_shareOf_81 (by decide) (fun _ => ?_) (fun c => absurd (by decide) c)
            refine x_lload (i := 5) (x := ((X.2.2.1 (z_pt C a)) * (Int32.toInt64 (C (a + 1)))) / (Int32.toInt64 (z_bq C a))) dX2_shareOf_90 rfl ?_
            refine x_lreturn dX2_shareOf_92 rfl (by first | exact ⟨Nat.le_refl _, Nat.le_refl _⟩ | (simp only [x_sz_sI, x_sz_sA, x_sz_sJ, x_us_sI, x_us_sA, x_us_sJ]; exact ⟨Nat.le_refl _, Nat.le_refl _⟩)) ?_
            refine ⟨?_, rfl⟩
            have elk : z_lk X C a = -1 := by unfold z_lk; rw [if_neg (by rw [qs]; decide), if_neg c15]
            have evl : z_vl X C true a = X.2.2.1 (z_pt C a) := by unfold z_vl; rw [emi]; exact if_neg (by decide)
            have ect : z_ct X C true a = X.2.2.1 (z_pt C a) := by unfold z_ct; rw [evl]; exact if_neg (Int64.not_lt.mpr ((lg_cmp_ge _ _).mp c57))
            rw [if_pos elk]
            rw [if_neg (show ¬ (false : Bool) = true by decide)]
            unfold z_md
            rw [ect]
          · skip
            refine x_lconst (v := 0) dX2_shareOf_60 (by decide) ?_
            refine x_lstore_n (i := 3) (lv' := [(0, x_r (some fa)), (1, x_r (some t)), (2, x_i 1), (3, x_l 0)]) dX2_shareOf_61 rfl (by decide) rfl ?_
            refine x_lload_n (i := 3) (x := 0) dX2_shareOf_62 rfl rfl ?_
            refine x_aload_n (i := 1) (o := some t) dX2_shareOf_63 rfl rfl ?_
            refine x_getIv (v := C (a + 1)) dX2_shareOf_64 fX2_shareOf_91 (i := 701) rfl rfl ht.1 (ht.2.2.1) ?_
            refine x_i2l dX2_shareOf_67 ?_
            refine x_lmul dX2_shareOf_68 ?_
            refine x_aload_n (i := 1) (o := some t) dX2_shareOf_69 rfl rfl ?_
            refine x_getIv (v := z_bq C a) dX2_shareOf_70 fX2_shareOf_75 (i := 704) rfl rfl ht.1 (ht.2.2.2.2.2) ?_
            refine x_i2l dX2_shareOf_73 ?_
            refine x_ldiv dX2_shareOf_74 (fun z => c15 (z_toInt64_0 z)) ?_
            refine x_lstore (i := 5) (lv' := [(0, x_r (some fa)), (1, x_r (some t)), (2, x_i 1), (3, x_l 0), (5, x_l ((0 * (Int32.toInt64 (C (a + 1)))) / (Int32.toInt64 (z_bq C a))))]) dX2_shareOf_75 (by decide) rfl ?_
            refine x_aload_n (i := 1) (o := some t) dX2_shareOf_77 rfl rfl ?_
            refine x_getIv (v := 0) dX2_shareOf_78 fX2_shareOf_85 (i := 700) rfl rfl ht.1 (ht.2.1.trans (by rw [emi]; rfl)) ?_
            refine x_if_eq (tgt := 90) dX2_shareOf_81 (by decide) (fun _ => ?_) (fun c => absurd (by decide) c)
            refine x_lload (i := 5) (x := (0 * (Int32.toInt64 (C (a + 1)))) / (Int32.toInt64 (z_bq C a))) dX2_shareOf_90 rfl ?_
            refine x_lreturn dX2_shareOf_92 rfl (by first | exact ⟨Nat.le_refl _, Nat.le_refl _⟩ | (simp only [x_sz_sI, x_sz_sA, x_sz_sJ, x_us_sI, x_us_sA, x_us_sJ]; exact ⟨Nat.le_refl _, Nat.le_refl _⟩)) ?_
            refine ⟨?_, rfl⟩
            have elk : z_lk X C a = -1 := by unfold z_lk; rw [if_neg (by rw [qs]; decide), if_neg c15]
            have evl : z_vl X C true a = X.2.2.1 (z_pt C a) := by unfold z_vl; rw [emi]; exact if_neg (by decide)
            have ect : z_ct X C true a = 0 := by unfold z_ct; rw [evl]; exact if_pos (Int64.not_le.mp fun z => c57 ((lg_cmp_ge _ _).mpr z))
            rw [if_pos elk]
            rw [if_neg (show ¬ (false : Bool) = true by decide)]
            unfold z_md
            rw [ect]
        · skip
          refine x_lconst (v := 0) dX2_shareOf_18 (by decide) ?_
          refine x_lreturn dX2_shareOf_19 rfl (by first | exact ⟨Nat.le_refl _, Nat.le_refl _⟩ | (simp only [x_sz_sI, x_sz_sA, x_sz_sJ, x_us_sI, x_us_sA, x_us_sJ]; exact ⟨Nat.le_refl _, Nat.le_refl _⟩)) ?_
          refine ⟨?_, rfl⟩
          rw [if_neg]
          rw [show z_lk X C a = 200 + C (a + 3) from by unfold z_lk; rw [if_neg (by rw [qs]; decide), if_pos c15], (z_pt_eq hk.2.2.1).1]
          exact z_neg1 (nI_add 200 _ ▸ nI_pos' (by omega))
      · skip
        refine x_callV (a := fa) (av := [x_i (nI (z_pt C a))]) (rest := []) (r := (some (x_i 0))) (h1 := h) dX2_shareOf_5 sX2_shareOf_71 (by first | (simp only [x_kd_sI, x_kd_sA, x_kd_sJ]; exact hf.1) | exact hf.1) rfl rfl (Nat.le_of_ble_eq_true rfl) (by first | exact ⟨Nat.le_refl _, Nat.le_refl _⟩ | (simp only [x_sz_sI, x_sz_sA, x_sz_sJ, x_us_sI, x_us_sA, x_us_sJ]; exact ⟨Nat.le_refl _, Nat.le_refl _⟩)) (by have k := c_hasSpan G hf hX hp16; rw [if_neg qs] at k; exact k) ?_
        show x_E _ _ _ _ 8 _ [x_i 0] _
        refine x_if_eq (tgt := 18) dX2_shareOf_8 (by decide) (fun _ => ?_) (fun c => absurd (by decide) c)
        refine x_lconst (v := 0) dX2_shareOf_18 (by decide) ?_
        refine x_lreturn dX2_shareOf_19 rfl (by first | exact ⟨Nat.le_refl _, Nat.le_refl _⟩ | (simp only [x_sz_sI, x_sz_sA, x_sz_sJ, x_us_sI, x_us_sA, x_us_sJ]; exact ⟨Nat.le_refl _, Nat.le_refl _⟩)) ?_
        refine ⟨?_, rfl⟩
        rw [if_neg]
        rw [show z_lk X C a = C (a + 3) from if_pos (by simpa using qs)]
        exact z_neg1 hk.2.2.1.1
  · rcases high with _ | _
    · skip
      refine x_aload_n (i := 0) (o := some fa) dX2_shareOf_0 rfl rfl ?_
      refine x_aload_n (i := 1) (o := some t) dX2_shareOf_1 rfl rfl ?_
      refine x_getIv (v := nI (z_pt C a)) dX2_shareOf_2 fX2_shareOf_66 (i := 702) rfl rfl ht.1 ((ht.2.2.2.1.trans (z_pt_eq hk.2.2.1).1)) ?_
      by_cases qs : X.1 (z_pt C a) = true
      · skip
        refine x_callV (a := fa) (av := [x_i (nI (z_pt C a))]) (rest := []) (r := (some (x_i 1))) (h1 := h) dX2_shareOf_5 sX2_shareOf_71 (by first | (simp only [x_kd_sI, x_kd_sA, x_kd_sJ]; exact hf.1) | exact hf.1) rfl rfl (Nat.le_of_ble_eq_true rfl) (by first | exact ⟨Nat.le_refl _, Nat.le_refl _⟩ | (simp only [x_sz_sI, x_sz_sA, x_sz_sJ, x_us_sI, x_us_sA, x_us_sJ]; exact ⟨Nat.le_refl _, Nat.le_refl _⟩)) (by have k := c_hasSpan G hf hX hp16; rw [if_pos qs] at k; exact k) ?_
        show x_E _ _ _ _ 8 _ [x_i 1] _
        refine x_if_eq (tgt := 18) dX2_shareOf_8 (by decide) (fun c => absurd c (by decide)) (fun _ => ?_)
        refine x_aload_n (i := 1) (o := some t) dX2_shareOf_11 rfl rfl ?_
        refine x_getIv (v := z_bq C a) dX2_shareOf_12 fX2_shareOf_75 (i := 704) rfl rfl ht.1 (ht.2.2.2.2.2) ?_
        refine x_if_ne (tgt := 20) dX2_shareOf_15 (by decide) (fun c15 => ?_) (fun c15 => ?_)
        · skip
          refine x_iload_n (i := 2) (x := 0) dX2_shareOf_20 rfl rfl ?_
          refine x_aload_n (i := 1) (o := some t) dX2_shareOf_21 rfl rfl ?_
          refine x_getIv (v := 1) dX2_shareOf_22 fX2_shareOf_85 (i := 700) rfl rfl ht.1 (ht.2.1.trans (by rw [emi]; rfl)) ?_
          refine x_icmp_eq (tgt := 40) dX2_shareOf_25 (by decide) (fun c => absurd c (by decide)) (fun _ => ?_)
          refine x_aload_n (i := 0) (o := some fa) dX2_shareOf_28 rfl rfl ?_
          refine x_getRv (v := some (fa + 2)) dX2_shareOf_29 fX2_shareOf_19 (i := 302) rfl rfl (by first | (simp only [x_kd_sI, x_kd_sA, x_kd_sJ]; exact hf.1) | exact hf.1) ((by first | (simp only [x_fr_sI, x_fr_sA, x_fr_sJ]; exact hf.2.2.1.1) | exact hf.2.2.1.1)) ?_
          refine x_aload_n (i := 1) (o := some t) dX2_shareOf_32 rfl rfl ?_
          refine x_getIv (v := nI (z_pt C a)) dX2_shareOf_33 fX2_shareOf_66 (i := 702) rfl rfl ht.1 ((ht.2.2.2.1.trans (z_pt_eq hk.2.2.1).1)) ?_
          refine x_laloadN (n := z_pt C a) (v := X.2.2.1 (z_pt C a)) dX2_shareOf_36 (by first | (simp only [x_kd_sI, x_kd_sA, x_kd_sJ]; exact hf.2.2.1.2.1) | exact hf.2.2.1.2.1) (rfl) (by first | (rw [hf.2.2.1.2.2]; omega) | (simp only [x_ln_sI, x_ln_sA, x_ln_sJ]; rw [hf.2.2.1.2.2]; omega)) (by first | (rw [hf.2.2.1.2.2]; omega) | (simp only [x_ln_sI, x_ln_sA, x_ln_sJ]; rw [hf.2.2.1.2.2]; omega)) ((hX.1 _ hp16).2.2) ?_
          refine x_goto (tgt := 49) dX2_shareOf_37 (by decide) ?_
          refine x_lstore_n (i := 3) (lv' := [(0, x_r (some fa)), (1, x_r (some t)), (2, x_i 0), (3, x_l (X.2.2.1 (z_pt C a)))]) dX2_shareOf_49 rfl (by decide) rfl ?_
          refine x_lload_n (i := 3) (x := X.2.2.1 (z_pt C a)) dX2_shareOf_50 rfl rfl ?_
          refine x_aload_n (i := 1) (o := some t) dX2_shareOf_51 rfl rfl ?_
          refine x_getIv (v := z_cu C a) dX2_shareOf_52 fX2_shareOf_88 (i := 703) rfl rfl ht.1 (ht.2.2.2.2.1) ?_
          refine x_i2l dX2_shareOf_55 ?_
          refine x_lcmp dX2_shareOf_56 ?_
          refine x_if_ge (tgt := 62) dX2_shareOf_57 (by decide) (fun c57 => ?_) (fun c57 => ?_)
          · skip
            refine x_lload_n (i := 3) (x := X.2.2.1 (z_pt C a)) dX2_shareOf_62 rfl rfl ?_
            refine x_aload_n (i := 1) (o := some t) dX2_shareOf_63 rfl rfl ?_
            refine x_getIv (v := C (a + 1)) dX2_shareOf_64 fX2_shareOf_91 (i := 701) rfl rfl ht.1 (ht.2.2.1) ?_
            refine x_i2l dX2_shareOf_67 ?_
            refine x_lmul dX2_shareOf_68 ?_
            refine x_aload_n (i := 1) (o := some t) dX2_shareOf_69 rfl rfl ?_
            refine x_getIv (v := z_bq C a) dX2_shareOf_70 fX2_shareOf_75 (i := 704) rfl rfl ht.1 (ht.2.2.2.2.2) ?_
            refine x_i2l dX2_shareOf_73 ?_
            refine x_ldiv dX2_shareOf_74 (fun z => c15 (z_toInt64_0 z)) ?_
            refine x_lstore (i := 5) (lv' := [(0, x_r (some fa)), (1, x_r (some t)), (2, x_i 0), (3, x_l (X.2.2.1 (z_pt C a))), (5, x_l (((X.2.2.1 (z_pt C a)) * (Int32.toInt64 (C (a + 1)))) / (Int32.toInt64 (z_bq C a))))]) dX2_shareOf_75 (by decide) rfl ?_
            refine x_aload_n (i := 1) (o := some t) dX2_shareOf_77 rfl rfl ?_
            refine x_getIv (v := 1) dX2_shareOf_78 fX2_shareOf_85 (i := 700) rfl rfl ht.1 (ht.2.1.trans (by rw [emi]; rfl)) ?_
            refine x_if_eq (tgt := 90) dX2_shareOf_81 (by decide) (fun c => absurd c (by decide)) (fun _ => ?_)
            refine x_lload (i := 5) (x := ((X.2.2.1 (z_pt C a)) * (Int32.toInt64 (C (a + 1)))) / (Int32.toInt64 (z_bq C a))) dX2_shareOf_84 rfl ?_
            refine x_lneg dX2_shareOf_86 ?_
            refine x_goto (tgt := 92) dX2_shareOf_87 (by decide) ?_
            refine x_lreturn dX2_shareOf_92 rfl (by first | exact ⟨Nat.le_refl _, Nat.le_refl _⟩ | (simp only [x_sz_sI, x_sz_sA, x_sz_sJ, x_us_sI, x_us_sA, x_us_sJ]; exact ⟨Nat.le_refl _, Nat.le_refl _⟩)) ?_
            refine ⟨?_, rfl⟩
            have elk : z_lk X C a = -1 := by unfold z_lk; rw [if_neg (by rw [qs]; decide), if_neg c15]
            have evl : z_vl X C false a = X.2.2.1 (z_pt C a) := by unfold z_vl; rw [emi]; exact if_neg (by decide)
            have ect : z_ct X C false a = X.2.2.1 (z_pt C a) := by unfold z_ct; rw [evl]; exact if_neg (Int64.not_lt.mpr ((lg_cmp_ge _ _).mp c57))
            rw [if_pos elk]
            rw [if_pos (show (true : Bool) = true from rfl)]
            unfold z_md
            rw [ect]
          · skip
            refine x_lconst (v := 0) dX2_shareOf_60 (by decide) ?_
            refine x_lstore_n (i := 3) (lv' := [(0, x_r (some fa)), (1, x_r (some t)), (2, x_i 0), (3, x_l 0)]) dX2_shareOf_61 rfl (by decide) rfl ?_
            refine x_lload_n (i := 3) (x := 0) dX2_shareOf_62 rfl rfl ?_
            refine x_aload_n (i := 1) (o := some t) dX2_shareOf_63 rfl rfl ?_
            refine x_getIv (v := C (a + 1)) dX2_shareOf_64 fX2_shareOf_91 (i := 701) rfl rfl ht.1 (ht.2.2.1) ?_
            refine x_i2l dX2_shareOf_67 ?_
            refine x_lmul dX2_shareOf_68 ?_
            refine x_aload_n (i := 1) (o := some t) dX2_shareOf_69 rfl rfl ?_
            refine x_getIv (v := z_bq C a) dX2_shareOf_70 fX2_shareOf_75 (i := 704) rfl rfl ht.1 (ht.2.2.2.2.2) ?_
            refine x_i2l dX2_shareOf_73 ?_
            refine x_ldiv dX2_shareOf_74 (fun z => c15 (z_toInt64_0 z)) ?_
            refine x_lstore (i := 5) (lv' := [(0, x_r (some fa)), (1, x_r (some t)), (2, x_i 0), (3, x_l 0), (5, x_l ((0 * (Int32.toInt64 (C (a + 1)))) / (Int32.toInt64 (z_bq C a))))]) dX2_shareOf_75 (by decide) rfl ?_
            refine x_aload_n (i := 1) (o := some t) dX2_shareOf_77 rfl rfl ?_
            refine x_getIv (v := 1) dX2_shareOf_78 fX2_shareOf_85 (i := 700) rfl rfl ht.1 (ht.2.1.trans (by rw [emi]; rfl)) ?_
            refine x_if_eq (tgt := 90) dX2_shareOf_81 (by decide) (fun c => absurd c (by decide)) (fun _ => ?_)
            refine x_lload (i := 5) (x := (0 * (Int32.toInt64 (C (a + 1)))) / (Int32.toInt64 (z_bq C a))) dX2_shareOf_84 rfl ?_
            refine x_lneg dX2_shareOf_86 ?_
            refine x_goto (tgt := 92) dX2_shareOf_87 (by decide) ?_
            refine x_lreturn dX2_shareOf_92 rfl (by first | exact ⟨Nat.le_refl _, Nat.le_refl _⟩ | (simp only [x_sz_sI, x_sz_sA, x_sz_sJ, x_us_sI, x_us_sA, x_us_sJ]; exact ⟨Nat.le_refl _, Nat.le_refl _⟩)) ?_
            refine ⟨?_, rfl⟩
            have elk : z_lk X C a = -1 := by unfold z_lk; rw [if_neg (by rw [qs]; decide), if_neg c15]
            have evl : z_vl X C false a = X.2.2.1 (z_pt C a) := by unfold z_vl; rw [emi]; exact if_neg (by decide)
            have ect : z_ct X C false a = 0 := by unfold z_ct; rw [evl]; exact if_pos (Int64.not_le.mp fun z => c57 ((lg_cmp_ge _ _).mpr z))
            rw [if_pos elk]
            rw [if_pos (show (true : Bool) = true from rfl)]
            unfold z_md
            rw [ect]
        · skip
          refine x_lconst (v := 0) dX2_shareOf_18 (by decide) ?_
          refine x_lreturn dX2_shareOf_19 rfl (by first | exact ⟨Nat.le_refl _, Nat.le_refl _⟩ | (simp only [x_sz_sI, x_sz_sA, x_sz_sJ, x_us_sI, x_us_sA, x_us_sJ]; exact ⟨Nat.le_refl _, Nat.le_refl _⟩)) ?_
          refine ⟨?_, rfl⟩
          rw [if_neg]
          rw [show z_lk X C a = 200 + C (a + 3) from by unfold z_lk; rw [if_neg (by rw [qs]; decide), if_pos c15], (z_pt_eq hk.2.2.1).1]
          exact z_neg1 (nI_add 200 _ ▸ nI_pos' (by omega))
      · skip
        refine x_callV (a := fa) (av := [x_i (nI (z_pt C a))]) (rest := []) (r := (some (x_i 0))) (h1 := h) dX2_shareOf_5 sX2_shareOf_71 (by first | (simp only [x_kd_sI, x_kd_sA, x_kd_sJ]; exact hf.1) | exact hf.1) rfl rfl (Nat.le_of_ble_eq_true rfl) (by first | exact ⟨Nat.le_refl _, Nat.le_refl _⟩ | (simp only [x_sz_sI, x_sz_sA, x_sz_sJ, x_us_sI, x_us_sA, x_us_sJ]; exact ⟨Nat.le_refl _, Nat.le_refl _⟩)) (by have k := c_hasSpan G hf hX hp16; rw [if_neg qs] at k; exact k) ?_
        show x_E _ _ _ _ 8 _ [x_i 0] _
        refine x_if_eq (tgt := 18) dX2_shareOf_8 (by decide) (fun _ => ?_) (fun c => absurd (by decide) c)
        refine x_lconst (v := 0) dX2_shareOf_18 (by decide) ?_
        refine x_lreturn dX2_shareOf_19 rfl (by first | exact ⟨Nat.le_refl _, Nat.le_refl _⟩ | (simp only [x_sz_sI, x_sz_sA, x_sz_sJ, x_us_sI, x_us_sA, x_us_sJ]; exact ⟨Nat.le_refl _, Nat.le_refl _⟩)) ?_
        refine ⟨?_, rfl⟩
        rw [if_neg]
        rw [show z_lk X C a = C (a + 3) from if_pos (by simpa using qs)]
        exact z_neg1 hk.2.2.1.1
    · skip
      refine x_aload_n (i := 0) (o := some fa) dX2_shareOf_0 rfl rfl ?_
      refine x_aload_n (i := 1) (o := some t) dX2_shareOf_1 rfl rfl ?_
      refine x_getIv (v := nI (z_pt C a)) dX2_shareOf_2 fX2_shareOf_66 (i := 702) rfl rfl ht.1 ((ht.2.2.2.1.trans (z_pt_eq hk.2.2.1).1)) ?_
      by_cases qs : X.1 (z_pt C a) = true
      · skip
        refine x_callV (a := fa) (av := [x_i (nI (z_pt C a))]) (rest := []) (r := (some (x_i 1))) (h1 := h) dX2_shareOf_5 sX2_shareOf_71 (by first | (simp only [x_kd_sI, x_kd_sA, x_kd_sJ]; exact hf.1) | exact hf.1) rfl rfl (Nat.le_of_ble_eq_true rfl) (by first | exact ⟨Nat.le_refl _, Nat.le_refl _⟩ | (simp only [x_sz_sI, x_sz_sA, x_sz_sJ, x_us_sI, x_us_sA, x_us_sJ]; exact ⟨Nat.le_refl _, Nat.le_refl _⟩)) (by have k := c_hasSpan G hf hX hp16; rw [if_pos qs] at k; exact k) ?_
        show x_E _ _ _ _ 8 _ [x_i 1] _
        refine x_if_eq (tgt := 18) dX2_shareOf_8 (by decide) (fun c => absurd c (by decide)) (fun _ => ?_)
        refine x_aload_n (i := 1) (o := some t) dX2_shareOf_11 rfl rfl ?_
        refine x_getIv (v := z_bq C a) dX2_shareOf_12 fX2_shareOf_75 (i := 704) rfl rfl ht.1 (ht.2.2.2.2.2) ?_
        refine x_if_ne (tgt := 20) dX2_shareOf_15 (by decide) (fun c15 => ?_) (fun c15 => ?_)
        · skip
          refine x_iload_n (i := 2) (x := 1) dX2_shareOf_20 rfl rfl ?_
          refine x_aload_n (i := 1) (o := some t) dX2_shareOf_21 rfl rfl ?_
          refine x_getIv (v := 1) dX2_shareOf_22 fX2_shareOf_85 (i := 700) rfl rfl ht.1 (ht.2.1.trans (by rw [emi]; rfl)) ?_
          refine x_icmp_eq (tgt := 40) dX2_shareOf_25 (by decide) (fun _ => ?_) (fun c => absurd (by decide) c)
          refine x_aload_n (i := 0) (o := some fa) dX2_shareOf_40 rfl rfl ?_
          refine x_getRv (v := some (fa + 1)) dX2_shareOf_41 fX2_shareOf_15 (i := 301) rfl rfl (by first | (simp only [x_kd_sI, x_kd_sA, x_kd_sJ]; exact hf.1) | exact hf.1) ((by first | (simp only [x_fr_sI, x_fr_sA, x_fr_sJ]; exact hf.2.1.1) | exact hf.2.1.1)) ?_
          refine x_aload_n (i := 1) (o := some t) dX2_shareOf_44 rfl rfl ?_
          refine x_getIv (v := nI (z_pt C a)) dX2_shareOf_45 fX2_shareOf_66 (i := 702) rfl rfl ht.1 ((ht.2.2.2.1.trans (z_pt_eq hk.2.2.1).1)) ?_
          refine x_laloadN (n := z_pt C a) (v := X.2.1 (z_pt C a)) dX2_shareOf_48 (by first | (simp only [x_kd_sI, x_kd_sA, x_kd_sJ]; exact hf.2.1.2.1) | exact hf.2.1.2.1) (rfl) (by first | (rw [hf.2.1.2.2]; omega) | (simp only [x_ln_sI, x_ln_sA, x_ln_sJ]; rw [hf.2.1.2.2]; omega)) (by first | (rw [hf.2.1.2.2]; omega) | (simp only [x_ln_sI, x_ln_sA, x_ln_sJ]; rw [hf.2.1.2.2]; omega)) ((hX.1 _ hp16).2.1) ?_
          refine x_lstore_n (i := 3) (lv' := [(0, x_r (some fa)), (1, x_r (some t)), (2, x_i 1), (3, x_l (X.2.1 (z_pt C a)))]) dX2_shareOf_49 rfl (by decide) rfl ?_
          refine x_lload_n (i := 3) (x := X.2.1 (z_pt C a)) dX2_shareOf_50 rfl rfl ?_
          refine x_aload_n (i := 1) (o := some t) dX2_shareOf_51 rfl rfl ?_
          refine x_getIv (v := z_cu C a) dX2_shareOf_52 fX2_shareOf_88 (i := 703) rfl rfl ht.1 (ht.2.2.2.2.1) ?_
          refine x_i2l dX2_shareOf_55 ?_
          refine x_lcmp dX2_shareOf_56 ?_
          refine x_if_ge (tgt := 62) dX2_shareOf_57 (by decide) (fun c57 => ?_) (fun c57 => ?_)
          · skip
            refine x_lload_n (i := 3) (x := X.2.1 (z_pt C a)) dX2_shareOf_62 rfl rfl ?_
            refine x_aload_n (i := 1) (o := some t) dX2_shareOf_63 rfl rfl ?_
            refine x_getIv (v := C (a + 1)) dX2_shareOf_64 fX2_shareOf_91 (i := 701) rfl rfl ht.1 (ht.2.2.1) ?_
            refine x_i2l dX2_shareOf_67 ?_
            refine x_lmul dX2_shareOf_68 ?_
            refine x_aload_n (i := 1) (o := some t) dX2_shareOf_69 rfl rfl ?_
            refine x_getIv (v := z_bq C a) dX2_shareOf_70 fX2_shareOf_75 (i := 704) rfl rfl ht.1 (ht.2.2.2.2.2) ?_
            refine x_i2l dX2_shareOf_73 ?_
            refine x_ldiv dX2_shareOf_74 (fun z => c15 (z_toInt64_0 z)) ?_
            refine x_lstore (i := 5) (lv' := [(0, x_r (some fa)), (1, x_r (some t)), (2, x_i 1), (3, x_l (X.2.1 (z_pt C a))), (5, x_l (((X.2.1 (z_pt C a)) * (Int32.toInt64 (C (a + 1)))) / (Int32.toInt64 (z_bq C a))))]) dX2_shareOf_75 (by decide) rfl ?_
            refine x_aload_n (i := 1) (o := some t) dX2_shareOf_77 rfl rfl ?_
            refine x_getIv (v := 1) dX2_shareOf_78 fX2_shareOf_85 (i := 700) rfl rfl ht.1 (ht.2.1.trans (by rw [emi]; rfl)) ?_
            refine x_if_eq (tgt := 90) dX2_shareOf_81 (by decide) (fun c => absurd c (by decide)) (fun _ => ?_)
            refine x_lload (i := 5) (x := ((X.2.1 (z_pt C a)) * (Int32.toInt64 (C (a + 1)))) / (Int32.toInt64 (z_bq C a))) dX2_shareOf_84 rfl ?_
            refine x_lneg dX2_shareOf_86 ?_
            refine x_goto (tgt := 92) dX2_shareOf_87 (by decide) ?_
            refine x_lreturn dX2_shareOf_92 rfl (by first | exact ⟨Nat.le_refl _, Nat.le_refl _⟩ | (simp only [x_sz_sI, x_sz_sA, x_sz_sJ, x_us_sI, x_us_sA, x_us_sJ]; exact ⟨Nat.le_refl _, Nat.le_refl _⟩)) ?_
            refine ⟨?_, rfl⟩
            have elk : z_lk X C a = -1 := by unfold z_lk; rw [if_neg (by rw [qs]; decide), if_neg c15]
            have evl : z_vl X C true a = X.2.1 (z_pt C a) := by unfold z_vl; rw [emi]; exact if_pos rfl
            have ect : z_ct X C true a = X.2.1 (z_pt C a) := by unfold z_ct; rw [evl]; exact if_neg (Int64.not_lt.mpr ((lg_cmp_ge _ _).mp c57))
            rw [if_pos elk]
            rw [if_pos (show (true : Bool) = true from rfl)]
            unfold z_md
            rw [ect]
          · skip
            refine x_lconst (v := 0) dX2_shareOf_60 (by decide) ?_
            refine x_lstore_n (i := 3) (lv' := [(0, x_r (some fa)), (1, x_r (some t)), (2, x_i 1), (3, x_l 0)]) dX2_shareOf_61 rfl (by decide) rfl ?_
            refine x_lload_n (i := 3) (x := 0) dX2_shareOf_62 rfl rfl ?_
            refine x_aload_n (i := 1) (o := some t) dX2_shareOf_63 rfl rfl ?_
            refine x_getIv (v := C (a + 1)) dX2_shareOf_64 fX2_shareOf_91 (i := 701) rfl rfl ht.1 (ht.2.2.1) ?_
            refine x_i2l dX2_shareOf_67 ?_
            refine x_lmul dX2_shareOf_68 ?_
            refine x_aload_n (i := 1) (o := some t) dX2_shareOf_69 rfl rfl ?_
            refine x_getIv (v := z_bq C a) dX2_shareOf_70 fX2_shareOf_75 (i := 704) rfl rfl ht.1 (ht.2.2.2.2.2) ?_
            refine x_i2l dX2_shareOf_73 ?_
            refine x_ldiv dX2_shareOf_74 (fun z => c15 (z_toInt64_0 z)) ?_
            refine x_lstore (i := 5) (lv' := [(0, x_r (some fa)), (1, x_r (some t)), (2, x_i 1), (3, x_l 0), (5, x_l ((0 * (Int32.toInt64 (C (a + 1)))) / (Int32.toInt64 (z_bq C a))))]) dX2_shareOf_75 (by decide) rfl ?_
            refine x_aload_n (i := 1) (o := some t) dX2_shareOf_77 rfl rfl ?_
            refine x_getIv (v := 1) dX2_shareOf_78 fX2_shareOf_85 (i := 700) rfl rfl ht.1 (ht.2.1.trans (by rw [emi]; rfl)) ?_
            refine x_if_eq (tgt := 90) dX2_shareOf_81 (by decide) (fun c => absurd c (by decide)) (fun _ => ?_)
            refine x_lload (i := 5) (x := (0 * (Int32.toInt64 (C (a + 1)))) / (Int32.toInt64 (z_bq C a))) dX2_shareOf_84 rfl ?_
            refine x_lneg dX2_shareOf_86 ?_
            refine x_goto (tgt := 92) dX2_shareOf_87 (by decide) ?_
            refine x_lreturn dX2_shareOf_92 rfl (by first | exact ⟨Nat.le_refl _, Nat.le_refl _⟩ | (simp only [x_sz_sI, x_sz_sA, x_sz_sJ, x_us_sI, x_us_sA, x_us_sJ]; exact ⟨Nat.le_refl _, Nat.le_refl _⟩)) ?_
            refine ⟨?_, rfl⟩
            have elk : z_lk X C a = -1 := by unfold z_lk; rw [if_neg (by rw [qs]; decide), if_neg c15]
            have evl : z_vl X C true a = X.2.1 (z_pt C a) := by unfold z_vl; rw [emi]; exact if_pos rfl
            have ect : z_ct X C true a = 0 := by unfold z_ct; rw [evl]; exact if_pos (Int64.not_le.mp fun z => c57 ((lg_cmp_ge _ _).mpr z))
            rw [if_pos elk]
            rw [if_pos (show (true : Bool) = true from rfl)]
            unfold z_md
            rw [ect]
        · skip
          refine x_lconst (v := 0) dX2_shareOf_18 (by decide) ?_
          refine x_lreturn dX2_shareOf_19 rfl (by first | exact ⟨Nat.le_refl _, Nat.le_refl _⟩ | (simp only [x_sz_sI, x_sz_sA, x_sz_sJ, x_us_sI, x_us_sA, x_us_sJ]; exact ⟨Nat.le_refl _, Nat.le_refl _⟩)) ?_
          refine ⟨?_, rfl⟩
          rw [if_neg]
          rw [show z_lk X C a = 200 + C (a + 3) from by unfold z_lk; rw [if_neg (by rw [qs]; decide), if_pos c15], (z_pt_eq hk.2.2.1).1]
          exact z_neg1 (nI_add 200 _ ▸ nI_pos' (by omega))
      · skip
        refine x_callV (a := fa) (av := [x_i (nI (z_pt C a))]) (rest := []) (r := (some (x_i 0))) (h1 := h) dX2_shareOf_5 sX2_shareOf_71 (by first | (simp only [x_kd_sI, x_kd_sA, x_kd_sJ]; exact hf.1) | exact hf.1) rfl rfl (Nat.le_of_ble_eq_true rfl) (by first | exact ⟨Nat.le_refl _, Nat.le_refl _⟩ | (simp only [x_sz_sI, x_sz_sA, x_sz_sJ, x_us_sI, x_us_sA, x_us_sJ]; exact ⟨Nat.le_refl _, Nat.le_refl _⟩)) (by have k := c_hasSpan G hf hX hp16; rw [if_neg qs] at k; exact k) ?_
        show x_E _ _ _ _ 8 _ [x_i 0] _
        refine x_if_eq (tgt := 18) dX2_shareOf_8 (by decide) (fun _ => ?_) (fun c => absurd (by decide) c)
        refine x_lconst (v := 0) dX2_shareOf_18 (by decide) ?_
        refine x_lreturn dX2_shareOf_19 rfl (by first | exact ⟨Nat.le_refl _, Nat.le_refl _⟩ | (simp only [x_sz_sI, x_sz_sA, x_sz_sJ, x_us_sI, x_us_sA, x_us_sJ]; exact ⟨Nat.le_refl _, Nat.le_refl _⟩)) ?_
        refine ⟨?_, rfl⟩
        rw [if_neg]
        rw [show z_lk X C a = C (a + 3) from if_pos (by simpa using qs)]
        exact z_neg1 hk.2.2.1.1
