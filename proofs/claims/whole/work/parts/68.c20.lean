/-! THE CLASS: Facts: sumVerdict; Rule: its items -/
set_option maxHeartbeats 4000000 in
set_option maxRecDepth 100000 in
theorem c_sumVerdict (G : x_G) {h : x_H} {fa : Nat} (hf : f_P h fa) {X : z_X} (hX : f_X h fa X) {C : Nat → Int32} {it p b : Nat} (hi : y_it C h it p) (hp11 : C p = -11) (hq : q_sum C 1501 (p + 1) = (true, b)) : x_Call G mX2_sumVerdict h [x_r (some fa), x_r (some it)] (some (x_i (z_vs X C p))) h := by
  have hm := q_sum_more hq
  have hL := z_tms_tk hm
  obtain ⟨hcc, hcn⟩ := q_cmp_c (q_cp hm)
  obtain ⟨t2, t3, ts, hts, h5⟩ := hi.2.2.2.2 hp11
  rw [List.head?_eq_getElem?] at h5
  refine x_Ex.call (x_enter mwX2_sumVerdict (Nat.le_of_ble_eq_true rfl) ?_)
  show x_E _ _ _ _ _ [(0, x_r (some fa)), (1, x_r (some it))] _ _
  by_cases q13 : C (z_cp C 1501 (p + 1)) = -13
  · rcases hs : X.2.2.2.2 with _ | _
    · skip
      refine x_aload_n (i := 0) (o := some fa) dX2_sumVerdict_0 rfl rfl ?_
      refine x_aload_n (i := 1) (o := some it) dX2_sumVerdict_1 rfl rfl ?_
      refine x_callV (a := fa) (av := [x_r (some it)]) (rest := []) (r := (some (x_i (z_lks X C (z_tms C 1501 (p + 1)) (-1))))) (h1 := h) dX2_sumVerdict_2 sX2_sumVerdict_54 (by first | (simp only [x_kd_sI, x_kd_sA, x_kd_sJ]; exact hf.1) | exact hf.1) rfl rfl (Nat.le_of_ble_eq_true rfl) ⟨Nat.le_refl _, Nat.le_refl _⟩ (c_lackOf G hf hX hts hL hi.1 h5) ?_
      show x_E _ _ _ _ 5 _ [x_i (z_lks X C (z_tms C 1501 (p + 1)) (-1))] _
      refine x_istore_n (i := 2) (lv' := [(0, x_r (some fa)), (1, x_r (some it)), (2, x_i (z_lks X C (z_tms C 1501 (p + 1)) (-1)))]) dX2_sumVerdict_5 rfl (by decide) rfl ?_
      refine x_iload_n (i := 2) (x := z_lks X C (z_tms C 1501 (p + 1)) (-1)) dX2_sumVerdict_6 rfl rfl ?_
      refine x_iconst (v := (-1)) dX2_sumVerdict_7 (by decide) ?_
      refine x_icmp_eq (tgt := 13) dX2_sumVerdict_8 (by decide) (fun c8 => ?_) (fun c8 => ?_)
      · skip
        refine x_aload_n (i := 0) (o := some fa) dX2_sumVerdict_13 rfl rfl ?_
        refine x_aload_n (i := 1) (o := some it) dX2_sumVerdict_14 rfl rfl ?_
        refine x_aload_n (i := 0) (o := some fa) dX2_sumVerdict_15 rfl rfl ?_
        refine x_getIv (v := 0) dX2_sumVerdict_16 fX2_sumVerdict_9 (i := 300) rfl rfl (by first | (simp only [x_kd_sI, x_kd_sA, x_kd_sJ]; exact hf.1) | exact hf.1) (hX.2.2.trans (by rw [hs]; rfl)) ?_
        refine x_aload_n (i := 1) (o := some it) dX2_sumVerdict_19 rfl rfl ?_
        refine x_getIv (v := 1) dX2_sumVerdict_20 fX2_sumVerdict_51 (i := 402) rfl rfl hi.1 (t2.trans (if_pos q13)) ?_
        refine x_icmp_eq (tgt := 30) dX2_sumVerdict_23 (by decide) (fun c => absurd c (by decide)) (fun _ => ?_)
        refine x_iconst (v := 1) dX2_sumVerdict_26 (by decide) ?_
        refine x_goto (tgt := 31) dX2_sumVerdict_27 (by decide) ?_
        refine x_iconst (v := (-1)) dX2_sumVerdict_31 (by decide) ?_
        refine x_callV (a := fa) (av := [x_r (some it), x_i 1, x_i ((-1))]) (rest := []) (r := (some (x_l (z_tot X C true (-1) (z_tms C 1501 (p + 1)) 0)))) (h1 := h) dX2_sumVerdict_32 sX2_sumVerdict_58 (by first | (simp only [x_kd_sI, x_kd_sA, x_kd_sJ]; exact hf.1) | exact hf.1) rfl rfl (Nat.le_of_ble_eq_true rfl) ⟨Nat.le_refl _, Nat.le_refl _⟩ (by have k := c_sumAt G hf hX hts hL hi.1 h5 true (-1); exact k) ?_
        show x_E _ _ _ _ 35 _ [x_l (z_tot X C true (-1) (z_tms C 1501 (p + 1)) 0)] _
        refine x_lstore_n (i := 3) (lv' := [(0, x_r (some fa)), (1, x_r (some it)), (2, x_i (z_lks X C (z_tms C 1501 (p + 1)) (-1))), (3, x_l (z_tot X C true (-1) (z_tms C 1501 (p + 1)) 0))]) dX2_sumVerdict_35 rfl (by decide) rfl ?_
        refine x_aload_n (i := 1) (o := some it) dX2_sumVerdict_36 rfl rfl ?_
        refine x_getIv (v := 1) dX2_sumVerdict_37 fX2_sumVerdict_51 (i := 402) rfl rfl hi.1 (t2.trans (if_pos q13)) ?_
        refine x_if_eq (tgt := 61) dX2_sumVerdict_40 (by decide) (fun c => absurd c (by decide)) (fun _ => ?_)
        refine x_lload_n (i := 3) (x := z_tot X C true (-1) (z_tms C 1501 (p + 1)) 0) dX2_sumVerdict_43 rfl rfl ?_
        refine x_aload_n (i := 1) (o := some it) dX2_sumVerdict_44 rfl rfl ?_
        refine x_getIv (v := C (z_cp C 1501 (p + 1) + 1)) dX2_sumVerdict_45 fX2_sumVerdict_48 (i := 403) rfl rfl hi.1 (t3) ?_
        refine x_i2l dX2_sumVerdict_48 ?_
        refine x_lcmp dX2_sumVerdict_49 ?_
        refine x_if_ge (tgt := 57) dX2_sumVerdict_50 (by decide) (fun c50 => ?_) (fun c50 => ?_)
        · skip
          refine x_iconst (v := 0) dX2_sumVerdict_57 (by decide) ?_
          refine x_goto (tgt := 76) dX2_sumVerdict_58 (by decide) ?_
          refine x_istore (i := 5) (lv' := [(0, x_r (some fa)), (1, x_r (some it)), (2, x_i (z_lks X C (z_tms C 1501 (p + 1)) (-1))), (3, x_l (z_tot X C true (-1) (z_tms C 1501 (p + 1)) 0)), (5, x_i 0)]) dX2_sumVerdict_76 (by decide) rfl ?_
          refine x_iload (i := 5) (x := 0) dX2_sumVerdict_78 rfl ?_
          refine x_if_eq (tgt := 88) dX2_sumVerdict_80 (by decide) (fun _ => ?_) (fun c => absurd (by decide) c)
          refine x_bipush (v := (-3)) dX2_sumVerdict_88 (by decide) ?_
          refine x_ireturn dX2_sumVerdict_90 rfl (rfl) ⟨Nat.le_refl _, Nat.le_refl _⟩ ?_
          refine ⟨?_, rfl⟩
          unfold z_vs
          rw [if_pos c8, if_neg (by rw [q13]; decide), hs, show (!false) = true from rfl]
          show _ = some (x_i (if _ then _ else _))
          rw [if_neg (Int64.not_lt.mpr ((lg_cmp_ge _ _).mp c50))]
        · skip
          refine x_iconst (v := 1) dX2_sumVerdict_53 (by decide) ?_
          refine x_goto (tgt := 76) dX2_sumVerdict_54 (by decide) ?_
          refine x_istore (i := 5) (lv' := [(0, x_r (some fa)), (1, x_r (some it)), (2, x_i (z_lks X C (z_tms C 1501 (p + 1)) (-1))), (3, x_l (z_tot X C true (-1) (z_tms C 1501 (p + 1)) 0)), (5, x_i 1)]) dX2_sumVerdict_76 (by decide) rfl ?_
          refine x_iload (i := 5) (x := 1) dX2_sumVerdict_78 rfl ?_
          refine x_if_eq (tgt := 88) dX2_sumVerdict_80 (by decide) (fun c => absurd c (by decide)) (fun _ => ?_)
          refine x_bipush (v := (-2)) dX2_sumVerdict_83 (by decide) ?_
          refine x_goto (tgt := 90) dX2_sumVerdict_85 (by decide) ?_
          refine x_ireturn dX2_sumVerdict_90 rfl (rfl) ⟨Nat.le_refl _, Nat.le_refl _⟩ ?_
          refine ⟨?_, rfl⟩
          unfold z_vs
          rw [if_pos c8, if_neg (by rw [q13]; decide), hs, show (!false) = true from rfl]
          show _ = some (x_i (if _ then _ else _))
          rw [if_pos (Int64.not_le.mp fun z => c50 ((lg_cmp_ge _ _).mpr z))]
      · skip
        refine x_iload_n (i := 2) (x := z_lks X C (z_tms C 1501 (p + 1)) (-1)) dX2_sumVerdict_11 rfl rfl ?_
        refine x_ireturn dX2_sumVerdict_12 rfl (rfl) ⟨Nat.le_refl _, Nat.le_refl _⟩ ?_
        refine ⟨?_, rfl⟩
        unfold z_vs
        rw [if_neg c8]
    · skip
      refine x_aload_n (i := 0) (o := some fa) dX2_sumVerdict_0 rfl rfl ?_
      refine x_aload_n (i := 1) (o := some it) dX2_sumVerdict_1 rfl rfl ?_
      refine x_callV (a := fa) (av := [x_r (some it)]) (rest := []) (r := (some (x_i (z_lks X C (z_tms C 1501 (p + 1)) (-1))))) (h1 := h) dX2_sumVerdict_2 sX2_sumVerdict_54 (by first | (simp only [x_kd_sI, x_kd_sA, x_kd_sJ]; exact hf.1) | exact hf.1) rfl rfl (Nat.le_of_ble_eq_true rfl) ⟨Nat.le_refl _, Nat.le_refl _⟩ (c_lackOf G hf hX hts hL hi.1 h5) ?_
      show x_E _ _ _ _ 5 _ [x_i (z_lks X C (z_tms C 1501 (p + 1)) (-1))] _
      refine x_istore_n (i := 2) (lv' := [(0, x_r (some fa)), (1, x_r (some it)), (2, x_i (z_lks X C (z_tms C 1501 (p + 1)) (-1)))]) dX2_sumVerdict_5 rfl (by decide) rfl ?_
      refine x_iload_n (i := 2) (x := z_lks X C (z_tms C 1501 (p + 1)) (-1)) dX2_sumVerdict_6 rfl rfl ?_
      refine x_iconst (v := (-1)) dX2_sumVerdict_7 (by decide) ?_
      refine x_icmp_eq (tgt := 13) dX2_sumVerdict_8 (by decide) (fun c8 => ?_) (fun c8 => ?_)
      · skip
        refine x_aload_n (i := 0) (o := some fa) dX2_sumVerdict_13 rfl rfl ?_
        refine x_aload_n (i := 1) (o := some it) dX2_sumVerdict_14 rfl rfl ?_
        refine x_aload_n (i := 0) (o := some fa) dX2_sumVerdict_15 rfl rfl ?_
        refine x_getIv (v := 1) dX2_sumVerdict_16 fX2_sumVerdict_9 (i := 300) rfl rfl (by first | (simp only [x_kd_sI, x_kd_sA, x_kd_sJ]; exact hf.1) | exact hf.1) (hX.2.2.trans (by rw [hs]; rfl)) ?_
        refine x_aload_n (i := 1) (o := some it) dX2_sumVerdict_19 rfl rfl ?_
        refine x_getIv (v := 1) dX2_sumVerdict_20 fX2_sumVerdict_51 (i := 402) rfl rfl hi.1 (t2.trans (if_pos q13)) ?_
        refine x_icmp_eq (tgt := 30) dX2_sumVerdict_23 (by decide) (fun _ => ?_) (fun c => absurd (by decide) c)
        refine x_iconst (v := 0) dX2_sumVerdict_30 (by decide) ?_
        refine x_iconst (v := (-1)) dX2_sumVerdict_31 (by decide) ?_
        refine x_callV (a := fa) (av := [x_r (some it), x_i 0, x_i ((-1))]) (rest := []) (r := (some (x_l (z_tot X C false (-1) (z_tms C 1501 (p + 1)) 0)))) (h1 := h) dX2_sumVerdict_32 sX2_sumVerdict_58 (by first | (simp only [x_kd_sI, x_kd_sA, x_kd_sJ]; exact hf.1) | exact hf.1) rfl rfl (Nat.le_of_ble_eq_true rfl) ⟨Nat.le_refl _, Nat.le_refl _⟩ (by have k := c_sumAt G hf hX hts hL hi.1 h5 false (-1); exact k) ?_
        show x_E _ _ _ _ 35 _ [x_l (z_tot X C false (-1) (z_tms C 1501 (p + 1)) 0)] _
        refine x_lstore_n (i := 3) (lv' := [(0, x_r (some fa)), (1, x_r (some it)), (2, x_i (z_lks X C (z_tms C 1501 (p + 1)) (-1))), (3, x_l (z_tot X C false (-1) (z_tms C 1501 (p + 1)) 0))]) dX2_sumVerdict_35 rfl (by decide) rfl ?_
        refine x_aload_n (i := 1) (o := some it) dX2_sumVerdict_36 rfl rfl ?_
        refine x_getIv (v := 1) dX2_sumVerdict_37 fX2_sumVerdict_51 (i := 402) rfl rfl hi.1 (t2.trans (if_pos q13)) ?_
        refine x_if_eq (tgt := 61) dX2_sumVerdict_40 (by decide) (fun c => absurd c (by decide)) (fun _ => ?_)
        refine x_lload_n (i := 3) (x := z_tot X C false (-1) (z_tms C 1501 (p + 1)) 0) dX2_sumVerdict_43 rfl rfl ?_
        refine x_aload_n (i := 1) (o := some it) dX2_sumVerdict_44 rfl rfl ?_
        refine x_getIv (v := C (z_cp C 1501 (p + 1) + 1)) dX2_sumVerdict_45 fX2_sumVerdict_48 (i := 403) rfl rfl hi.1 (t3) ?_
        refine x_i2l dX2_sumVerdict_48 ?_
        refine x_lcmp dX2_sumVerdict_49 ?_
        refine x_if_ge (tgt := 57) dX2_sumVerdict_50 (by decide) (fun c50 => ?_) (fun c50 => ?_)
        · skip
          refine x_iconst (v := 0) dX2_sumVerdict_57 (by decide) ?_
          refine x_goto (tgt := 76) dX2_sumVerdict_58 (by decide) ?_
          refine x_istore (i := 5) (lv' := [(0, x_r (some fa)), (1, x_r (some it)), (2, x_i (z_lks X C (z_tms C 1501 (p + 1)) (-1))), (3, x_l (z_tot X C false (-1) (z_tms C 1501 (p + 1)) 0)), (5, x_i 0)]) dX2_sumVerdict_76 (by decide) rfl ?_
          refine x_iload (i := 5) (x := 0) dX2_sumVerdict_78 rfl ?_
          refine x_if_eq (tgt := 88) dX2_sumVerdict_80 (by decide) (fun _ => ?_) (fun c => absurd (by decide) c)
          refine x_bipush (v := (-3)) dX2_sumVerdict_88 (by decide) ?_
          refine x_ireturn dX2_sumVerdict_90 rfl (rfl) ⟨Nat.le_refl _, Nat.le_refl _⟩ ?_
          refine ⟨?_, rfl⟩
          unfold z_vs
          rw [if_pos c8, if_neg (by rw [q13]; decide), hs, show (!true) = false from rfl]
          show _ = some (x_i (if _ then _ else _))
          rw [if_neg (Int64.not_lt.mpr ((lg_cmp_ge _ _).mp c50))]
        · skip
          refine x_iconst (v := 1) dX2_sumVerdict_53 (by decide) ?_
          refine x_goto (tgt := 76) dX2_sumVerdict_54 (by decide) ?_
          refine x_istore (i := 5) (lv' := [(0, x_r (some fa)), (1, x_r (some it)), (2, x_i (z_lks X C (z_tms C 1501 (p + 1)) (-1))), (3, x_l (z_tot X C false (-1) (z_tms C 1501 (p + 1)) 0)), (5, x_i 1)]) dX2_sumVerdict_76 (by decide) rfl ?_
          refine x_iload (i := 5) (x := 1) dX2_sumVerdict_78 rfl ?_
          refine x_if_eq (tgt := 88) dX2_sumVerdict_80 (by decide) (fun c => absurd c (by decide)) (fun _ => ?_)
          refine x_bipush (v := (-2)) dX2_sumVerdict_83 (by decide) ?_
          refine x_goto (tgt := 90) dX2_sumVerdict_85 (by decide) ?_
          refine x_ireturn dX2_sumVerdict_90 rfl (rfl) ⟨Nat.le_refl _, Nat.le_refl _⟩ ?_
          refine ⟨?_, rfl⟩
          unfold z_vs
          rw [if_pos c8, if_neg (by rw [q13]; decide), hs, show (!true) = false from rfl]
          show _ = some (x_i (if _ then _ else _))
          rw [if_pos (Int64.not_le.mp fun z => c50 ((lg_cmp_ge _ _).mpr z))]
      · skip
        refine x_iload_n (i := 2) (x := z_lks X C (z_tms C 1501 (p + 1)) (-1)) dX2_sumVerdict_11 rfl rfl ?_
        refine x_ireturn dX2_sumVerdict_12 rfl (rfl) ⟨Nat.le_refl _, Nat.le_refl _⟩ ?_
        refine ⟨?_, rfl⟩
        unfold z_vs
        rw [if_neg c8]
  · have q12 : C (z_cp C 1501 (p + 1)) = -12 := by
      rcases hcc with z | z
      · exact z
      · exact absurd z.2 q13
    rcases hs : X.2.2.2.2 with _ | _
    · skip
      refine x_aload_n (i := 0) (o := some fa) dX2_sumVerdict_0 rfl rfl ?_
      refine x_aload_n (i := 1) (o := some it) dX2_sumVerdict_1 rfl rfl ?_
      refine x_callV (a := fa) (av := [x_r (some it)]) (rest := []) (r := (some (x_i (z_lks X C (z_tms C 1501 (p + 1)) (-1))))) (h1 := h) dX2_sumVerdict_2 sX2_sumVerdict_54 (by first | (simp only [x_kd_sI, x_kd_sA, x_kd_sJ]; exact hf.1) | exact hf.1) rfl rfl (Nat.le_of_ble_eq_true rfl) ⟨Nat.le_refl _, Nat.le_refl _⟩ (c_lackOf G hf hX hts hL hi.1 h5) ?_
      show x_E _ _ _ _ 5 _ [x_i (z_lks X C (z_tms C 1501 (p + 1)) (-1))] _
      refine x_istore_n (i := 2) (lv' := [(0, x_r (some fa)), (1, x_r (some it)), (2, x_i (z_lks X C (z_tms C 1501 (p + 1)) (-1)))]) dX2_sumVerdict_5 rfl (by decide) rfl ?_
      refine x_iload_n (i := 2) (x := z_lks X C (z_tms C 1501 (p + 1)) (-1)) dX2_sumVerdict_6 rfl rfl ?_
      refine x_iconst (v := (-1)) dX2_sumVerdict_7 (by decide) ?_
      refine x_icmp_eq (tgt := 13) dX2_sumVerdict_8 (by decide) (fun c8 => ?_) (fun c8 => ?_)
      · skip
        refine x_aload_n (i := 0) (o := some fa) dX2_sumVerdict_13 rfl rfl ?_
        refine x_aload_n (i := 1) (o := some it) dX2_sumVerdict_14 rfl rfl ?_
        refine x_aload_n (i := 0) (o := some fa) dX2_sumVerdict_15 rfl rfl ?_
        refine x_getIv (v := 0) dX2_sumVerdict_16 fX2_sumVerdict_9 (i := 300) rfl rfl (by first | (simp only [x_kd_sI, x_kd_sA, x_kd_sJ]; exact hf.1) | exact hf.1) (hX.2.2.trans (by rw [hs]; rfl)) ?_
        refine x_aload_n (i := 1) (o := some it) dX2_sumVerdict_19 rfl rfl ?_
        refine x_getIv (v := 0) dX2_sumVerdict_20 fX2_sumVerdict_51 (i := 402) rfl rfl hi.1 (t2.trans (if_neg q13)) ?_
        refine x_icmp_eq (tgt := 30) dX2_sumVerdict_23 (by decide) (fun _ => ?_) (fun c => absurd (by decide) c)
        refine x_iconst (v := 0) dX2_sumVerdict_30 (by decide) ?_
        refine x_iconst (v := (-1)) dX2_sumVerdict_31 (by decide) ?_
        refine x_callV (a := fa) (av := [x_r (some it), x_i 0, x_i ((-1))]) (rest := []) (r := (some (x_l (z_tot X C false (-1) (z_tms C 1501 (p + 1)) 0)))) (h1 := h) dX2_sumVerdict_32 sX2_sumVerdict_58 (by first | (simp only [x_kd_sI, x_kd_sA, x_kd_sJ]; exact hf.1) | exact hf.1) rfl rfl (Nat.le_of_ble_eq_true rfl) ⟨Nat.le_refl _, Nat.le_refl _⟩ (by have k := c_sumAt G hf hX hts hL hi.1 h5 false (-1); exact k) ?_
        show x_E _ _ _ _ 35 _ [x_l (z_tot X C false (-1) (z_tms C 1501 (p + 1)) 0)] _
        refine x_lstore_n (i := 3) (lv' := [(0, x_r (some fa)), (1, x_r (some it)), (2, x_i (z_lks X C (z_tms C 1501 (p + 1)) (-1))), (3, x_l (z_tot X C false (-1) (z_tms C 1501 (p + 1)) 0))]) dX2_sumVerdict_35 rfl (by decide) rfl ?_
        refine x_aload_n (i := 1) (o := some it) dX2_sumVerdict_36 rfl rfl ?_
        refine x_getIv (v := 0) dX2_sumVerdict_37 fX2_sumVerdict_51 (i := 402) rfl rfl hi.1 (t2.trans (if_neg q13)) ?_
        refine x_if_eq (tgt := 61) dX2_sumVerdict_40 (by decide) (fun _ => ?_) (fun c => absurd (by decide) c)
        refine x_lload_n (i := 3) (x := z_tot X C false (-1) (z_tms C 1501 (p + 1)) 0) dX2_sumVerdict_61 rfl rfl ?_
        refine x_aload_n (i := 1) (o := some it) dX2_sumVerdict_62 rfl rfl ?_
        refine x_getIv (v := C (z_cp C 1501 (p + 1) + 1)) dX2_sumVerdict_63 fX2_sumVerdict_48 (i := 403) rfl rfl hi.1 (t3) ?_
        refine x_i2l dX2_sumVerdict_66 ?_
        refine x_lcmp dX2_sumVerdict_67 ?_
        refine x_if_le (tgt := 75) dX2_sumVerdict_68 (by decide) (fun c68 => ?_) (fun c68 => ?_)
        · skip
          refine x_iconst (v := 0) dX2_sumVerdict_75 (by decide) ?_
          refine x_istore (i := 5) (lv' := [(0, x_r (some fa)), (1, x_r (some it)), (2, x_i (z_lks X C (z_tms C 1501 (p + 1)) (-1))), (3, x_l (z_tot X C false (-1) (z_tms C 1501 (p + 1)) 0)), (5, x_i 0)]) dX2_sumVerdict_76 (by decide) rfl ?_
          refine x_iload (i := 5) (x := 0) dX2_sumVerdict_78 rfl ?_
          refine x_if_eq (tgt := 88) dX2_sumVerdict_80 (by decide) (fun _ => ?_) (fun c => absurd (by decide) c)
          refine x_bipush (v := (-3)) dX2_sumVerdict_88 (by decide) ?_
          refine x_ireturn dX2_sumVerdict_90 rfl (rfl) ⟨Nat.le_refl _, Nat.le_refl _⟩ ?_
          refine ⟨?_, rfl⟩
          unfold z_vs
          rw [if_pos c8, if_pos q12, hs]
          show _ = some (x_i (if _ then _ else _))
          rw [if_neg (Int64.not_lt.mpr ((lg_cmp_le _ _).mp c68))]
        · skip
          refine x_iconst (v := 1) dX2_sumVerdict_71 (by decide) ?_
          refine x_goto (tgt := 76) dX2_sumVerdict_72 (by decide) ?_
          refine x_istore (i := 5) (lv' := [(0, x_r (some fa)), (1, x_r (some it)), (2, x_i (z_lks X C (z_tms C 1501 (p + 1)) (-1))), (3, x_l (z_tot X C false (-1) (z_tms C 1501 (p + 1)) 0)), (5, x_i 1)]) dX2_sumVerdict_76 (by decide) rfl ?_
          refine x_iload (i := 5) (x := 1) dX2_sumVerdict_78 rfl ?_
          refine x_if_eq (tgt := 88) dX2_sumVerdict_80 (by decide) (fun c => absurd c (by decide)) (fun _ => ?_)
          refine x_bipush (v := (-2)) dX2_sumVerdict_83 (by decide) ?_
          refine x_goto (tgt := 90) dX2_sumVerdict_85 (by decide) ?_
          refine x_ireturn dX2_sumVerdict_90 rfl (rfl) ⟨Nat.le_refl _, Nat.le_refl _⟩ ?_
          refine ⟨?_, rfl⟩
          unfold z_vs
          rw [if_pos c8, if_pos q12, hs]
          show _ = some (x_i (if _ then _ else _))
          rw [if_pos (Int64.not_le.mp fun z => c68 ((lg_cmp_le _ _).mpr z))]
      · skip
        refine x_iload_n (i := 2) (x := z_lks X C (z_tms C 1501 (p + 1)) (-1)) dX2_sumVerdict_11 rfl rfl ?_
        refine x_ireturn dX2_sumVerdict_12 rfl (rfl) ⟨Nat.le_refl _, Nat.le_refl _⟩ ?_
        refine ⟨?_, rfl⟩
        unfold z_vs
        rw [if_neg c8]
    · skip
      refine x_aload_n (i := 0) (o := some fa) dX2_sumVerdict_0 rfl rfl ?_
      refine x_aload_n (i := 1) (o := some it) dX2_sumVerdict_1 rfl rfl ?_
      refine x_callV (a := fa) (av := [x_r (some it)]) (rest := []) (r := (some (x_i (z_lks X C (z_tms C 1501 (p + 1)) (-1))))) (h1 := h) dX2_sumVerdict_2 sX2_sumVerdict_54 (by first | (simp only [x_kd_sI, x_kd_sA, x_kd_sJ]; exact hf.1) | exact hf.1) rfl rfl (Nat.le_of_ble_eq_true rfl) ⟨Nat.le_refl _, Nat.le_refl _⟩ (c_lackOf G hf hX hts hL hi.1 h5) ?_
      show x_E _ _ _ _ 5 _ [x_i (z_lks X C (z_tms C 1501 (p + 1)) (-1))] _
      refine x_istore_n (i := 2) (lv' := [(0, x_r (some fa)), (1, x_r (some it)), (2, x_i (z_lks X C (z_tms C 1501 (p + 1)) (-1)))]) dX2_sumVerdict_5 rfl (by decide) rfl ?_
      refine x_iload_n (i := 2) (x := z_lks X C (z_tms C 1501 (p + 1)) (-1)) dX2_sumVerdict_6 rfl rfl ?_
      refine x_iconst (v := (-1)) dX2_sumVerdict_7 (by decide) ?_
      refine x_icmp_eq (tgt := 13) dX2_sumVerdict_8 (by decide) (fun c8 => ?_) (fun c8 => ?_)
      · skip
        refine x_aload_n (i := 0) (o := some fa) dX2_sumVerdict_13 rfl rfl ?_
        refine x_aload_n (i := 1) (o := some it) dX2_sumVerdict_14 rfl rfl ?_
        refine x_aload_n (i := 0) (o := some fa) dX2_sumVerdict_15 rfl rfl ?_
        refine x_getIv (v := 1) dX2_sumVerdict_16 fX2_sumVerdict_9 (i := 300) rfl rfl (by first | (simp only [x_kd_sI, x_kd_sA, x_kd_sJ]; exact hf.1) | exact hf.1) (hX.2.2.trans (by rw [hs]; rfl)) ?_
        refine x_aload_n (i := 1) (o := some it) dX2_sumVerdict_19 rfl rfl ?_
        refine x_getIv (v := 0) dX2_sumVerdict_20 fX2_sumVerdict_51 (i := 402) rfl rfl hi.1 (t2.trans (if_neg q13)) ?_
        refine x_icmp_eq (tgt := 30) dX2_sumVerdict_23 (by decide) (fun c => absurd c (by decide)) (fun _ => ?_)
        refine x_iconst (v := 1) dX2_sumVerdict_26 (by decide) ?_
        refine x_goto (tgt := 31) dX2_sumVerdict_27 (by decide) ?_
        refine x_iconst (v := (-1)) dX2_sumVerdict_31 (by decide) ?_
        refine x_callV (a := fa) (av := [x_r (some it), x_i 1, x_i ((-1))]) (rest := []) (r := (some (x_l (z_tot X C true (-1) (z_tms C 1501 (p + 1)) 0)))) (h1 := h) dX2_sumVerdict_32 sX2_sumVerdict_58 (by first | (simp only [x_kd_sI, x_kd_sA, x_kd_sJ]; exact hf.1) | exact hf.1) rfl rfl (Nat.le_of_ble_eq_true rfl) ⟨Nat.le_refl _, Nat.le_refl _⟩ (by have k := c_sumAt G hf hX hts hL hi.1 h5 true (-1); exact k) ?_
        show x_E _ _ _ _ 35 _ [x_l (z_tot X C true (-1) (z_tms C 1501 (p + 1)) 0)] _
        refine x_lstore_n (i := 3) (lv' := [(0, x_r (some fa)), (1, x_r (some it)), (2, x_i (z_lks X C (z_tms C 1501 (p + 1)) (-1))), (3, x_l (z_tot X C true (-1) (z_tms C 1501 (p + 1)) 0))]) dX2_sumVerdict_35 rfl (by decide) rfl ?_
        refine x_aload_n (i := 1) (o := some it) dX2_sumVerdict_36 rfl rfl ?_
        refine x_getIv (v := 0) dX2_sumVerdict_37 fX2_sumVerdict_51 (i := 402) rfl rfl hi.1 (t2.trans (if_neg q13)) ?_
        refine x_if_eq (tgt := 61) dX2_sumVerdict_40 (by decide) (fun _ => ?_) (fun c => absurd (by decide) c)
        refine x_lload_n (i := 3) (x := z_tot X C true (-1) (z_tms C 1501 (p + 1)) 0) dX2_sumVerdict_61 rfl rfl ?_
        refine x_aload_n (i := 1) (o := some it) dX2_sumVerdict_62 rfl rfl ?_
        refine x_getIv (v := C (z_cp C 1501 (p + 1) + 1)) dX2_sumVerdict_63 fX2_sumVerdict_48 (i := 403) rfl rfl hi.1 (t3) ?_
        refine x_i2l dX2_sumVerdict_66 ?_
        refine x_lcmp dX2_sumVerdict_67 ?_
        refine x_if_le (tgt := 75) dX2_sumVerdict_68 (by decide) (fun c68 => ?_) (fun c68 => ?_)
        · skip
          refine x_iconst (v := 0) dX2_sumVerdict_75 (by decide) ?_
          refine x_istore (i := 5) (lv' := [(0, x_r (some fa)), (1, x_r (some it)), (2, x_i (z_lks X C (z_tms C 1501 (p + 1)) (-1))), (3, x_l (z_tot X C true (-1) (z_tms C 1501 (p + 1)) 0)), (5, x_i 0)]) dX2_sumVerdict_76 (by decide) rfl ?_
          refine x_iload (i := 5) (x := 0) dX2_sumVerdict_78 rfl ?_
          refine x_if_eq (tgt := 88) dX2_sumVerdict_80 (by decide) (fun _ => ?_) (fun c => absurd (by decide) c)
          refine x_bipush (v := (-3)) dX2_sumVerdict_88 (by decide) ?_
          refine x_ireturn dX2_sumVerdict_90 rfl (rfl) ⟨Nat.le_refl _, Nat.le_refl _⟩ ?_
          refine ⟨?_, rfl⟩
          unfold z_vs
          rw [if_pos c8, if_pos q12, hs]
          show _ = some (x_i (if _ then _ else _))
          rw [if_neg (Int64.not_lt.mpr ((lg_cmp_le _ _).mp c68))]
        · skip
          refine x_iconst (v := 1) dX2_sumVerdict_71 (by decide) ?_
          refine x_goto (tgt := 76) dX2_sumVerdict_72 (by decide) ?_
          refine x_istore (i := 5) (lv' := [(0, x_r (some fa)), (1, x_r (some it)), (2, x_i (z_lks X C (z_tms C 1501 (p + 1)) (-1))), (3, x_l (z_tot X C true (-1) (z_tms C 1501 (p + 1)) 0)), (5, x_i 1)]) dX2_sumVerdict_76 (by decide) rfl ?_
          refine x_iload (i := 5) (x := 1) dX2_sumVerdict_78 rfl ?_
          refine x_if_eq (tgt := 88) dX2_sumVerdict_80 (by decide) (fun c => absurd c (by decide)) (fun _ => ?_)
          refine x_bipush (v := (-2)) dX2_sumVerdict_83 (by decide) ?_
          refine x_goto (tgt := 90) dX2_sumVerdict_85 (by decide) ?_
          refine x_ireturn dX2_sumVerdict_90 rfl (rfl) ⟨Nat.le_refl _, Nat.le_refl _⟩ ?_
          refine ⟨?_, rfl⟩
          unfold z_vs
          rw [if_pos c8, if_pos q12, hs]
          show _ = some (x_i (if _ then _ else _))
          rw [if_pos (Int64.not_le.mp fun z => c68 ((lg_cmp_le _ _).mpr z))]
      · skip
        refine x_iload_n (i := 2) (x := z_lks X C (z_tms C 1501 (p + 1)) (-1)) dX2_sumVerdict_11 rfl rfl ?_
        refine x_ireturn dX2_sumVerdict_12 rfl (rfl) ⟨Nat.le_refl _, Nat.le_refl _⟩ ?_
        refine ⟨?_, rfl⟩
        unfold z_vs
        rw [if_neg c8]
