/-! THE CLASS: Reader: readTerm, readTest, holds -/
theorem x_nO_at {h : x_H} {w k n : Nat} {v : Int32} (hw : w < x_sz h) : x_fi (x_nO (x_sI h 802 w v) k n) 802 w = v := by
  rw [x_fi_nO, x_sz_sI, if_neg (by omega), x_fi_sI, if_pos ⟨rfl, rfl⟩]
theorem x_nO_f {h : x_H} {w k n : Nat} {v : Int32} (i : Nat) : x_fi (x_nO (x_sI h 802 w v) k n) i (x_sz h) = 0 := by
  rw [x_fi_nO, x_sz_sI, if_pos rfl]
theorem x_nO_k {h : x_H} {w k n : Nat} {v : Int32} : x_kd (x_nO (x_sI h 802 w v) k n) (x_sz h) = k := by
  rw [x_kd_nO, x_sz_sI, if_pos rfl]
theorem y_nO_F {h : x_H} {w k n : Nat} {v : Int32} : y_F h (x_nO (x_sI h 802 w v) k n) (fun i q => i = 802 ∧ q = w) (fun _ => False) := (y_F.rf.I (fun _ => ⟨rfl, rfl⟩)).O k n
set_option maxHeartbeats 4000000 in
set_option maxRecDepth 100000 in
theorem c_readTerm {G : x_G} {ad st vl : Nat → Nat} {kt : Nat × Option Nat} (hG : x_GS G ad st vl kt) {h : x_H} {w n a rd : Nat} {C : Nat → Int32} (hT : c_T h w n a C) (hw : w + 1 < x_sz h) (hrd : rd < x_sz h ∧ x_kd h rd = 5 ∧ x_fr h 501 rd = some w) : x_Ex G mX5_readTerm h [x_r (some rd)] (fun r h' => y_rt h h' w n a C r) := by
  have h15 := hT.2.2.2.1
  have han := hT.2.2.2.2.1
  refine x_enter mwX5_readTerm (Nat.le_of_ble_eq_true rfl) ?_
  show x_E _ _ _ _ _ [(0, x_r (some rd))] _ _
  refine x_E.eq (h2 := x_sI h 802 w (nI a)) ?_ rfl rfl rfl (x_sI_id hT.2.2.1).symm
  refine x_aload_n (i := 0) (o := some rd) dX5_readTerm_0 rfl rfl ?_
  refine x_getRv (v := some w) dX5_readTerm_1 fX5_readTerm_18 (i := 501) rfl rfl (by first | exact hrd.2.1 | (simp only [x_kd_sI, x_kd_sR]; exact hrd.2.1)) ((by first | exact hrd.2.2 | (simp only [x_fr_sI]; exact hrd.2.2))) ?_
  refine x_gets (v := x_r (some (ad 13))) dX5_readTerm_4 fX5_readTerm_141 (fun U hU => ((hG U hU).2.2.1 13 (by decide)).1) ?_
  by_cases q15 : C a = -15
  · skip
    have hbq15 := hT.2.2.2.2.2.2.c q15 (by decide)
    refine x_callV (a := w) (av := [x_r (some (ad 13))]) (rest := []) (r := (some (x_i 1))) (h1 := x_sI h 802 w (nI (a + 1))) dX5_readTerm_7 sX5_readTerm_34 (by first | exact hT.1.1 | (simp only [x_kd_sI, x_kd_sR]; exact hT.1.1)) rfl rfl (Nat.le_of_ble_eq_true rfl) ⟨Nat.le_refl _, Nat.le_refl _⟩ (d_take_t hG hT (k := 13) (by decide) q15) ?_
    show x_E _ _ _ _ 10 _ [x_i 1] _
    refine x_istore_n (i := 1) (lv' := [(0, x_r (some rd)), (1, x_i 1)]) dX5_readTerm_10 rfl (by decide) rfl ?_
    refine x_iload_n (i := 1) (x := 1) dX5_readTerm_11 rfl rfl ?_
    refine x_if_ne (tgt := 30) dX5_readTerm_12 (by decide) (fun _ => ?_) (fun c => absurd c (by decide))
    refine x_aload_n (i := 0) (o := some rd) dX5_readTerm_30 rfl rfl ?_
    refine x_getRv (v := some w) dX5_readTerm_31 fX5_readTerm_18 (i := 501) rfl rfl (by first | exact hrd.2.1 | (simp only [x_kd_sI, x_kd_sR]; exact hrd.2.1)) ((by first | exact hrd.2.2 | (simp only [x_fr_sI]; exact hrd.2.2))) ?_
    refine x_iconst (v := 0) dX5_readTerm_34 (by decide) ?_
    refine x_sipush (v := 1000) dX5_readTerm_35 (by decide) ?_
    by_cases qw : q_n C 0 1000 (a + 1)
    · skip
      have hbqw := hT.2.2.2.2.2.2.n qw
      refine x_callV (a := w) (av := [x_i 0, x_i 1000]) (rest := []) (r := (some (x_i (C (a + 1))))) (h1 := x_sI h 802 w (nI (a + 2))) dX5_readTerm_38 sX5_readTerm_49 (by first | exact hT.1.1 | (simp only [x_kd_sI, x_kd_sR]; exact hT.1.1)) rfl rfl (Nat.le_of_ble_eq_true rfl) ⟨Nat.le_refl _, Nat.le_refl _⟩ (d_num_t G hT qw) ?_
      show x_E _ _ _ _ 41 _ [x_i (C (a + 1))] _
      refine x_istore_n (i := 2) (lv' := [(0, x_r (some rd)), (1, x_i 1), (2, x_i (C (a + 1)))]) dX5_readTerm_41 rfl (by decide) rfl ?_
      refine x_iload_n (i := 2) (x := C (a + 1)) dX5_readTerm_42 rfl rfl ?_
      refine x_iconst (v := (-1)) dX5_readTerm_43 (by decide) ?_
      refine x_icmp_eq (tgt := 60) dX5_readTerm_44 (by decide) (fun c44 => ?_) (fun c44 => ?_)
      · skip
        exact absurd c44 (z_neg1 qw.1)
      · skip
        refine x_aload_n (i := 0) (o := some rd) dX5_readTerm_47 rfl rfl ?_
        refine x_getRv (v := some w) dX5_readTerm_48 fX5_readTerm_18 (i := 501) rfl rfl (by first | exact hrd.2.1 | (simp only [x_kd_sI, x_kd_sR]; exact hrd.2.1)) ((by first | exact hrd.2.2 | (simp only [x_fr_sI]; exact hrd.2.2))) ?_
        refine x_gets (v := x_r (some (ad 14))) dX5_readTerm_51 fX5_readTerm_147 (fun U hU => ((hG U hU).2.2.1 14 (by decide)).1) ?_
        by_cases qo : C (a + 2) = -16
        · skip
          have hbqo := hT.2.2.2.2.2.2.c qo (by decide)
          refine x_callV (a := w) (av := [x_r (some (ad 14))]) (rest := []) (r := (some (x_i 1))) (h1 := x_sI h 802 w (nI (a + 3))) dX5_readTerm_54 sX5_readTerm_34 (by first | exact hT.1.1 | (simp only [x_kd_sI, x_kd_sR]; exact hT.1.1)) rfl rfl (Nat.le_of_ble_eq_true rfl) ⟨Nat.le_refl _, Nat.le_refl _⟩ (d_take_t hG hT (k := 14) (by decide) qo) ?_
          show x_E _ _ _ _ 57 _ [x_i 1] _
          refine x_if_ne (tgt := 62) dX5_readTerm_57 (by decide) (fun _ => ?_) (fun c => absurd c (by decide))
          refine x_aload_n (i := 0) (o := some rd) dX5_readTerm_62 rfl rfl ?_
          refine x_getRv (v := some w) dX5_readTerm_63 fX5_readTerm_18 (i := 501) rfl rfl (by first | exact hrd.2.1 | (simp only [x_kd_sI, x_kd_sR]; exact hrd.2.1)) ((by first | exact hrd.2.2 | (simp only [x_fr_sI]; exact hrd.2.2))) ?_
          refine x_iconst (v := 0) dX5_readTerm_66 (by decide) ?_
          refine x_bipush (v := 15) dX5_readTerm_67 (by decide) ?_
          by_cases qp : q_n C 0 15 (a + 3)
          · skip
            have hbqp := hT.2.2.2.2.2.2.n qp
            refine x_callV (a := w) (av := [x_i 0, x_i 15]) (rest := []) (r := (some (x_i (C (a + 3))))) (h1 := x_sI h 802 w (nI (a + 4))) dX5_readTerm_69 sX5_readTerm_49 (by first | exact hT.1.1 | (simp only [x_kd_sI, x_kd_sR]; exact hT.1.1)) rfl rfl (Nat.le_of_ble_eq_true rfl) ⟨Nat.le_refl _, Nat.le_refl _⟩ (d_num_t G hT qp) ?_
            show x_E _ _ _ _ 72 _ [x_i (C (a + 3))] _
            refine x_istore_n (i := 3) (lv' := [(0, x_r (some rd)), (1, x_i 1), (2, x_i (C (a + 1))), (3, x_i (C (a + 3)))]) dX5_readTerm_72 rfl (by decide) rfl ?_
            refine x_iload_n (i := 3) (x := C (a + 3)) dX5_readTerm_73 rfl rfl ?_
            refine x_iconst (v := (-1)) dX5_readTerm_74 (by decide) ?_
            refine x_icmp_ne (tgt := 80) dX5_readTerm_75 (by decide) (fun c75 => ?_) (fun c75 => ?_)
            · skip
              refine x_new dX5_readTerm_80 nX5_readTerm_150 ⟨Nat.le_refl _, Nat.le_refl _⟩ ?_
              show x_E _ _ _ _ 83 _ [x_r (some (x_sz h))] _
              refine x_dup dX5_readTerm_83 rfl ?_
              refine x_iload_n (i := 1) (x := 1) dX5_readTerm_84 rfl rfl ?_
              refine x_iload_n (i := 2) (x := C (a + 1)) dX5_readTerm_85 rfl rfl ?_
              refine x_iload_n (i := 3) (x := C (a + 3)) dX5_readTerm_86 rfl rfl ?_
              obtain ⟨_, g, ⟨rfl, hob⟩, hca⟩ := c_n_tm G (h := x_nO (x_sI h 802 w (nI (a + 4))) 7 6) (t := x_sz h) x_nO_k 1 (C (a + 1)) (C (a + 3)) (Or.inr rfl)
              refine x_callI (a := x_sz h) (av := [x_i 1, x_i (C (a + 1)), x_i (C (a + 3))]) (rest := [x_r (some (x_sz h))]) (r := none) (h1 := g) dX5_readTerm_87 sX5_readTerm_152 rfl rfl (Nat.le_of_ble_eq_true rfl) y_nO_F.le (hca) ?_
              show x_E _ _ _ _ 90 _ [x_r (some (x_sz h))] _
              refine x_astore (i := 4) (lv' := [(0, x_r (some rd)), (1, x_i 1), (2, x_i (C (a + 1))), (3, x_i (C (a + 3))), (4, x_r (some (x_sz h)))]) dX5_readTerm_90 (by decide) rfl ?_
              show x_E _ _ _ _ 92 _ _ _
              have hFg : y_F h g (fun i q => i = 802 ∧ q = w) (fun _ => False) := y_nO_F.ob hob (Nat.le_refl _)
              have h8g : x_fi g 802 w = nI (a + 4) := (hob.2.2.2.2.2.2.2.1 802 w (by omega)).1.trans (x_nO_at (by omega))
              have hTg : c_T g w n (a + 4) C := hT.F hw hFg (by omega) (by omega) (fun z => z) h8g (by omega)
              have hfi := hob.2.2.2.2.2.2.2.2.1
              refine x_E.eq (l_rterm hG (h := h) hTg ⟨(hFg.kd hrd.1).trans hrd.2.1, (hFg.fr hrd.1 (by omega)).trans hrd.2.2⟩ hFg (hob.1.trans rfl) (hob.2.1.trans rfl) ((congrFun hob.2.2.1 _).trans x_nO_k) ?_ ?_ ?_ ?_ ?_ ?_ ?_ 1) rfl rfl rfl (x_sI_id h8g).symm
              · rw [show z_mi C a = true from by unfold z_mi; rw [q15]; rfl]
                exact hfi 700
              · exact hfi 701
              · exact hfi 702
              · exact hfi 703
              · exact hfi 704
              · exact hob.2.2.2.2.2.2.2.2.2 705
              · rw [q_term, if_neg (by rw [q15]; decide), if_pos q15, q_tm, if_pos qw, if_pos qo, if_pos qp]
            · skip
              exact absurd c75 (z_neg1 qp.1)
          · skip
            refine x_callV (a := w) (av := [x_i 0, x_i 15]) (rest := []) (r := (some (x_i ((-1))))) (h1 := x_sI h 802 w (nI (a + 3))) dX5_readTerm_69 sX5_readTerm_49 (by first | exact hT.1.1 | (simp only [x_kd_sI, x_kd_sR]; exact hT.1.1)) rfl rfl (Nat.le_of_ble_eq_true rfl) ⟨Nat.le_refl _, Nat.le_refl _⟩ (d_num_f G hT (b := a + 3) (by omega) (by decide) qp) ?_
            show x_E _ _ _ _ 72 _ [x_i ((-1))] _
            refine x_istore_n (i := 3) (lv' := [(0, x_r (some rd)), (1, x_i 1), (2, x_i (C (a + 1))), (3, x_i ((-1)))]) dX5_readTerm_72 rfl (by decide) rfl ?_
            refine x_iload_n (i := 3) (x := (-1)) dX5_readTerm_73 rfl rfl ?_
            refine x_iconst (v := (-1)) dX5_readTerm_74 (by decide) ?_
            refine x_icmp_ne (tgt := 80) dX5_readTerm_75 (by decide) (fun c => absurd c (by decide)) (fun _ => ?_)
            refine x_null dX5_readTerm_78 ?_
            refine x_areturn dX5_readTerm_79 rfl ⟨Nat.le_refl _, Nat.le_refl _⟩ ?_
            have eq : q_term C a = (false, a + 3) := by
              rw [q_term, if_neg (by rw [q15]; decide), if_pos q15, q_tm, if_pos qw, if_pos qo, if_neg qp]
            refine ⟨y_F.rf.I (fun _ => ⟨rfl, rfl⟩), by rw [eq]; exact hT.to (b := a + 3) (by omega), ?_, ?_, Or.inr ⟨by rw [eq], rfl⟩⟩
            · rw [eq]
              show a + 4 * (x_sz h - x_sz h) ≤ a + 3
              omega
            · show x_us h - x_us h ≤ 9 * (x_sz h - x_sz h)
              omega
        · skip
          refine x_callV (a := w) (av := [x_r (some (ad 14))]) (rest := []) (r := (some (x_i 0))) (h1 := x_sI h 802 w (nI (a + 2))) dX5_readTerm_54 sX5_readTerm_34 (by first | exact hT.1.1 | (simp only [x_kd_sI, x_kd_sR]; exact hT.1.1)) rfl rfl (Nat.le_of_ble_eq_true rfl) ⟨Nat.le_refl _, Nat.le_refl _⟩ (d_take_f hG hT (k := 14) (b := a + 2) (by omega) (by decide) qo) ?_
          show x_E _ _ _ _ 57 _ [x_i 0] _
          refine x_if_ne (tgt := 62) dX5_readTerm_57 (by decide) (fun c => absurd c (by decide)) (fun _ => ?_)
          refine x_null dX5_readTerm_60 ?_
          refine x_areturn dX5_readTerm_61 rfl ⟨Nat.le_refl _, Nat.le_refl _⟩ ?_
          have eq : q_term C a = (false, a + 2) := by
            rw [q_term, if_neg (by rw [q15]; decide), if_pos q15, q_tm, if_pos qw, if_neg qo]
          refine ⟨y_F.rf.I (fun _ => ⟨rfl, rfl⟩), by rw [eq]; exact hT.to (b := a + 2) (by omega), ?_, ?_, Or.inr ⟨by rw [eq], rfl⟩⟩
          · rw [eq]
            show a + 4 * (x_sz h - x_sz h) ≤ a + 2
            omega
          · show x_us h - x_us h ≤ 9 * (x_sz h - x_sz h)
            omega
    · skip
      refine x_callV (a := w) (av := [x_i 0, x_i 1000]) (rest := []) (r := (some (x_i ((-1))))) (h1 := x_sI h 802 w (nI (a + 1))) dX5_readTerm_38 sX5_readTerm_49 (by first | exact hT.1.1 | (simp only [x_kd_sI, x_kd_sR]; exact hT.1.1)) rfl rfl (Nat.le_of_ble_eq_true rfl) ⟨Nat.le_refl _, Nat.le_refl _⟩ (d_num_f G hT (b := a + 1) (by omega) (by decide) qw) ?_
      show x_E _ _ _ _ 41 _ [x_i ((-1))] _
      refine x_istore_n (i := 2) (lv' := [(0, x_r (some rd)), (1, x_i 1), (2, x_i ((-1)))]) dX5_readTerm_41 rfl (by decide) rfl ?_
      refine x_iload_n (i := 2) (x := (-1)) dX5_readTerm_42 rfl rfl ?_
      refine x_iconst (v := (-1)) dX5_readTerm_43 (by decide) ?_
      refine x_icmp_eq (tgt := 60) dX5_readTerm_44 (by decide) (fun _ => ?_) (fun c => absurd (by decide) c)
      refine x_null dX5_readTerm_60 ?_
      refine x_areturn dX5_readTerm_61 rfl ⟨Nat.le_refl _, Nat.le_refl _⟩ ?_
      have eq : q_term C a = (false, a + 1) := by
        rw [q_term, if_neg (by rw [q15]; decide), if_pos q15, q_tm, if_neg qw]
      refine ⟨y_F.rf.I (fun _ => ⟨rfl, rfl⟩), by rw [eq]; exact hT.to (b := a + 1) (by omega), ?_, ?_, Or.inr ⟨by rw [eq], rfl⟩⟩
      · rw [eq]
        show a + 4 * (x_sz h - x_sz h) ≤ a + 1
        omega
      · show x_us h - x_us h ≤ 9 * (x_sz h - x_sz h)
        omega
  · skip
    refine x_callV (a := w) (av := [x_r (some (ad 13))]) (rest := []) (r := (some (x_i 0))) (h1 := x_sI h 802 w (nI a)) dX5_readTerm_7 sX5_readTerm_34 (by first | exact hT.1.1 | (simp only [x_kd_sI, x_kd_sR]; exact hT.1.1)) rfl rfl (Nat.le_of_ble_eq_true rfl) ⟨Nat.le_refl _, Nat.le_refl _⟩ (d_take_f hG hT (k := 13) (b := a) (by omega) (by decide) q15) ?_
    show x_E _ _ _ _ 10 _ [x_i 0] _
    refine x_istore_n (i := 1) (lv' := [(0, x_r (some rd)), (1, x_i 0)]) dX5_readTerm_10 rfl (by decide) rfl ?_
    refine x_iload_n (i := 1) (x := 0) dX5_readTerm_11 rfl rfl ?_
    refine x_if_ne (tgt := 30) dX5_readTerm_12 (by decide) (fun c => absurd c (by decide)) (fun _ => ?_)
    refine x_aload_n (i := 0) (o := some rd) dX5_readTerm_15 rfl rfl ?_
    refine x_getRv (v := some w) dX5_readTerm_16 fX5_readTerm_18 (i := 501) rfl rfl (by first | exact hrd.2.1 | (simp only [x_kd_sI, x_kd_sR]; exact hrd.2.1)) ((by first | exact hrd.2.2 | (simp only [x_fr_sI]; exact hrd.2.2))) ?_
    refine x_gets (v := x_r (some (ad 12))) dX5_readTerm_19 fX5_readTerm_144 (fun U hU => ((hG U hU).2.2.1 12 (by decide)).1) ?_
    by_cases q14 : C a = -14
    · skip
      have hbq14 := hT.2.2.2.2.2.2.c q14 (by decide)
      refine x_callV (a := w) (av := [x_r (some (ad 12))]) (rest := []) (r := (some (x_i 1))) (h1 := x_sI h 802 w (nI (a + 1))) dX5_readTerm_22 sX5_readTerm_34 (by first | exact hT.1.1 | (simp only [x_kd_sI, x_kd_sR]; exact hT.1.1)) rfl rfl (Nat.le_of_ble_eq_true rfl) ⟨Nat.le_refl _, Nat.le_refl _⟩ (d_take_t hG hT (k := 12) (by decide) q14) ?_
      show x_E _ _ _ _ 25 _ [x_i 1] _
      refine x_if_ne (tgt := 30) dX5_readTerm_25 (by decide) (fun _ => ?_) (fun c => absurd c (by decide))
      refine x_aload_n (i := 0) (o := some rd) dX5_readTerm_30 rfl rfl ?_
      refine x_getRv (v := some w) dX5_readTerm_31 fX5_readTerm_18 (i := 501) rfl rfl (by first | exact hrd.2.1 | (simp only [x_kd_sI, x_kd_sR]; exact hrd.2.1)) ((by first | exact hrd.2.2 | (simp only [x_fr_sI]; exact hrd.2.2))) ?_
      refine x_iconst (v := 0) dX5_readTerm_34 (by decide) ?_
      refine x_sipush (v := 1000) dX5_readTerm_35 (by decide) ?_
      by_cases qw : q_n C 0 1000 (a + 1)
      · skip
        have hbqw := hT.2.2.2.2.2.2.n qw
        refine x_callV (a := w) (av := [x_i 0, x_i 1000]) (rest := []) (r := (some (x_i (C (a + 1))))) (h1 := x_sI h 802 w (nI (a + 2))) dX5_readTerm_38 sX5_readTerm_49 (by first | exact hT.1.1 | (simp only [x_kd_sI, x_kd_sR]; exact hT.1.1)) rfl rfl (Nat.le_of_ble_eq_true rfl) ⟨Nat.le_refl _, Nat.le_refl _⟩ (d_num_t G hT qw) ?_
        show x_E _ _ _ _ 41 _ [x_i (C (a + 1))] _
        refine x_istore_n (i := 2) (lv' := [(0, x_r (some rd)), (1, x_i 0), (2, x_i (C (a + 1)))]) dX5_readTerm_41 rfl (by decide) rfl ?_
        refine x_iload_n (i := 2) (x := C (a + 1)) dX5_readTerm_42 rfl rfl ?_
        refine x_iconst (v := (-1)) dX5_readTerm_43 (by decide) ?_
        refine x_icmp_eq (tgt := 60) dX5_readTerm_44 (by decide) (fun c44 => ?_) (fun c44 => ?_)
        · skip
          exact absurd c44 (z_neg1 qw.1)
        · skip
          refine x_aload_n (i := 0) (o := some rd) dX5_readTerm_47 rfl rfl ?_
          refine x_getRv (v := some w) dX5_readTerm_48 fX5_readTerm_18 (i := 501) rfl rfl (by first | exact hrd.2.1 | (simp only [x_kd_sI, x_kd_sR]; exact hrd.2.1)) ((by first | exact hrd.2.2 | (simp only [x_fr_sI]; exact hrd.2.2))) ?_
          refine x_gets (v := x_r (some (ad 14))) dX5_readTerm_51 fX5_readTerm_147 (fun U hU => ((hG U hU).2.2.1 14 (by decide)).1) ?_
          by_cases qo : C (a + 2) = -16
          · skip
            have hbqo := hT.2.2.2.2.2.2.c qo (by decide)
            refine x_callV (a := w) (av := [x_r (some (ad 14))]) (rest := []) (r := (some (x_i 1))) (h1 := x_sI h 802 w (nI (a + 3))) dX5_readTerm_54 sX5_readTerm_34 (by first | exact hT.1.1 | (simp only [x_kd_sI, x_kd_sR]; exact hT.1.1)) rfl rfl (Nat.le_of_ble_eq_true rfl) ⟨Nat.le_refl _, Nat.le_refl _⟩ (d_take_t hG hT (k := 14) (by decide) qo) ?_
            show x_E _ _ _ _ 57 _ [x_i 1] _
            refine x_if_ne (tgt := 62) dX5_readTerm_57 (by decide) (fun _ => ?_) (fun c => absurd c (by decide))
            refine x_aload_n (i := 0) (o := some rd) dX5_readTerm_62 rfl rfl ?_
            refine x_getRv (v := some w) dX5_readTerm_63 fX5_readTerm_18 (i := 501) rfl rfl (by first | exact hrd.2.1 | (simp only [x_kd_sI, x_kd_sR]; exact hrd.2.1)) ((by first | exact hrd.2.2 | (simp only [x_fr_sI]; exact hrd.2.2))) ?_
            refine x_iconst (v := 0) dX5_readTerm_66 (by decide) ?_
            refine x_bipush (v := 15) dX5_readTerm_67 (by decide) ?_
            by_cases qp : q_n C 0 15 (a + 3)
            · skip
              have hbqp := hT.2.2.2.2.2.2.n qp
              refine x_callV (a := w) (av := [x_i 0, x_i 15]) (rest := []) (r := (some (x_i (C (a + 3))))) (h1 := x_sI h 802 w (nI (a + 4))) dX5_readTerm_69 sX5_readTerm_49 (by first | exact hT.1.1 | (simp only [x_kd_sI, x_kd_sR]; exact hT.1.1)) rfl rfl (Nat.le_of_ble_eq_true rfl) ⟨Nat.le_refl _, Nat.le_refl _⟩ (d_num_t G hT qp) ?_
              show x_E _ _ _ _ 72 _ [x_i (C (a + 3))] _
              refine x_istore_n (i := 3) (lv' := [(0, x_r (some rd)), (1, x_i 0), (2, x_i (C (a + 1))), (3, x_i (C (a + 3)))]) dX5_readTerm_72 rfl (by decide) rfl ?_
              refine x_iload_n (i := 3) (x := C (a + 3)) dX5_readTerm_73 rfl rfl ?_
              refine x_iconst (v := (-1)) dX5_readTerm_74 (by decide) ?_
              refine x_icmp_ne (tgt := 80) dX5_readTerm_75 (by decide) (fun c75 => ?_) (fun c75 => ?_)
              · skip
                refine x_new dX5_readTerm_80 nX5_readTerm_150 ⟨Nat.le_refl _, Nat.le_refl _⟩ ?_
                show x_E _ _ _ _ 83 _ [x_r (some (x_sz h))] _
                refine x_dup dX5_readTerm_83 rfl ?_
                refine x_iload_n (i := 1) (x := 0) dX5_readTerm_84 rfl rfl ?_
                refine x_iload_n (i := 2) (x := C (a + 1)) dX5_readTerm_85 rfl rfl ?_
                refine x_iload_n (i := 3) (x := C (a + 3)) dX5_readTerm_86 rfl rfl ?_
                obtain ⟨_, g, ⟨rfl, hob⟩, hca⟩ := c_n_tm G (h := x_nO (x_sI h 802 w (nI (a + 4))) 7 6) (t := x_sz h) x_nO_k 0 (C (a + 1)) (C (a + 3)) (Or.inl rfl)
                refine x_callI (a := x_sz h) (av := [x_i 0, x_i (C (a + 1)), x_i (C (a + 3))]) (rest := [x_r (some (x_sz h))]) (r := none) (h1 := g) dX5_readTerm_87 sX5_readTerm_152 rfl rfl (Nat.le_of_ble_eq_true rfl) y_nO_F.le (hca) ?_
                show x_E _ _ _ _ 90 _ [x_r (some (x_sz h))] _
                refine x_astore (i := 4) (lv' := [(0, x_r (some rd)), (1, x_i 0), (2, x_i (C (a + 1))), (3, x_i (C (a + 3))), (4, x_r (some (x_sz h)))]) dX5_readTerm_90 (by decide) rfl ?_
                show x_E _ _ _ _ 92 _ _ _
                have hFg : y_F h g (fun i q => i = 802 ∧ q = w) (fun _ => False) := y_nO_F.ob hob (Nat.le_refl _)
                have h8g : x_fi g 802 w = nI (a + 4) := (hob.2.2.2.2.2.2.2.1 802 w (by omega)).1.trans (x_nO_at (by omega))
                have hTg : c_T g w n (a + 4) C := hT.F hw hFg (by omega) (by omega) (fun z => z) h8g (by omega)
                have hfi := hob.2.2.2.2.2.2.2.2.1
                refine x_E.eq (l_rterm hG (h := h) hTg ⟨(hFg.kd hrd.1).trans hrd.2.1, (hFg.fr hrd.1 (by omega)).trans hrd.2.2⟩ hFg (hob.1.trans rfl) (hob.2.1.trans rfl) ((congrFun hob.2.2.1 _).trans x_nO_k) ?_ ?_ ?_ ?_ ?_ ?_ ?_ 0) rfl rfl rfl (x_sI_id h8g).symm
                · rw [show z_mi C a = false from by unfold z_mi; rw [q14]; rfl]
                  exact hfi 700
                · exact hfi 701
                · exact hfi 702
                · exact hfi 703
                · exact hfi 704
                · exact hob.2.2.2.2.2.2.2.2.2 705
                · rw [q_term, if_pos q14, q_tm, if_pos qw, if_pos qo, if_pos qp]
              · skip
                exact absurd c75 (z_neg1 qp.1)
            · skip
              refine x_callV (a := w) (av := [x_i 0, x_i 15]) (rest := []) (r := (some (x_i ((-1))))) (h1 := x_sI h 802 w (nI (a + 3))) dX5_readTerm_69 sX5_readTerm_49 (by first | exact hT.1.1 | (simp only [x_kd_sI, x_kd_sR]; exact hT.1.1)) rfl rfl (Nat.le_of_ble_eq_true rfl) ⟨Nat.le_refl _, Nat.le_refl _⟩ (d_num_f G hT (b := a + 3) (by omega) (by decide) qp) ?_
              show x_E _ _ _ _ 72 _ [x_i ((-1))] _
              refine x_istore_n (i := 3) (lv' := [(0, x_r (some rd)), (1, x_i 0), (2, x_i (C (a + 1))), (3, x_i ((-1)))]) dX5_readTerm_72 rfl (by decide) rfl ?_
              refine x_iload_n (i := 3) (x := (-1)) dX5_readTerm_73 rfl rfl ?_
              refine x_iconst (v := (-1)) dX5_readTerm_74 (by decide) ?_
              refine x_icmp_ne (tgt := 80) dX5_readTerm_75 (by decide) (fun c => absurd c (by decide)) (fun _ => ?_)
              refine x_null dX5_readTerm_78 ?_
              refine x_areturn dX5_readTerm_79 rfl ⟨Nat.le_refl _, Nat.le_refl _⟩ ?_
              have eq : q_term C a = (false, a + 3) := by
                rw [q_term, if_pos q14, q_tm, if_pos qw, if_pos qo, if_neg qp]
              refine ⟨y_F.rf.I (fun _ => ⟨rfl, rfl⟩), by rw [eq]; exact hT.to (b := a + 3) (by omega), ?_, ?_, Or.inr ⟨by rw [eq], rfl⟩⟩
              · rw [eq]
                show a + 4 * (x_sz h - x_sz h) ≤ a + 3
                omega
              · show x_us h - x_us h ≤ 9 * (x_sz h - x_sz h)
                omega
          · skip
            refine x_callV (a := w) (av := [x_r (some (ad 14))]) (rest := []) (r := (some (x_i 0))) (h1 := x_sI h 802 w (nI (a + 2))) dX5_readTerm_54 sX5_readTerm_34 (by first | exact hT.1.1 | (simp only [x_kd_sI, x_kd_sR]; exact hT.1.1)) rfl rfl (Nat.le_of_ble_eq_true rfl) ⟨Nat.le_refl _, Nat.le_refl _⟩ (d_take_f hG hT (k := 14) (b := a + 2) (by omega) (by decide) qo) ?_
            show x_E _ _ _ _ 57 _ [x_i 0] _
            refine x_if_ne (tgt := 62) dX5_readTerm_57 (by decide) (fun c => absurd c (by decide)) (fun _ => ?_)
            refine x_null dX5_readTerm_60 ?_
            refine x_areturn dX5_readTerm_61 rfl ⟨Nat.le_refl _, Nat.le_refl _⟩ ?_
            have eq : q_term C a = (false, a + 2) := by
              rw [q_term, if_pos q14, q_tm, if_pos qw, if_neg qo]
            refine ⟨y_F.rf.I (fun _ => ⟨rfl, rfl⟩), by rw [eq]; exact hT.to (b := a + 2) (by omega), ?_, ?_, Or.inr ⟨by rw [eq], rfl⟩⟩
            · rw [eq]
              show a + 4 * (x_sz h - x_sz h) ≤ a + 2
              omega
            · show x_us h - x_us h ≤ 9 * (x_sz h - x_sz h)
              omega
      · skip
        refine x_callV (a := w) (av := [x_i 0, x_i 1000]) (rest := []) (r := (some (x_i ((-1))))) (h1 := x_sI h 802 w (nI (a + 1))) dX5_readTerm_38 sX5_readTerm_49 (by first | exact hT.1.1 | (simp only [x_kd_sI, x_kd_sR]; exact hT.1.1)) rfl rfl (Nat.le_of_ble_eq_true rfl) ⟨Nat.le_refl _, Nat.le_refl _⟩ (d_num_f G hT (b := a + 1) (by omega) (by decide) qw) ?_
        show x_E _ _ _ _ 41 _ [x_i ((-1))] _
        refine x_istore_n (i := 2) (lv' := [(0, x_r (some rd)), (1, x_i 0), (2, x_i ((-1)))]) dX5_readTerm_41 rfl (by decide) rfl ?_
        refine x_iload_n (i := 2) (x := (-1)) dX5_readTerm_42 rfl rfl ?_
        refine x_iconst (v := (-1)) dX5_readTerm_43 (by decide) ?_
        refine x_icmp_eq (tgt := 60) dX5_readTerm_44 (by decide) (fun _ => ?_) (fun c => absurd (by decide) c)
        refine x_null dX5_readTerm_60 ?_
        refine x_areturn dX5_readTerm_61 rfl ⟨Nat.le_refl _, Nat.le_refl _⟩ ?_
        have eq : q_term C a = (false, a + 1) := by
          rw [q_term, if_pos q14, q_tm, if_neg qw]
        refine ⟨y_F.rf.I (fun _ => ⟨rfl, rfl⟩), by rw [eq]; exact hT.to (b := a + 1) (by omega), ?_, ?_, Or.inr ⟨by rw [eq], rfl⟩⟩
        · rw [eq]
          show a + 4 * (x_sz h - x_sz h) ≤ a + 1
          omega
        · show x_us h - x_us h ≤ 9 * (x_sz h - x_sz h)
          omega
    · skip
      refine x_callV (a := w) (av := [x_r (some (ad 12))]) (rest := []) (r := (some (x_i 0))) (h1 := x_sI h 802 w (nI a)) dX5_readTerm_22 sX5_readTerm_34 (by first | exact hT.1.1 | (simp only [x_kd_sI, x_kd_sR]; exact hT.1.1)) rfl rfl (Nat.le_of_ble_eq_true rfl) ⟨Nat.le_refl _, Nat.le_refl _⟩ (d_take_f hG hT (k := 12) (b := a) (by omega) (by decide) q14) ?_
      show x_E _ _ _ _ 25 _ [x_i 0] _
      refine x_if_ne (tgt := 30) dX5_readTerm_25 (by decide) (fun c => absurd c (by decide)) (fun _ => ?_)
      refine x_null dX5_readTerm_28 ?_
      refine x_areturn dX5_readTerm_29 rfl ⟨Nat.le_refl _, Nat.le_refl _⟩ ?_
      have eq : q_term C a = (false, a) := by
        rw [q_term, if_neg q14, if_neg q15]
      refine ⟨y_F.rf.I (fun _ => ⟨rfl, rfl⟩), by rw [eq]; exact hT.to (b := a) (by omega), ?_, ?_, Or.inr ⟨by rw [eq], rfl⟩⟩
      · rw [eq]
        show a + 4 * (x_sz h - x_sz h) ≤ a
        omega
      · show x_us h - x_us h ≤ 9 * (x_sz h - x_sz h)
        omega
