/-! THE CLASS: Reader: readRule, readText -/
set_option maxHeartbeats 4000000 in
set_option maxRecDepth 100000 in
theorem c_readRule {G : x_G} {ad st vl : Nat → Nat} {kt : Nat × Option Nat} (hG : x_GS G ad st vl kt) {h : x_H} {w n a rd : Nat} {C : Nat → Int32} (hT : c_T h w n a C) (hw : w + 1 < x_sz h) (hrd : rd < x_sz h ∧ x_kd h rd = 5 ∧ x_fr h 501 rd = some w) {bk : Nat} {rs : List Nat} {R : List (Nat × Nat)} {es : List Nat} {E : List Int32} (hb : y_bk C h bk rs R es E) (hrb : x_fr h 500 rd = some bk) (hE15 : E.length ≤ 1500) (hR15 : R.length ≤ 1500) : x_Ex G mX5_readRule h [x_r (some rd)] (fun r h' => y_rr h h' w n a C bk rs R es E r) := by
  have h15 := hT.2.2.2.1
  have han := hT.2.2.2.2.1
  refine x_enter mwX5_readRule (Nat.le_of_ble_eq_true rfl) ?_
  show x_E _ _ _ _ _ [(0, x_r (some rd))] _ _
  refine x_E.eq (h2 := x_sI h 802 w (nI a)) ?_ rfl rfl rfl (x_sI_id hT.2.2.1).symm
  refine x_aload_n (i := 0) (o := some rd) dX5_readRule_0 rfl rfl ?_
  refine x_getRv (v := some w) dX5_readRule_1 fX5_readRule_18 (i := 501) rfl rfl (by first | (simp only [x_kd_sI, x_kd_sR, x_kd_sA]; exact hrd.2.1) | exact hrd.2.1) ((by first | (simp only [x_fr_sI]; exact hrd.2.2) | exact hrd.2.2)) ?_
  refine x_getIv (v := nI a) dX5_readRule_4 fX5_readRule_57 (i := 802) rfl rfl (by first | (simp only [x_kd_sI, x_kd_sR, x_kd_sA]; exact hT.1.1) | exact hT.1.1) ((by rw [x_fi_sI, if_pos ⟨rfl, rfl⟩])) ?_
  refine x_istore_n (i := 1) (lv' := [(0, x_r (some rd)), (1, x_i (nI a))]) dX5_readRule_7 rfl (by decide) rfl ?_
  refine x_aload_n (i := 0) (o := some rd) dX5_readRule_8 rfl rfl ?_
  refine x_getRv (v := some bk) dX5_readRule_9 fX5_readRule_12 (i := 500) rfl rfl (by first | (simp only [x_kd_sI, x_kd_sR, x_kd_sA]; exact hrd.2.1) | exact hrd.2.1) ((by first | (simp only [x_fr_sI]; exact hrb) | exact hrb)) ?_
  refine x_getIv (v := nI E.length) dX5_readRule_12 fX5_readRule_61 (i := 105) rfl rfl (by first | (simp only [x_kd_sI, x_kd_sR, x_kd_sA]; exact hb.1.2) | exact hb.1.2) ((by first | (rw [x_fi_sI, if_neg (by omega)]; exact hb.2.2.2.2.2.2.1) | exact hb.2.2.2.2.2.2.1)) ?_
  refine x_if_eq (tgt := 43) dX5_readRule_15 (by decide) (fun c15 => ?_) (fun c15 => ?_)
  · skip
    have q15 : E.length = 0 := (nI_eq (b := 0) (by omega) (by omega)).mp c15
    refine x_iconst (v := 0) dX5_readRule_43 (by decide) ?_
    refine x_ireturn dX5_readRule_44 rfl (rfl) ⟨Nat.le_refl _, Nat.le_refl _⟩ ?_
    have eq : q_rul C E.length R.length a = (false, a) := by
      rw [q_rul, if_pos q15]
    unfold y_rr
    rw [eq]
    refine ⟨y_F.rf.I (fun _ => Or.inl ⟨rfl, rfl⟩), hT.to (b := a) (by omega), ?_, ?_, Or.inr ⟨rfl, rfl⟩⟩
    · show a + 2 * (x_sz h - x_sz h) ≤ a
      omega
    · show x_us h - x_us h ≤ 9 * (x_sz h - x_sz h)
      omega
  · skip
    have q15 : ¬ E.length = 0 := fun z => c15 (by rw [z]; rfl)
    refine x_aload_n (i := 0) (o := some rd) dX5_readRule_18 rfl rfl ?_
    refine x_getRv (v := some bk) dX5_readRule_19 fX5_readRule_12 (i := 500) rfl rfl (by first | (simp only [x_kd_sI, x_kd_sR, x_kd_sA]; exact hrd.2.1) | exact hrd.2.1) ((by first | (simp only [x_fr_sI]; exact hrb) | exact hrb)) ?_
    refine x_getIv (v := nI R.length) dX5_readRule_22 fX5_readRule_64 (i := 102) rfl rfl (by first | (simp only [x_kd_sI, x_kd_sR, x_kd_sA]; exact hb.1.2) | exact hb.1.2) ((by first | (rw [x_fi_sI, if_neg (by omega)]; exact hb.2.2.2.1) | exact hb.2.2.2.1)) ?_
    refine x_bipush (v := 60) dX5_readRule_25 (by decide) ?_
    refine x_icmp_ge (tgt := 43) dX5_readRule_27 (by decide) (fun c27 => ?_) (fun c27 => ?_)
    · skip
      have q27 := (nI_leI (a := 60) (by omega) (by omega)).mp c27
      refine x_iconst (v := 0) dX5_readRule_43 (by decide) ?_
      refine x_ireturn dX5_readRule_44 rfl (rfl) ⟨Nat.le_refl _, Nat.le_refl _⟩ ?_
      have eq : q_rul C E.length R.length a = (false, a) := by
        rw [q_rul, if_neg q15, if_pos q27]
      unfold y_rr
      rw [eq]
      refine ⟨y_F.rf.I (fun _ => Or.inl ⟨rfl, rfl⟩), hT.to (b := a) (by omega), ?_, ?_, Or.inr ⟨rfl, rfl⟩⟩
      · show a + 2 * (x_sz h - x_sz h) ≤ a
        omega
      · show x_us h - x_us h ≤ 9 * (x_sz h - x_sz h)
        omega
    · skip
      have q27 : ¬ 60 ≤ R.length := fun z => c27 (nI_le (a := 60) z (by omega))
      refine x_aload_n (i := 0) (o := some rd) dX5_readRule_30 rfl rfl ?_
      refine x_getRv (v := some w) dX5_readRule_31 fX5_readRule_18 (i := 501) rfl rfl (by first | (simp only [x_kd_sI, x_kd_sR, x_kd_sA]; exact hrd.2.1) | exact hrd.2.1) ((by first | (simp only [x_fr_sI]; exact hrd.2.2) | exact hrd.2.2)) ?_
      refine x_gets (v := x_r (some (ad 1))) dX5_readRule_34 fX5_readRule_67 (fun U hU => ((hG U hU).2.2.1 1 (by decide)).1) ?_
      by_cases q3 : C a = -3
      · skip
        have hbq3 := hT.2.2.2.2.2.2.c q3 (by decide)
        refine x_callV (a := w) (av := [x_r (some (ad 1))]) (rest := []) (r := (some (x_i 1))) (h1 := x_sI h 802 w (nI (a + 1))) dX5_readRule_37 sX5_readRule_34 (by first | (simp only [x_kd_sI, x_kd_sR, x_kd_sA]; exact hT.1.1) | exact hT.1.1) rfl rfl (Nat.le_of_ble_eq_true rfl) ⟨Nat.le_refl _, Nat.le_refl _⟩ (d_take_t hG hT (k := 1) (by decide) q3) ?_
        show x_E _ _ _ _ 40 _ [x_i 1] _
        refine x_if_ne (tgt := 45) dX5_readRule_40 (by decide) (fun _ => ?_) (fun c => absurd c (by decide))
        refine x_aload_n (i := 0) (o := some rd) dX5_readRule_45 rfl rfl ?_
        refine x_getRv (v := some w) dX5_readRule_46 fX5_readRule_18 (i := 501) rfl rfl (by first | (simp only [x_kd_sI, x_kd_sR, x_kd_sA]; exact hrd.2.1) | exact hrd.2.1) ((by first | (simp only [x_fr_sI]; exact hrd.2.2) | exact hrd.2.2)) ?_
        refine x_iconst (v := 0) dX5_readRule_49 (by decide) ?_
        refine x_bipush (v := 19) dX5_readRule_50 (by decide) ?_
        by_cases qn : q_n C 0 19 (a + 1)
        · skip
          have hbqn := hT.2.2.2.2.2.2.n qn
          refine x_callV (a := w) (av := [x_i 0, x_i 19]) (rest := []) (r := (some (x_i (C (a + 1))))) (h1 := x_sI h 802 w (nI (a + 2))) dX5_readRule_52 sX5_readRule_49 (by first | (simp only [x_kd_sI, x_kd_sR, x_kd_sA]; exact hT.1.1) | exact hT.1.1) rfl rfl (Nat.le_of_ble_eq_true rfl) ⟨Nat.le_refl _, Nat.le_refl _⟩ (d_num_t G hT qn) ?_
          show x_E _ _ _ _ 55 _ [x_i (C (a + 1))] _
          refine x_istore_n (i := 2) (lv' := [(0, x_r (some rd)), (1, x_i (nI a)), (2, x_i (C (a + 1)))]) dX5_readRule_55 rfl (by decide) rfl ?_
          refine x_iload_n (i := 2) (x := C (a + 1)) dX5_readRule_56 rfl rfl ?_
          refine x_iconst (v := (-1)) dX5_readRule_57 (by decide) ?_
          refine x_icmp_eq (tgt := 74) dX5_readRule_58 (by decide) (fun c58 => ?_) (fun c58 => ?_)
          · skip
            exact absurd c58 (z_neg1 qn.1)
          · skip
            refine x_aload_n (i := 0) (o := some rd) dX5_readRule_61 rfl rfl ?_
            refine x_getRv (v := some w) dX5_readRule_62 fX5_readRule_18 (i := 501) rfl rfl (by first | (simp only [x_kd_sI, x_kd_sR, x_kd_sA]; exact hrd.2.1) | exact hrd.2.1) ((by first | (simp only [x_fr_sI]; exact hrd.2.2) | exact hrd.2.2)) ?_
            refine x_gets (v := x_r (some (ad 2))) dX5_readRule_65 fX5_readRule_70 (fun U hU => ((hG U hU).2.2.1 2 (by decide)).1) ?_
            by_cases q4 : C (a + 2) = -4
            · skip
              have hbq4 := hT.2.2.2.2.2.2.c q4 (by decide)
              refine x_callV (a := w) (av := [x_r (some (ad 2))]) (rest := []) (r := (some (x_i 1))) (h1 := x_sI h 802 w (nI (a + 3))) dX5_readRule_68 sX5_readRule_34 (by first | (simp only [x_kd_sI, x_kd_sR, x_kd_sA]; exact hT.1.1) | exact hT.1.1) rfl rfl (Nat.le_of_ble_eq_true rfl) ⟨Nat.le_refl _, Nat.le_refl _⟩ (d_take_t hG hT (k := 2) (by decide) q4) ?_
              show x_E _ _ _ _ 71 _ [x_i 1] _
              refine x_if_ne (tgt := 76) dX5_readRule_71 (by decide) (fun _ => ?_) (fun c => absurd c (by decide))
              refine x_new dX5_readRule_76 nX5_readRule_73 ⟨Nat.le_refl _, Nat.le_refl _⟩ ?_
              show x_E _ _ _ _ 79 _ [x_r (some (x_sz h))] _
              refine x_dup dX5_readRule_79 rfl ?_
              refine x_iload_n (i := 2) (x := C (a + 1)) dX5_readRule_80 rfl rfl ?_
              refine x_iload_n (i := 1) (x := nI a) dX5_readRule_81 rfl rfl ?_
              obtain ⟨_, g, ⟨rfl, hob⟩, hca⟩ := c_n_ru G (h := x_nO (x_sI h 802 w (nI (a + 3))) 6 9) (t := x_sz h) x_nO_k (C (a + 1)) (nI a)
              refine x_callI (a := x_sz h) (av := [x_i (C (a + 1)), x_i (nI a)]) (rest := [x_r (some (x_sz h))]) (r := none) (h1 := g) dX5_readRule_82 sX5_readRule_75 rfl rfl (Nat.le_of_ble_eq_true rfl) y_nO_F.le (hca) ?_
              show x_E _ _ _ _ 85 _ [x_r (some (x_sz h))] _
              refine x_astore_n (i := 3) (lv' := [(0, x_r (some rd)), (1, x_i (nI a)), (2, x_i (C (a + 1))), (3, x_r (some (x_sz h)))]) dX5_readRule_85 rfl (by decide) rfl ?_
              refine x_iconst (v := 0) dX5_readRule_86 (by decide) ?_
              refine x_istore (i := 4) (lv' := [(0, x_r (some rd)), (1, x_i (nI a)), (2, x_i (C (a + 1))), (3, x_r (some (x_sz h))), (4, x_i 0)]) dX5_readRule_87 (by decide) rfl ?_
              show x_E _ _ _ _ 89 _ _ _
              have hFg : y_F h g (fun i q => i = 802 ∧ q = w) (fun _ => False) := y_nO_F.ob hob (Nat.le_refl _)
              have h8g : x_fi g 802 w = nI (a + 3) := (hob.2.2.2.2.2.2.2.1 802 w (by omega)).1.trans (x_nO_at (by omega))
              have hTg : c_T g w n (a + 3) C := hT.F hw hFg (by omega) (by omega) (fun z => z) h8g (by omega)
              have hfi := hob.2.2.2.2.2.2.2.2.1
              have hfr := hob.2.2.2.2.2.2.2.2.2
              have hsg : x_sz g = x_sz h + 1 := hob.1.trans rfl
              have hug : x_us g = x_us h + 9 := hob.2.1.trans rfl
              have hqr : q_rul C E.length R.length a = q_items C 1501 1501 (a + 3) := by
                rw [q_rul, if_neg q15, if_neg q27, q_rule, if_pos q3, if_pos qn, if_pos q4]
              refine l_readRule hG hT hw hrd hb hrb q15 hqr 1501 (a + 3) 0 [] [] g (by omega) (by omega) (by omega) rfl rfl ⟨hFg, hTg, ⟨by omega, (congrFun hob.2.2.1 _).trans x_nO_k⟩, ⟨hfi 600, hfi 601, hfi 604, hfi 605⟩, hfr 606, hfr 607, hfr 608, ⟨rfl, ⟨List.Pairwise.nil, fun t ht => by cases ht⟩, fun j t hj => by simp at hj, fun j t a hj => by simp at hj⟩, ?_, ?_⟩ (fun t ht => by cases ht)
              · omega
              · omega
            · skip
              refine x_callV (a := w) (av := [x_r (some (ad 2))]) (rest := []) (r := (some (x_i 0))) (h1 := x_sI h 802 w (nI (a + 2))) dX5_readRule_68 sX5_readRule_34 (by first | (simp only [x_kd_sI, x_kd_sR, x_kd_sA]; exact hT.1.1) | exact hT.1.1) rfl rfl (Nat.le_of_ble_eq_true rfl) ⟨Nat.le_refl _, Nat.le_refl _⟩ (d_take_f hG hT (k := 2) (b := a + 2) (by omega) (by decide) q4) ?_
              show x_E _ _ _ _ 71 _ [x_i 0] _
              refine x_if_ne (tgt := 76) dX5_readRule_71 (by decide) (fun c => absurd c (by decide)) (fun _ => ?_)
              refine x_iconst (v := 0) dX5_readRule_74 (by decide) ?_
              refine x_ireturn dX5_readRule_75 rfl (rfl) ⟨Nat.le_refl _, Nat.le_refl _⟩ ?_
              have eq : q_rul C E.length R.length a = (false, a + 2) := by
                rw [q_rul, if_neg q15, if_neg q27, q_rule, if_pos q3, if_pos qn, if_neg q4]
              unfold y_rr
              rw [eq]
              refine ⟨y_F.rf.I (fun _ => Or.inl ⟨rfl, rfl⟩), hT.to (b := a + 2) (by omega), ?_, ?_, Or.inr ⟨rfl, rfl⟩⟩
              · show a + 2 * (x_sz h - x_sz h) ≤ a + 2
                omega
              · show x_us h - x_us h ≤ 9 * (x_sz h - x_sz h)
                omega
        · skip
          refine x_callV (a := w) (av := [x_i 0, x_i 19]) (rest := []) (r := (some (x_i ((-1))))) (h1 := x_sI h 802 w (nI (a + 1))) dX5_readRule_52 sX5_readRule_49 (by first | (simp only [x_kd_sI, x_kd_sR, x_kd_sA]; exact hT.1.1) | exact hT.1.1) rfl rfl (Nat.le_of_ble_eq_true rfl) ⟨Nat.le_refl _, Nat.le_refl _⟩ (d_num_f G hT (b := a + 1) (by omega) (by decide) qn) ?_
          show x_E _ _ _ _ 55 _ [x_i ((-1))] _
          refine x_istore_n (i := 2) (lv' := [(0, x_r (some rd)), (1, x_i (nI a)), (2, x_i ((-1)))]) dX5_readRule_55 rfl (by decide) rfl ?_
          refine x_iload_n (i := 2) (x := (-1)) dX5_readRule_56 rfl rfl ?_
          refine x_iconst (v := (-1)) dX5_readRule_57 (by decide) ?_
          refine x_icmp_eq (tgt := 74) dX5_readRule_58 (by decide) (fun _ => ?_) (fun c => absurd (by decide) c)
          refine x_iconst (v := 0) dX5_readRule_74 (by decide) ?_
          refine x_ireturn dX5_readRule_75 rfl (rfl) ⟨Nat.le_refl _, Nat.le_refl _⟩ ?_
          have eq : q_rul C E.length R.length a = (false, a + 1) := by
            rw [q_rul, if_neg q15, if_neg q27, q_rule, if_pos q3, if_neg qn]
          unfold y_rr
          rw [eq]
          refine ⟨y_F.rf.I (fun _ => Or.inl ⟨rfl, rfl⟩), hT.to (b := a + 1) (by omega), ?_, ?_, Or.inr ⟨rfl, rfl⟩⟩
          · show a + 2 * (x_sz h - x_sz h) ≤ a + 1
            omega
          · show x_us h - x_us h ≤ 9 * (x_sz h - x_sz h)
            omega
      · skip
        refine x_callV (a := w) (av := [x_r (some (ad 1))]) (rest := []) (r := (some (x_i 0))) (h1 := x_sI h 802 w (nI a)) dX5_readRule_37 sX5_readRule_34 (by first | (simp only [x_kd_sI, x_kd_sR, x_kd_sA]; exact hT.1.1) | exact hT.1.1) rfl rfl (Nat.le_of_ble_eq_true rfl) ⟨Nat.le_refl _, Nat.le_refl _⟩ (d_take_f hG hT (k := 1) (b := a) (by omega) (by decide) q3) ?_
        show x_E _ _ _ _ 40 _ [x_i 0] _
        refine x_if_ne (tgt := 45) dX5_readRule_40 (by decide) (fun c => absurd c (by decide)) (fun _ => ?_)
        refine x_iconst (v := 0) dX5_readRule_43 (by decide) ?_
        refine x_ireturn dX5_readRule_44 rfl (rfl) ⟨Nat.le_refl _, Nat.le_refl _⟩ ?_
        have eq : q_rul C E.length R.length a = (false, a) := by
          rw [q_rul, if_neg q15, if_neg q27, q_rule, if_neg q3]
        unfold y_rr
        rw [eq]
        refine ⟨y_F.rf.I (fun _ => Or.inl ⟨rfl, rfl⟩), hT.to (b := a) (by omega), ?_, ?_, Or.inr ⟨rfl, rfl⟩⟩
        · show a + 2 * (x_sz h - x_sz h) ≤ a
          omega
        · show x_us h - x_us h ≤ 9 * (x_sz h - x_sz h)
          omega
