/-! THE CLASS: Reader: readTest -/
/-- what reading an item has left: q is how far it went, sl the slack of its objects -/
def y_ri (h h' : x_H) (w n a sl : Nat) (q : Bool × Nat) (p : Nat) (C : Nat → Int32) (r : Option x_V) : Prop := y_F h h' (fun i q => i = 802 ∧ q = w) (fun _ => False) ∧ c_T h' w n q.2 C ∧ a + 2 * (x_sz h' - x_sz h) ≤ q.2 + sl ∧ x_us h' - x_us h ≤ 9 * (x_sz h' - x_sz h) ∧ ((q.1 = true ∧ r = some (x_r (some (x_sz h))) ∧ x_sz h < x_sz h' ∧ y_it C h' (x_sz h) p ∧ x_fr h' 404 (x_sz h) = none) ∨ (q.1 = false ∧ r = some (x_r none)))
set_option maxHeartbeats 4000000 in
set_option maxRecDepth 100000 in
theorem c_readTest {G : x_G} {ad st vl : Nat → Nat} {kt : Nat × Option Nat} (hG : x_GS G ad st vl kt) {h : x_H} {w n p rd : Nat} {C : Nat → Int32} (hT : c_T h w n (p + 1) C) (hw : w + 1 < x_sz h) (hrd : rd < x_sz h ∧ x_kd h rd = 5 ∧ x_fr h 501 rd = some w) (hp7 : C p = -7) : x_Ex G mX5_readTest h [x_r (some rd)] (fun r h' => y_ri h h' w n (p + 1) 1 (q_test C (p + 1)) p C r) := by
  have h15 := hT.2.2.2.1
  have han := hT.2.2.2.2.1
  refine x_enter mwX5_readTest (Nat.le_of_ble_eq_true rfl) ?_
  show x_E _ _ _ _ _ [(0, x_r (some rd))] _ _
  refine x_E.eq (h2 := x_sI h 802 w (nI (p + 1))) ?_ rfl rfl rfl (x_sI_id hT.2.2.1).symm
  refine x_aload_n (i := 0) (o := some rd) dX5_readTest_0 rfl rfl ?_
  refine x_getRv (v := some w) dX5_readTest_1 fX5_readTest_18 (i := 501) rfl rfl (by first | exact hrd.2.1 | exact hrg.1 | (simp only [x_kd_sI]; first | exact hrd.2.1 | exact hrg.1)) ((by first | exact hrd.2.2 | exact hrg.2 | (simp only [x_fr_sI]; first | exact hrd.2.2 | exact hrg.2))) ?_
  refine x_iconst (v := 0) dX5_readTest_4 (by decide) ?_
  refine x_bipush (v := 7) dX5_readTest_5 (by decide) ?_
  by_cases q7 : q_n C 0 7 (p + 1)
  · skip
    have hbq7 := hT.2.2.2.2.2.2.n q7
    refine x_callV (a := w) (av := [x_i 0, x_i 7]) (rest := []) (r := (some (x_i (C (p + 1))))) (h1 := x_sI h 802 w (nI (p + 2))) dX5_readTest_7 sX5_readTest_49 (by first | exact hT.1.1 | exact hTg.1.1 | (simp only [x_kd_sI]; first | exact hT.1.1 | exact hTg.1.1)) rfl rfl (Nat.le_of_ble_eq_true rfl) (by first | exact ⟨Nat.le_refl _, Nat.le_refl _⟩ | exact hleg) (d_num_t G hT q7) ?_
    show x_E _ _ _ _ 10 _ [x_i (C (p + 1))] _
    refine x_istore_n (i := 1) (lv' := [(0, x_r (some rd)), (1, x_i (C (p + 1)))]) dX5_readTest_10 rfl (by decide) rfl ?_
    refine x_iload_n (i := 1) (x := C (p + 1)) dX5_readTest_11 rfl rfl ?_
    refine x_iconst (v := (-1)) dX5_readTest_12 (by decide) ?_
    refine x_icmp_ne (tgt := 18) dX5_readTest_13 (by decide) (fun c13 => ?_) (fun c13 => ?_)
    · skip
      refine x_new dX5_readTest_18 nX5_readTest_105 (by first | exact ⟨Nat.le_refl _, Nat.le_refl _⟩ | exact hleg) ?_
      show x_E _ _ _ _ 21 _ [x_r (some (x_sz h))] _
      refine x_dup dX5_readTest_21 rfl ?_
      refine x_iconst (v := 0) dX5_readTest_22 (by decide) ?_
      refine x_iload_n (i := 1) (x := C (p + 1)) dX5_readTest_23 rfl rfl ?_
      obtain ⟨_, g, ⟨rfl, hob⟩, hca⟩ := c_n_it G (h := x_nO (x_sI h 802 w (nI (p + 2))) 4 7) (t := x_sz h) x_nO_k 0 (C (p + 1))
      refine x_callI (a := x_sz h) (av := [x_i 0, x_i (C (p + 1))]) (rest := [x_r (some (x_sz h))]) (r := none) (h1 := g) dX5_readTest_24 sX5_readTest_107 rfl rfl (Nat.le_of_ble_eq_true rfl) y_nO_F.le (hca) ?_
      show x_E _ _ _ _ 27 _ [x_r (some (x_sz h))] _
      have hFg : y_F h g (fun i q => i = 802 ∧ q = w) (fun _ => False) := y_nO_F.ob hob (Nat.le_refl _)
      have h8g : x_fi g 802 w = nI (p + 2) := (hob.2.2.2.2.2.2.2.1 802 w (by omega)).1.trans (x_nO_at (by omega))
      have hTg : c_T g w n (p + 2) C := hT.F hw hFg (by omega) (by omega) (fun z => z) h8g (by omega)
      have hfi := hob.2.2.2.2.2.2.2.2.1
      have hfr := hob.2.2.2.2.2.2.2.2.2
      have hrg : x_kd g rd = 5 ∧ x_fr g 501 rd = some w := ⟨(hFg.kd hrd.1).trans hrd.2.1, (hFg.fr hrd.1 (by omega)).trans hrd.2.2⟩
      have ht4 : x_kd g (x_sz h) = 4 := (congrFun hob.2.2.1 _).trans x_nO_k
      have hsg : x_sz g = x_sz h + 1 := hob.1.trans rfl
      have hug : x_us g = x_us h + 7 := hob.2.1.trans rfl
      have hleg := hFg.le
      refine x_astore_n (i := 2) (lv' := [(0, x_r (some rd)), (1, x_i (C (p + 1))), (2, x_r (some (x_sz h)))]) dX5_readTest_27 rfl (by decide) rfl ?_
      refine x_E.eq (h2 := x_sI g 802 w (nI (p + 2))) ?_ rfl rfl rfl (x_sI_id h8g).symm
      refine x_aload_n (i := 2) (o := some (x_sz h)) dX5_readTest_28 rfl rfl ?_
      refine x_aload_n (i := 0) (o := some rd) dX5_readTest_29 rfl rfl ?_
      refine x_getRv (v := some w) dX5_readTest_30 fX5_readTest_18 (i := 501) rfl rfl (by first | exact hrd.2.1 | exact hrg.1 | (simp only [x_kd_sI]; first | exact hrd.2.1 | exact hrg.1)) ((by first | exact hrd.2.2 | exact hrg.2 | (simp only [x_fr_sI]; first | exact hrd.2.2 | exact hrg.2))) ?_
      refine x_gets (v := x_r (some (ad 7))) dX5_readTest_33 fX5_readTest_114 (fun U hU => ((hG U hU).2.2.1 7 (by decide)).1) ?_
      by_cases q9 : C (p + 2) = -9
      · skip
        have hbq9 := hTg.2.2.2.2.2.2.c q9 (by decide)
        refine x_callV (a := w) (av := [x_r (some (ad 7))]) (rest := [x_r (some (x_sz h))]) (r := (some (x_i 1))) (h1 := x_sI g 802 w (nI (p + 3))) dX5_readTest_36 sX5_readTest_34 (by first | exact hT.1.1 | exact hTg.1.1 | (simp only [x_kd_sI]; first | exact hT.1.1 | exact hTg.1.1)) rfl rfl (Nat.le_of_ble_eq_true rfl) (by first | exact ⟨Nat.le_refl _, Nat.le_refl _⟩ | exact hleg) (d_take_t hG hTg (k := 7) (by decide) q9) ?_
        show x_E _ _ _ _ 39 _ [x_i 1, x_r (some (x_sz h))] _
        refine x_putI (i := 402) dX5_readTest_39 pX5_readTest_117 rfl rfl (by first | exact ht4 | (simp only [x_kd_sI]; exact ht4)) (rfl) (by rfl) ?_
        rw [show x_sI (x_sI g 802 w (nI (p + 3))) 402 (x_sz h) 1 = x_sI (x_sI g 402 (x_sz h) 1) 802 w (nI (p + 3)) from x_sI_cm (by decide)]
        refine x_aload_n (i := 2) (o := some (x_sz h)) dX5_readTest_42 rfl rfl ?_
        refine x_getIv (v := 1) dX5_readTest_43 fX5_readTest_117 (i := 402) rfl rfl (by first | exact ht4 | (simp only [x_kd_sI]; exact ht4)) (by simp [x_fi_sI]) ?_
        refine x_if_ne (tgt := 64) dX5_readTest_46 (by decide) (fun _ => ?_) (fun c => absurd c (by decide))
        refine x_aload_n (i := 2) (o := some (x_sz h)) dX5_readTest_64 rfl rfl ?_
        refine x_aload_n (i := 0) (o := some rd) dX5_readTest_65 rfl rfl ?_
        refine x_getRv (v := some w) dX5_readTest_66 fX5_readTest_18 (i := 501) rfl rfl (by first | exact hrd.2.1 | exact hrg.1 | (simp only [x_kd_sI]; first | exact hrd.2.1 | exact hrg.1)) ((by first | exact hrd.2.2 | exact hrg.2 | (simp only [x_fr_sI]; first | exact hrd.2.2 | exact hrg.2))) ?_
        refine x_iconst (v := 0) dX5_readTest_69 (by decide) ?_
        refine x_bipush (v := 9) dX5_readTest_70 (by decide) ?_
        by_cases qn : q_n C 0 9 (p + 3)
        · skip
          have hbqn := hTg.2.2.2.2.2.2.n qn
          refine x_callV (a := w) (av := [x_i 0, x_i 9]) (rest := [x_r (some (x_sz h))]) (r := (some (x_i (C (p + 3))))) (h1 := x_sI (x_sI g 402 (x_sz h) 1) 802 w (nI (p + 4))) dX5_readTest_72 sX5_readTest_49 (by first | exact hT.1.1 | exact hTg.1.1 | (simp only [x_kd_sI]; first | exact hT.1.1 | exact hTg.1.1)) rfl rfl (Nat.le_of_ble_eq_true rfl) (by first | exact ⟨Nat.le_refl _, Nat.le_refl _⟩ | exact hleg) (d_num_t G (hTg.I (by omega)) qn) ?_
          show x_E _ _ _ _ 75 _ [x_i (C (p + 3)), x_r (some (x_sz h))] _
          refine x_putI (i := 403) dX5_readTest_75 pX5_readTest_124 rfl rfl (by first | exact ht4 | (simp only [x_kd_sI]; exact ht4)) (rfl) (by rfl) ?_
          rw [show x_sI (x_sI (x_sI g 402 (x_sz h) 1) 802 w (nI (p + 4))) 403 (x_sz h) (C (p + 3)) = x_sI (x_sI (x_sI g 402 (x_sz h) 1) 403 (x_sz h) (C (p + 3))) 802 w (nI (p + 4)) from x_sI_cm (by decide)]
          refine x_aload_n (i := 2) (o := some (x_sz h)) dX5_readTest_78 rfl rfl ?_
          refine x_getIv (v := C (p + 3)) dX5_readTest_79 fX5_readTest_124 (i := 403) rfl rfl (by first | exact ht4 | (simp only [x_kd_sI]; exact ht4)) (by simp [x_fi_sI]) ?_
          refine x_iconst (v := (-1)) dX5_readTest_82 (by decide) ?_
          refine x_icmp_ne (tgt := 90) dX5_readTest_83 (by decide) (fun c83 => ?_) (fun c83 => ?_)
          · skip
            refine x_aload_n (i := 2) (o := some (x_sz h)) dX5_readTest_90 rfl rfl ?_
            refine x_areturn dX5_readTest_91 rfl (by first | exact ⟨Nat.le_refl _, Nat.le_refl _⟩ | exact hleg) ?_
            have eq : q_test C (p + 1) = (true, p + 4) := by
              rw [q_test, if_pos q7, if_neg (by rw [q9]; decide), if_pos q9, if_pos qn]
            rw [eq]
            refine ⟨((hFg.I (i := 402) (fun z => absurd z (Nat.lt_irrefl _))).I (i := 403) (fun z => absurd z (Nat.lt_irrefl _))).I (fun _ => ⟨rfl, rfl⟩), ((hTg.I (by omega)).I (by omega)).to (b := p + 4) (by omega), ?_, ?_, ?_⟩
            · show p + 1 + 2 * (x_sz g - x_sz h) ≤ p + 4 + 1
              omega
            · show x_us g - x_us h ≤ 9 * (x_sz g - x_sz h)
              omega
            · refine Or.inl ⟨rfl, rfl, by show x_sz h < x_sz g; omega, ⟨ht4, ?_, fun _ => ⟨?_, ?_, ?_⟩, fun z => ?_, fun z => ?_⟩, ?_⟩
              · rw [show z_ik C p = 0 from if_pos hp7]
                simp [x_fi_sI]
                exact hfi 400
              · simp [x_fi_sI]
                exact hfi 401
              · rw [if_pos q9]
                simp [x_fi_sI]
              · simp [x_fi_sI]
              · rw [hp7] at z; exact absurd z (by decide)
              · rw [hp7] at z; exact absurd z (by decide)
              · exact hfr 404
          · skip
            exact absurd c83 (z_neg1 qn.1)
        · skip
          refine x_callV (a := w) (av := [x_i 0, x_i 9]) (rest := [x_r (some (x_sz h))]) (r := (some (x_i ((-1))))) (h1 := x_sI (x_sI g 402 (x_sz h) 1) 802 w (nI (p + 3))) dX5_readTest_72 sX5_readTest_49 (by first | exact hT.1.1 | exact hTg.1.1 | (simp only [x_kd_sI]; first | exact hT.1.1 | exact hTg.1.1)) rfl rfl (Nat.le_of_ble_eq_true rfl) (by first | exact ⟨Nat.le_refl _, Nat.le_refl _⟩ | exact hleg) (d_num_f G (hTg.I (by omega)) (b := p + 3) (by omega) (by decide) qn) ?_
          show x_E _ _ _ _ 75 _ [x_i ((-1)), x_r (some (x_sz h))] _
          refine x_putI (i := 403) dX5_readTest_75 pX5_readTest_124 rfl rfl (by first | exact ht4 | (simp only [x_kd_sI]; exact ht4)) (rfl) (by rfl) ?_
          rw [show x_sI (x_sI (x_sI g 402 (x_sz h) 1) 802 w (nI (p + 3))) 403 (x_sz h) ((-1)) = x_sI (x_sI (x_sI g 402 (x_sz h) 1) 403 (x_sz h) ((-1))) 802 w (nI (p + 3)) from x_sI_cm (by decide)]
          refine x_aload_n (i := 2) (o := some (x_sz h)) dX5_readTest_78 rfl rfl ?_
          refine x_getIv (v := (-1)) dX5_readTest_79 fX5_readTest_124 (i := 403) rfl rfl (by first | exact ht4 | (simp only [x_kd_sI]; exact ht4)) (by simp [x_fi_sI]) ?_
          refine x_iconst (v := (-1)) dX5_readTest_82 (by decide) ?_
          refine x_icmp_ne (tgt := 90) dX5_readTest_83 (by decide) (fun c => absurd c (by decide)) (fun _ => ?_)
          refine x_null dX5_readTest_86 ?_
          refine x_goto (tgt := 91) dX5_readTest_87 (by decide) ?_
          refine x_areturn dX5_readTest_91 rfl (by first | exact ⟨Nat.le_refl _, Nat.le_refl _⟩ | exact hleg) ?_
          have eq : q_test C (p + 1) = (false, p + 3) := by
            rw [q_test, if_pos q7, if_neg (by rw [q9]; decide), if_pos q9, if_neg qn]
          rw [eq]
          refine ⟨((hFg.I (i := 402) (fun z => absurd z (Nat.lt_irrefl _))).I (i := 403) (fun z => absurd z (Nat.lt_irrefl _))).I (fun _ => ⟨rfl, rfl⟩), ((hTg.I (by omega)).I (by omega)).to (b := p + 3) (by omega), ?_, ?_, ?_⟩
          · show p + 1 + 2 * (x_sz g - x_sz h) ≤ p + 3 + 1
            omega
          · show x_us g - x_us h ≤ 9 * (x_sz g - x_sz h)
            omega
          · exact Or.inr ⟨rfl, rfl⟩
      · skip
        refine x_callV (a := w) (av := [x_r (some (ad 7))]) (rest := [x_r (some (x_sz h))]) (r := (some (x_i 0))) (h1 := x_sI g 802 w (nI (p + 2))) dX5_readTest_36 sX5_readTest_34 (by first | exact hT.1.1 | exact hTg.1.1 | (simp only [x_kd_sI]; first | exact hT.1.1 | exact hTg.1.1)) rfl rfl (Nat.le_of_ble_eq_true rfl) (by first | exact ⟨Nat.le_refl _, Nat.le_refl _⟩ | exact hleg) (d_take_f hG hTg (k := 7) (b := p + 2) (by omega) (by decide) q9) ?_
        show x_E _ _ _ _ 39 _ [x_i 0, x_r (some (x_sz h))] _
        refine x_putI (i := 402) dX5_readTest_39 pX5_readTest_117 rfl rfl (by first | exact ht4 | (simp only [x_kd_sI]; exact ht4)) (rfl) (by rfl) ?_
        rw [show x_sI (x_sI g 802 w (nI (p + 2))) 402 (x_sz h) 0 = x_sI (x_sI g 402 (x_sz h) 0) 802 w (nI (p + 2)) from x_sI_cm (by decide)]
        refine x_aload_n (i := 2) (o := some (x_sz h)) dX5_readTest_42 rfl rfl ?_
        refine x_getIv (v := 0) dX5_readTest_43 fX5_readTest_117 (i := 402) rfl rfl (by first | exact ht4 | (simp only [x_kd_sI]; exact ht4)) (by simp [x_fi_sI]) ?_
        refine x_if_ne (tgt := 64) dX5_readTest_46 (by decide) (fun c => absurd c (by decide)) (fun _ => ?_)
        refine x_aload_n (i := 0) (o := some rd) dX5_readTest_49 rfl rfl ?_
        refine x_getRv (v := some w) dX5_readTest_50 fX5_readTest_18 (i := 501) rfl rfl (by first | exact hrd.2.1 | exact hrg.1 | (simp only [x_kd_sI]; first | exact hrd.2.1 | exact hrg.1)) ((by first | exact hrd.2.2 | exact hrg.2 | (simp only [x_fr_sI]; first | exact hrd.2.2 | exact hrg.2))) ?_
        refine x_gets (v := x_r (some (ad 6))) dX5_readTest_53 fX5_readTest_121 (fun U hU => ((hG U hU).2.2.1 6 (by decide)).1) ?_
        by_cases q8 : C (p + 2) = -8
        · skip
          have hbq8 := hTg.2.2.2.2.2.2.c q8 (by decide)
          refine x_callV (a := w) (av := [x_r (some (ad 6))]) (rest := []) (r := (some (x_i 1))) (h1 := x_sI (x_sI g 402 (x_sz h) 0) 802 w (nI (p + 3))) dX5_readTest_56 sX5_readTest_34 (by first | exact hT.1.1 | exact hTg.1.1 | (simp only [x_kd_sI]; first | exact hT.1.1 | exact hTg.1.1)) rfl rfl (Nat.le_of_ble_eq_true rfl) (by first | exact ⟨Nat.le_refl _, Nat.le_refl _⟩ | exact hleg) (d_take_t hG (hTg.I (by omega)) (k := 6) (by decide) q8) ?_
          show x_E _ _ _ _ 59 _ [x_i 1] _
          refine x_if_ne (tgt := 64) dX5_readTest_59 (by decide) (fun _ => ?_) (fun c => absurd c (by decide))
          refine x_aload_n (i := 2) (o := some (x_sz h)) dX5_readTest_64 rfl rfl ?_
          refine x_aload_n (i := 0) (o := some rd) dX5_readTest_65 rfl rfl ?_
          refine x_getRv (v := some w) dX5_readTest_66 fX5_readTest_18 (i := 501) rfl rfl (by first | exact hrd.2.1 | exact hrg.1 | (simp only [x_kd_sI]; first | exact hrd.2.1 | exact hrg.1)) ((by first | exact hrd.2.2 | exact hrg.2 | (simp only [x_fr_sI]; first | exact hrd.2.2 | exact hrg.2))) ?_
          refine x_iconst (v := 0) dX5_readTest_69 (by decide) ?_
          refine x_bipush (v := 9) dX5_readTest_70 (by decide) ?_
          by_cases qn : q_n C 0 9 (p + 3)
          · skip
            have hbqn := hTg.2.2.2.2.2.2.n qn
            refine x_callV (a := w) (av := [x_i 0, x_i 9]) (rest := [x_r (some (x_sz h))]) (r := (some (x_i (C (p + 3))))) (h1 := x_sI (x_sI g 402 (x_sz h) 0) 802 w (nI (p + 4))) dX5_readTest_72 sX5_readTest_49 (by first | exact hT.1.1 | exact hTg.1.1 | (simp only [x_kd_sI]; first | exact hT.1.1 | exact hTg.1.1)) rfl rfl (Nat.le_of_ble_eq_true rfl) (by first | exact ⟨Nat.le_refl _, Nat.le_refl _⟩ | exact hleg) (d_num_t G (hTg.I (by omega)) qn) ?_
            show x_E _ _ _ _ 75 _ [x_i (C (p + 3)), x_r (some (x_sz h))] _
            refine x_putI (i := 403) dX5_readTest_75 pX5_readTest_124 rfl rfl (by first | exact ht4 | (simp only [x_kd_sI]; exact ht4)) (rfl) (by rfl) ?_
            rw [show x_sI (x_sI (x_sI g 402 (x_sz h) 0) 802 w (nI (p + 4))) 403 (x_sz h) (C (p + 3)) = x_sI (x_sI (x_sI g 402 (x_sz h) 0) 403 (x_sz h) (C (p + 3))) 802 w (nI (p + 4)) from x_sI_cm (by decide)]
            refine x_aload_n (i := 2) (o := some (x_sz h)) dX5_readTest_78 rfl rfl ?_
            refine x_getIv (v := C (p + 3)) dX5_readTest_79 fX5_readTest_124 (i := 403) rfl rfl (by first | exact ht4 | (simp only [x_kd_sI]; exact ht4)) (by simp [x_fi_sI]) ?_
            refine x_iconst (v := (-1)) dX5_readTest_82 (by decide) ?_
            refine x_icmp_ne (tgt := 90) dX5_readTest_83 (by decide) (fun c83 => ?_) (fun c83 => ?_)
            · skip
              refine x_aload_n (i := 2) (o := some (x_sz h)) dX5_readTest_90 rfl rfl ?_
              refine x_areturn dX5_readTest_91 rfl (by first | exact ⟨Nat.le_refl _, Nat.le_refl _⟩ | exact hleg) ?_
              have eq : q_test C (p + 1) = (true, p + 4) := by
                rw [q_test, if_pos q7, if_pos q8, if_pos qn]
              rw [eq]
              refine ⟨((hFg.I (i := 402) (fun z => absurd z (Nat.lt_irrefl _))).I (i := 403) (fun z => absurd z (Nat.lt_irrefl _))).I (fun _ => ⟨rfl, rfl⟩), ((hTg.I (by omega)).I (by omega)).to (b := p + 4) (by omega), ?_, ?_, ?_⟩
              · show p + 1 + 2 * (x_sz g - x_sz h) ≤ p + 4 + 1
                omega
              · show x_us g - x_us h ≤ 9 * (x_sz g - x_sz h)
                omega
              · refine Or.inl ⟨rfl, rfl, by show x_sz h < x_sz g; omega, ⟨ht4, ?_, fun _ => ⟨?_, ?_, ?_⟩, fun z => ?_, fun z => ?_⟩, ?_⟩
                · rw [show z_ik C p = 0 from if_pos hp7]
                  simp [x_fi_sI]
                  exact hfi 400
                · simp [x_fi_sI]
                  exact hfi 401
                · rw [if_neg q9]
                  simp [x_fi_sI]
                · simp [x_fi_sI]
                · rw [hp7] at z; exact absurd z (by decide)
                · rw [hp7] at z; exact absurd z (by decide)
                · exact hfr 404
            · skip
              exact absurd c83 (z_neg1 qn.1)
          · skip
            refine x_callV (a := w) (av := [x_i 0, x_i 9]) (rest := [x_r (some (x_sz h))]) (r := (some (x_i ((-1))))) (h1 := x_sI (x_sI g 402 (x_sz h) 0) 802 w (nI (p + 3))) dX5_readTest_72 sX5_readTest_49 (by first | exact hT.1.1 | exact hTg.1.1 | (simp only [x_kd_sI]; first | exact hT.1.1 | exact hTg.1.1)) rfl rfl (Nat.le_of_ble_eq_true rfl) (by first | exact ⟨Nat.le_refl _, Nat.le_refl _⟩ | exact hleg) (d_num_f G (hTg.I (by omega)) (b := p + 3) (by omega) (by decide) qn) ?_
            show x_E _ _ _ _ 75 _ [x_i ((-1)), x_r (some (x_sz h))] _
            refine x_putI (i := 403) dX5_readTest_75 pX5_readTest_124 rfl rfl (by first | exact ht4 | (simp only [x_kd_sI]; exact ht4)) (rfl) (by rfl) ?_
            rw [show x_sI (x_sI (x_sI g 402 (x_sz h) 0) 802 w (nI (p + 3))) 403 (x_sz h) ((-1)) = x_sI (x_sI (x_sI g 402 (x_sz h) 0) 403 (x_sz h) ((-1))) 802 w (nI (p + 3)) from x_sI_cm (by decide)]
            refine x_aload_n (i := 2) (o := some (x_sz h)) dX5_readTest_78 rfl rfl ?_
            refine x_getIv (v := (-1)) dX5_readTest_79 fX5_readTest_124 (i := 403) rfl rfl (by first | exact ht4 | (simp only [x_kd_sI]; exact ht4)) (by simp [x_fi_sI]) ?_
            refine x_iconst (v := (-1)) dX5_readTest_82 (by decide) ?_
            refine x_icmp_ne (tgt := 90) dX5_readTest_83 (by decide) (fun c => absurd c (by decide)) (fun _ => ?_)
            refine x_null dX5_readTest_86 ?_
            refine x_goto (tgt := 91) dX5_readTest_87 (by decide) ?_
            refine x_areturn dX5_readTest_91 rfl (by first | exact ⟨Nat.le_refl _, Nat.le_refl _⟩ | exact hleg) ?_
            have eq : q_test C (p + 1) = (false, p + 3) := by
              rw [q_test, if_pos q7, if_pos q8, if_neg qn]
            rw [eq]
            refine ⟨((hFg.I (i := 402) (fun z => absurd z (Nat.lt_irrefl _))).I (i := 403) (fun z => absurd z (Nat.lt_irrefl _))).I (fun _ => ⟨rfl, rfl⟩), ((hTg.I (by omega)).I (by omega)).to (b := p + 3) (by omega), ?_, ?_, ?_⟩
            · show p + 1 + 2 * (x_sz g - x_sz h) ≤ p + 3 + 1
              omega
            · show x_us g - x_us h ≤ 9 * (x_sz g - x_sz h)
              omega
            · exact Or.inr ⟨rfl, rfl⟩
        · skip
          refine x_callV (a := w) (av := [x_r (some (ad 6))]) (rest := []) (r := (some (x_i 0))) (h1 := x_sI (x_sI g 402 (x_sz h) 0) 802 w (nI (p + 2))) dX5_readTest_56 sX5_readTest_34 (by first | exact hT.1.1 | exact hTg.1.1 | (simp only [x_kd_sI]; first | exact hT.1.1 | exact hTg.1.1)) rfl rfl (Nat.le_of_ble_eq_true rfl) (by first | exact ⟨Nat.le_refl _, Nat.le_refl _⟩ | exact hleg) (d_take_f hG (hTg.I (by omega)) (k := 6) (b := p + 2) (by omega) (by decide) q8) ?_
          show x_E _ _ _ _ 59 _ [x_i 0] _
          refine x_if_ne (tgt := 64) dX5_readTest_59 (by decide) (fun c => absurd c (by decide)) (fun _ => ?_)
          refine x_null dX5_readTest_62 ?_
          refine x_areturn dX5_readTest_63 rfl (by first | exact ⟨Nat.le_refl _, Nat.le_refl _⟩ | exact hleg) ?_
          have eq : q_test C (p + 1) = (false, p + 2) := by
            rw [q_test, if_pos q7, if_neg q8, if_neg q9]
          rw [eq]
          refine ⟨(hFg.I (i := 402) (fun z => absurd z (Nat.lt_irrefl _))).I (fun _ => ⟨rfl, rfl⟩), (hTg.I (by omega)).to (b := p + 2) (by omega), ?_, ?_, ?_⟩
          · show p + 1 + 2 * (x_sz g - x_sz h) ≤ p + 2 + 1
            omega
          · show x_us g - x_us h ≤ 9 * (x_sz g - x_sz h)
            omega
          · exact Or.inr ⟨rfl, rfl⟩
    · skip
      exact absurd c13 (z_neg1 q7.1)
  · skip
    refine x_callV (a := w) (av := [x_i 0, x_i 7]) (rest := []) (r := (some (x_i ((-1))))) (h1 := x_sI h 802 w (nI (p + 1))) dX5_readTest_7 sX5_readTest_49 (by first | exact hT.1.1 | exact hTg.1.1 | (simp only [x_kd_sI]; first | exact hT.1.1 | exact hTg.1.1)) rfl rfl (Nat.le_of_ble_eq_true rfl) (by first | exact ⟨Nat.le_refl _, Nat.le_refl _⟩ | exact hleg) (d_num_f G hT (b := p + 1) (by omega) (by decide) q7) ?_
    show x_E _ _ _ _ 10 _ [x_i ((-1))] _
    refine x_istore_n (i := 1) (lv' := [(0, x_r (some rd)), (1, x_i ((-1)))]) dX5_readTest_10 rfl (by decide) rfl ?_
    refine x_iload_n (i := 1) (x := (-1)) dX5_readTest_11 rfl rfl ?_
    refine x_iconst (v := (-1)) dX5_readTest_12 (by decide) ?_
    refine x_icmp_ne (tgt := 18) dX5_readTest_13 (by decide) (fun c => absurd c (by decide)) (fun _ => ?_)
    refine x_null dX5_readTest_16 ?_
    refine x_areturn dX5_readTest_17 rfl (by first | exact ⟨Nat.le_refl _, Nat.le_refl _⟩ | exact hleg) ?_
    have eq : q_test C (p + 1) = (false, p + 1) := by
      rw [q_test, if_neg q7]
    rw [eq]
    refine ⟨y_F.rf.I (fun _ => ⟨rfl, rfl⟩), hT.to (b := p + 1) (by omega), ?_, ?_, ?_⟩
    · show p + 1 + 2 * (x_sz h - x_sz h) ≤ p + 1 + 1
      omega
    · show x_us h - x_us h ≤ 9 * (x_sz h - x_sz h)
      omega
    · exact Or.inr ⟨rfl, rfl⟩
