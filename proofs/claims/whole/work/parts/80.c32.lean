/-! THE CLASS: HazardRules: a new object -/
theorem w_I.st {h : x_H} {m k : Nat} (hs0 : x_sz h = m + 1) (hk : x_kd h m = k) (hf : ∀ i, x_fi h i m = 0) : w_I h h m k [] (fun _ => 0) := ⟨hs0, rfl, hk, hf, fun j q hj => by simp at hj, fun _ _ => ⟨rfl, fun _ => rfl, fun _ => rfl, fun _ => rfl, rfl, rfl, rfl⟩⟩
theorem w_I.Y {h0 h1 : x_H} {k n : Nat} {L : List (Nat × Nat × Nat)} {f : Nat → Int32} (w : w_I (x_nO h0 k n) h1 (x_sz h0) k L f) : y_F h0 h1 (fun _ _ => False) (fun _ => False) := by
  obtain ⟨a1, a2, a3, a4, a5, a6⟩ := w
  refine ⟨by omega, ?_, fun a ha => ?_, fun i a ha _ => ?_, fun a ha _ => ?_⟩
  · rw [a2, x_us_nO]
    omega
  · obtain ⟨b1, b2, b3, b4, b5, b6, b7⟩ := a6 a ha
    rw [x_kd_nO, if_neg (by omega)] at b1
    exact ⟨b1, b5⟩
  · obtain ⟨b1, b2, b3, b4, b5, b6, b7⟩ := a6 a ha
    have c2 := b2 i
    have c3 := b3 i
    have c4 := b4 i
    rw [x_fi_nO, if_neg (by omega)] at c2
    rw [x_fr_nO, if_neg (by omega)] at c3
    rw [x_fl_nO, if_neg (by omega)] at c4
    exact ⟨c2, c3, c4⟩
  · obtain ⟨b1, b2, b3, b4, b5, b6, b7⟩ := a6 a ha
    exact ⟨b6, b7⟩
theorem w_I.N {h0 : x_H} {k n : Nat} : w_I (x_nO h0 k n) (x_nO h0 k n) (x_sz h0) k [] (fun _ => 0) := w_I.st rfl (by rw [x_kd_nO, if_pos rfl]) (fun i => by rw [x_fi_nO, if_pos rfl])
set_option maxHeartbeats 4000000 in
set_option maxRecDepth 100000 in
theorem c_n_wd (G : x_G) {h : x_H} {w : Nat} (hs0 : x_sz h = w + 1) (w0 : w_I h h w 8 [] (fun _ => 0)) : x_Ex G mX8_init h [x_r (some w)] (fun r h2 => r = none ∧ w_I h h2 w 8 [(800, 20, 1500)] (fun i => if i = 802 then 0 else (fun i => if i = 801 then 0 else (fun _ => 0) i) i)) := by
  refine x_enter mwX8_init (Nat.le_of_ble_eq_true rfl) ?_
  show x_E _ _ _ _ _ [(0, x_r (some w))] _ _
  refine x_aload_n (i := 0) (o := some w) dX8_init_0 rfl rfl ?_
  refine x_objInit dX8_init_1 sX8_init_3 (Nat.le_of_ble_eq_true rfl) ?_
  refine x_aload_n (i := 0) (o := some w) dX8_init_4 rfl rfl ?_
  refine x_sipush (v := 1500) dX8_init_5 (by decide) ?_
  refine x_newa_i (N := 1500) dX8_init_8 aX8_init_int (by decide) (by decide) (by decide) (w_le hs0 w0) ?_
  refine x_putR (i := 800) dX8_init_10 pX8_init_9 rfl rfl (by first | exact w0.2.2.1 | (rw [x_kd_nA, if_neg (by have := w0.1; omega)]; exact w0.2.2.1)) (Or.inr ⟨_, rfl⟩) ?_
  have w1 := w0.A 800 20 1500 (by decide)
  generalize x_sR (x_nA h 20 1500) 800 w (some (x_sz h)) = h1 at w1 ⊢
  refine x_aload_n (i := 0) (o := some w) dX8_init_13 rfl rfl ?_
  refine x_iconst (v := 0) dX8_init_14 (by decide) ?_
  refine x_putI (i := 801) dX8_init_15 pX8_init_15 rfl rfl (by first | exact w1.2.2.1 | (rw [x_kd_nA, if_neg (by have := w1.1; omega)]; exact w1.2.2.1)) (rfl) (by rfl) ?_
  have w2 := w1.I 801 0
  generalize x_sI h1 801 w 0 = h2 at w2 ⊢
  refine x_aload_n (i := 0) (o := some w) dX8_init_18 rfl rfl ?_
  refine x_iconst (v := 0) dX8_init_19 (by decide) ?_
  refine x_putI (i := 802) dX8_init_20 pX8_init_19 rfl rfl (by first | exact w2.2.2.1 | (rw [x_kd_nA, if_neg (by have := w2.1; omega)]; exact w2.2.2.1)) (rfl) (by rfl) ?_
  have w3 := w2.I 802 0
  generalize x_sI h2 802 w 0 = h3 at w3 ⊢
  refine x_return dX8_init_23 rfl (w_le hs0 w3) ?_
  exact ⟨rfl, w3⟩
set_option maxHeartbeats 4000000 in
set_option maxRecDepth 100000 in
theorem c_n_fa (G : x_G) {h : x_H} {fa : Nat} (hs0 : x_sz h = fa + 1) (w0 : w_I h h fa 3 [] (fun _ => 0)) : x_Ex G mX2_init h [x_r (some fa)] (fun r h3 => r = none ∧ ∃ h2, w_I h h2 fa 3 [(301, 23, 16), (302, 23, 16), (303, 22, 16), (304, 20, 8)] (fun i => if i = 300 then 1 else (fun _ => 0) i) ∧ x_F h2 h3 (fun _ _ => False) (fun a => a = fa + 4) ∧ ∀ t, t < 8 → x_rw h3 (fa + 4) t = -1) := by
  refine x_enter mwX2_init (Nat.le_of_ble_eq_true rfl) ?_
  show x_E _ _ _ _ _ [(0, x_r (some fa))] _ _
  refine x_aload_n (i := 0) (o := some fa) dX2_init_0 rfl rfl ?_
  refine x_objInit dX2_init_1 sX2_init_3 (Nat.le_of_ble_eq_true rfl) ?_
  refine x_aload_n (i := 0) (o := some fa) dX2_init_4 rfl rfl ?_
  refine x_iconst (v := 1) dX2_init_5 (by decide) ?_
  refine x_putI (i := 300) dX2_init_6 pX2_init_9 rfl rfl (by first | exact w0.2.2.1 | (rw [x_kd_nA, if_neg (by have := w0.1; omega)]; exact w0.2.2.1)) (rfl) (by rfl) ?_
  have w1 := w0.I 300 1
  generalize x_sI h 300 fa 1 = h1 at w1 ⊢
  refine x_aload_n (i := 0) (o := some fa) dX2_init_9 rfl rfl ?_
  refine x_bipush (v := 16) dX2_init_10 (by decide) ?_
  refine x_newa_j (N := 16) dX2_init_12 aX2_init_long (by decide) (by decide) (by decide) (by first | exact (w_le hs0 w1) | exact ⟨Nat.le_trans (w_le hs0 w5).1 hF9.le.1, Nat.le_trans (w_le hs0 w5).2 hF9.le.2⟩) ?_
  refine x_putR (i := 301) dX2_init_14 pX2_init_15 rfl rfl (by first | exact w1.2.2.1 | (rw [x_kd_nA, if_neg (by have := w1.1; omega)]; exact w1.2.2.1)) (Or.inr ⟨_, rfl⟩) ?_
  have w2 := w1.A 301 23 16 (by decide)
  generalize x_sR (x_nA h1 23 16) 301 fa (some (x_sz h1)) = h2 at w2 ⊢
  refine x_aload_n (i := 0) (o := some fa) dX2_init_17 rfl rfl ?_
  refine x_bipush (v := 16) dX2_init_18 (by decide) ?_
  refine x_newa_j (N := 16) dX2_init_20 aX2_init_long (by decide) (by decide) (by decide) (by first | exact (w_le hs0 w2) | exact ⟨Nat.le_trans (w_le hs0 w5).1 hF9.le.1, Nat.le_trans (w_le hs0 w5).2 hF9.le.2⟩) ?_
  refine x_putR (i := 302) dX2_init_22 pX2_init_19 rfl rfl (by first | exact w2.2.2.1 | (rw [x_kd_nA, if_neg (by have := w2.1; omega)]; exact w2.2.2.1)) (Or.inr ⟨_, rfl⟩) ?_
  have w3 := w2.A 302 23 16 (by decide)
  generalize x_sR (x_nA h2 23 16) 302 fa (some (x_sz h2)) = h3 at w3 ⊢
  refine x_aload_n (i := 0) (o := some fa) dX2_init_25 rfl rfl ?_
  refine x_bipush (v := 16) dX2_init_26 (by decide) ?_
  refine x_newa_z (N := 16) dX2_init_28 aX2_init_boolean (by decide) (by decide) (by decide) (by first | exact (w_le hs0 w3) | exact ⟨Nat.le_trans (w_le hs0 w5).1 hF9.le.1, Nat.le_trans (w_le hs0 w5).2 hF9.le.2⟩) ?_
  refine x_putR (i := 303) dX2_init_30 pX2_init_22 rfl rfl (by first | exact w3.2.2.1 | (rw [x_kd_nA, if_neg (by have := w3.1; omega)]; exact w3.2.2.1)) (Or.inr ⟨_, rfl⟩) ?_
  have w4 := w3.A 303 22 16 (by decide)
  generalize x_sR (x_nA h3 22 16) 303 fa (some (x_sz h3)) = h4 at w4 ⊢
  refine x_aload_n (i := 0) (o := some fa) dX2_init_33 rfl rfl ?_
  refine x_bipush (v := 8) dX2_init_34 (by decide) ?_
  refine x_newa_i (N := 8) dX2_init_36 aX2_init_int (by decide) (by decide) (by decide) (by first | exact (w_le hs0 w4) | exact ⟨Nat.le_trans (w_le hs0 w5).1 hF9.le.1, Nat.le_trans (w_le hs0 w5).2 hF9.le.2⟩) ?_
  refine x_putR (i := 304) dX2_init_38 pX2_init_26 rfl rfl (by first | exact w4.2.2.1 | (rw [x_kd_nA, if_neg (by have := w4.1; omega)]; exact w4.2.2.1)) (Or.inr ⟨_, rfl⟩) ?_
  have w5 := w4.A 304 20 8 (by decide)
  generalize x_sR (x_nA h4 20 8) 304 fa (some (x_sz h4)) = h5 at w5 ⊢
  refine x_aload_n (i := 0) (o := some fa) dX2_init_41 rfl rfl ?_
  refine x_getRv (v := some (fa + 4)) dX2_init_42 fX2_init_26 (i := 304) rfl rfl (by first | exact w5.2.2.1 | (rw [x_kd_nA, if_neg (by have := w5.1; omega)]; exact w5.2.2.1)) ((w5.2.2.2.2.1 3 (304, 20, 8) rfl).1) ?_
  refine x_iconst (v := (-1)) dX2_init_45 (by decide) ?_
  obtain ⟨_, h9, ⟨rfl, hF9, h8⟩, hca⟩ := c_fill G (h := h5) (a := fa + 4) (w5.2.2.2.2.1 3 (304, 20, 8) rfl).2.1 (by rw [(w5.2.2.2.2.1 3 (304, 20, 8) rfl).2.2.1]; decide) (-1)
  refine x_callS (av := [x_r (some (fa + 4)), x_i ((-1))]) (rest := []) (r := none) (h1 := h9) dX2_init_46 sX2_init_30 rfl rfl (Nat.le_of_ble_eq_true rfl) (by first | exact (w_le hs0 w5) | exact ⟨Nat.le_trans (w_le hs0 w5).1 hF9.le.1, Nat.le_trans (w_le hs0 w5).2 hF9.le.2⟩) (hca) ?_
  show x_E _ _ _ _ 49 _ [] _
  refine x_return dX2_init_49 rfl (by first | exact (w_le hs0 w5) | exact ⟨Nat.le_trans (w_le hs0 w5).1 hF9.le.1, Nat.le_trans (w_le hs0 w5).2 hF9.le.2⟩) ?_
  exact ⟨rfl, h5, w5, hF9, fun t ht => h8 t (by rw [(w5.2.2.2.2.1 3 (304, 20, 8) rfl).2.2.1]; exact ht)⟩
/-- a new object of the class -/
def k_New (h h2 : x_H) (ca : Nat) : Prop := k_P h2 ca ∧ x_sz h2 = ca + 11 ∧ x_us h2 = x_us h + 7571 ∧ x_fi h2 901 ca = 0 ∧ x_fi h2 903 ca = 0 ∧ x_fr h2 906 ca = some (ca + 10) ∧ (∀ C, y_bk C h2 (ca + 10) [] [] [] []) ∧ x_fi h2 106 (ca + 10) = -1 ∧ (∀ i, x_rw h2 (ca + 1) i = 0) ∧ (∀ i, x_rw h2 (ca + 2) i = 0) ∧ (∀ i, x_rl h2 (ca + 6) i = 0) ∧ (∀ i, x_rl h2 (ca + 7) i = 0) ∧ (∀ i, x_rw h2 (ca + 8) i = 0) ∧ (∀ t, t < 8 → x_rw h2 (ca + 9) t = -1) ∧ x_fi h2 300 (ca + 5) = 1 ∧ ∀ a, a < ca → x_kd h2 a = x_kd h a ∧ (∀ i, x_fi h2 i a = x_fi h i a) ∧ (∀ i, x_fr h2 i a = x_fr h i a) ∧ (∀ i, x_fl h2 i a = x_fl h i a) ∧ x_ln h2 a = x_ln h a ∧ x_rw h2 a = x_rw h a ∧ x_rl h2 a = x_rl h a
set_option maxHeartbeats 4000000 in
theorem k_New_of {h hA hB hB1 hC0 hC hC1 hD : x_H} {ca : Nat} (w : w_I h hA ca 9 [(900, 21, 3000), (902, 21, 3000)] (fun i => if i = 903 then 0 else (fun i => if i = 901 then 0 else (fun _ => 0) i) i)) (wB : w_I (x_nO hA 8 3) hB (ca + 3) 8 [(800, 20, 1500)] (fun i => if i = 802 then 0 else (fun i => if i = 801 then 0 else (fun _ => 0) i) i)) (yB0 : y_F hA hB (fun _ _ => False) (fun _ => False)) (gB1 : y_F hB hB1 (fun i a => i = 904 ∧ a = ca) (fun _ => False)) (fB1 : x_fr hB1 904 ca = some (ca + 3)) (uB1 : x_us hB1 = x_us hB) (yB1 : y_F hA hB1 (fun i a => i = 904 ∧ a = ca) (fun _ => False)) (wC : w_I (x_nO hB1 3 5) hC0 (ca + 5) 3 [(301, 23, 16), (302, 23, 16), (303, 22, 16), (304, 20, 8)] (fun i => if i = 300 then 1 else (fun _ => 0) i)) (fC : x_F hC0 hC (fun _ _ => False) (fun a => a = ca + 5 + 4)) (rC : ∀ t, t < 8 → x_rw hC (ca + 5 + 4) t = -1) (yC0 : y_F hB1 hC (fun _ _ => False) (fun _ => False)) (gC1 : y_F hC hC1 (fun i a => i = 905 ∧ a = ca) (fun _ => False)) (fC1 : x_fr hC1 905 ca = some (ca + 5)) (uC1 : x_us hC1 = x_us hC) (yC1 : y_F hB1 hC1 (fun i a => i = 905 ∧ a = ca) (fun _ => False)) (bD : n_bk (x_nO hC1 1 7) hD (ca + 10)) (yD0 : y_F hC1 hD (fun _ _ => False) (fun _ => False)) (zB1 : x_sz hB1 = ca + 5) (zC1 : x_sz hC1 = ca + 10) : k_New h (x_sR hD 906 ca (some (ca + 10))) ca := by
  have zA : x_sz hA = ca + 3 := w.1
  have zB : x_sz hB = ca + 5 := wB.1
  have zC : x_sz hC = ca + 10 := fC.1.trans wC.1
  have yD1 : y_F hC1 (x_sR hD 906 ca (some (ca + 10))) (fun i a => i = 906 ∧ a = ca) (fun _ => False) := (yD0.mono (fun _ _ z => z.elim) (fun _ z => z)).Rf (fun _ => ⟨rfl, rfl⟩)
  have fD1 : x_fr (x_sR hD 906 ca (some (ca + 10))) 906 ca = some (ca + 10) := by rw [x_fr_sR, if_pos ⟨rfl, rfl⟩]
  have zD1 : x_sz (x_sR hD 906 ca (some (ca + 10))) = ca + 11 := by rw [x_sz_sR, bD.1, x_sz_nO, zC1]
  have uD1 : x_us (x_sR hD 906 ca (some (ca + 10))) = x_us hC1 + 7 := by rw [x_us_sR, bD.2.1, x_us_nO]
  have dob : ∀ f, x_fr (x_sR hD 906 ca (some (ca + 10))) f (ca + 10) = x_fr hD f (ca + 10) := fun f => by rw [x_fr_sR, if_neg (by omega)]
  have dfi : ∀ f, x_fi (x_sR hD 906 ca (some (ca + 10))) f (ca + 10) = x_fi hD f (ca + 10) := fun f => rfl
  have dkd : x_kd (x_sR hD 906 ca (some (ca + 10))) (ca + 10) = 1 := by rw [x_kd_sR, bD.2.2.1, x_kd_nO, if_pos zC1.symm]
  generalize x_sR hD 906 ca (some (ca + 10)) = hE at *
  -- from hA: the object and its arrays
  have toE : ∀ a, a < ca + 3 → x_kd hE a = x_kd hA a ∧ x_ln hE a = x_ln hA a ∧ x_rw hE a = x_rw hA a ∧ x_rl hE a = x_rl hA a ∧ ∀ f, ¬ (a = ca ∧ (f = 904 ∨ f = 905 ∨ f = 906)) → x_fi hE f a = x_fi hA f a ∧ x_fr hE f a = x_fr hA f a ∧ x_fl hE f a = x_fl hA f a := by
    intro a ha
    refine ⟨(yD1.kd (by omega)).trans ((yC1.kd (by omega)).trans (yB1.kd (by omega))), (yD1.ln (by omega)).trans ((yC1.ln (by omega)).trans (yB1.ln (by omega))), (yD1.rw (by omega) id).trans ((yC1.rw (by omega) id).trans (yB1.rw (by omega) id)), (yD1.rl (by omega) id).trans ((yC1.rl (by omega) id).trans (yB1.rl (by omega) id)), fun f hf => ?_⟩
    have p1 := yD1.2.2.2.1 f a (by omega) (by omega)
    have p2 := yC1.2.2.2.1 f a (by omega) (by omega)
    have p3 := yB1.2.2.2.1 f a (by omega) (by omega)
    exact ⟨p1.1.trans (p2.1.trans p3.1), p1.2.1.trans (p2.2.1.trans p3.2.1), p1.2.2.trans (p2.2.2.trans p3.2.2)⟩
  -- from hB: the words
  have toW : ∀ a, ca + 3 ≤ a → a < ca + 5 → x_kd hE a = x_kd hB a ∧ x_ln hE a = x_ln hB a ∧ ∀ f, x_fr hE f a = x_fr hB f a := by
    intro a h1 h2
    refine ⟨(yD1.kd (by omega)).trans ((yC1.kd (by omega)).trans (gB1.kd (by omega))), (yD1.ln (by omega)).trans ((yC1.ln (by omega)).trans (gB1.ln (by omega))), fun f => (yD1.fr (by omega) (by omega)).trans ((yC1.fr (by omega) (by omega)).trans (gB1.fr (by omega) (by omega)))⟩
  -- from hC: the facts
  have toF : ∀ a, ca + 5 ≤ a → a < ca + 10 → x_kd hE a = x_kd hC a ∧ x_ln hE a = x_ln hC a ∧ x_rw hE a = x_rw hC a ∧ x_rl hE a = x_rl hC a ∧ (∀ f, x_fr hE f a = x_fr hC f a) ∧ ∀ f, x_fi hE f a = x_fi hC f a := by
    intro a h1 h2
    refine ⟨(yD1.kd (by omega)).trans (gC1.kd (by omega)), (yD1.ln (by omega)).trans (gC1.ln (by omega)), (yD1.rw (by omega) id).trans (gC1.rw (by omega) id), (yD1.rl (by omega) id).trans (gC1.rl (by omega) id), fun f => (yD1.fr (by omega) (by omega)).trans (gC1.fr (by omega) (by omega)), fun f => (yD1.fi (by omega) (by omega)).trans (gC1.fi (by omega) (by omega))⟩
  have a1 := w.2.2.2.2.1 0 (900, 21, 3000) rfl
  have a2 := w.2.2.2.2.1 1 (902, 21, 3000) rfl
  have b1 := wB.2.2.2.2.1 0 (800, 20, 1500) rfl
  have c1 := wC.2.2.2.2.1 0 (301, 23, 16) rfl
  have c2 := wC.2.2.2.2.1 1 (302, 23, 16) rfl
  have c3 := wC.2.2.2.2.1 2 (303, 22, 16) rfl
  have c4 := wC.2.2.2.2.1 3 (304, 20, 8) rfl
  have e0 := toE ca (by omega)
  have e1 := toE (ca + 1) (by omega)
  have e2 := toE (ca + 2) (by omega)
  have g3 := toW (ca + 3) (by omega) (by omega)
  have g4 := toW (ca + 4) (by omega) (by omega)
  have q5 := toF (ca + 5) (by omega) (by omega)
  have q6 := toF (ca + 6) (by omega) (by omega)
  have q7 := toF (ca + 7) (by omega) (by omega)
  have q8 := toF (ca + 8) (by omega) (by omega)
  have q9 := toF (ca + 9) (by omega) (by omega)
  have kC : ∀ a, x_kd hC a = x_kd hC0 a := fun a => by rw [fC.2.2.1]
  have lC : ∀ a, x_ln hC a = x_ln hC0 a := fun a => by rw [fC.2.2.2.2.1]
  have frC : ∀ f a, x_fr hC f a = x_fr hC0 f a := fun f a => by rw [fC.2.2.2.1]
  have f905 : x_fr hE 905 ca = some (ca + 5) := (yD1.fr (by omega) (by omega)).trans fC1
  have f904 : x_fr hE 904 ca = some (ca + 3) := (yD1.fr (by omega) (by omega)).trans ((yC1.fr (by omega) (by omega)).trans fB1)
  refine ⟨⟨e0.1.trans w.2.2.1, ⟨(e0.2.2.2.2 900 (by omega)).2.1.trans a1.1, e1.1.trans a1.2.1, e1.2.1.trans a1.2.2.1⟩, ⟨(e0.2.2.2.2 902 (by omega)).2.1.trans a2.1, e2.1.trans a2.2.1, e2.2.1.trans a2.2.2.1⟩, f904, ⟨g3.1.trans wB.2.2.1, (g3.2.2 800).trans b1.1, g4.1.trans b1.2.1, g4.2.1.trans b1.2.2.1⟩, f905, ⟨(q5.1.trans (kC _)).trans wC.2.2.1, ⟨((q5.2.2.2.2.1 301).trans (frC _ _)).trans c1.1, (q6.1.trans (kC _)).trans c1.2.1, (q6.2.1.trans (lC _)).trans c1.2.2.1⟩, ⟨((q5.2.2.2.2.1 302).trans (frC _ _)).trans c2.1, (q7.1.trans (kC _)).trans c2.2.1, (q7.2.1.trans (lC _)).trans c2.2.2.1⟩, ⟨((q5.2.2.2.2.1 303).trans (frC _ _)).trans c3.1, (q8.1.trans (kC _)).trans c3.2.1, (q8.2.1.trans (lC _)).trans c3.2.2.1⟩, ⟨((q5.2.2.2.2.1 304).trans (frC _ _)).trans c4.1, (q9.1.trans (kC _)).trans c4.2.1, (q9.2.1.trans (lC _)).trans c4.2.2.1⟩⟩⟩, zD1, ?_, (e0.2.2.2.2 901 (by omega)).1.trans (w.2.2.2.1 901), (e0.2.2.2.2 903 (by omega)).1.trans (w.2.2.2.1 903), fD1, fun C => ?_, (dfi 106).trans (bD.2.2.2.2.2.2.2.2.1 106), fun i => by rw [e1.2.2.1]; exact a1.2.2.2.1 i, fun i => by rw [e2.2.2.1]; exact a2.2.2.2.1 i, fun i => by rw [q6.2.2.2.1, fC.2.2.2.2.2.1]; exact c1.2.2.2.2 i, fun i => by rw [q7.2.2.2.1, fC.2.2.2.2.2.1]; exact c2.2.2.2.2 i, fun i => by rw [q8.2.2.1, fC.rw (by omega)]; exact c3.2.2.2.1 i, fun t ht => by rw [q9.2.2.1]; exact rC t ht, (q5.2.2.2.2.2 300).trans ((fC.fi (fun z => z)).trans (wC.2.2.2.1 300)), fun a ha => ?_⟩
  · rw [uD1, uC1, fC.2.1, wC.2.1, x_us_nO, uB1, wB.2.1, x_us_nO, w.2.1]
    rfl
  · refine ⟨⟨by omega, dkd⟩, ?_, ?_, (dfi 102).trans (bD.2.2.2.2.2.2.2.2.1 102), ?_, ?_, (dfi 105).trans (bD.2.2.2.2.2.2.2.2.1 105), ⟨rfl, ⟨List.Pairwise.nil, fun t ht => by cases ht⟩, fun j t hj => by simp at hj, fun j r q hj => by simp at hj⟩, ⟨rfl, ⟨List.Pairwise.nil, fun t ht => by cases ht⟩, fun j t hj => by simp at hj, fun j e d hj => by simp at hj⟩⟩
    · exact (dob 100).trans (bD.2.2.2.2.2.2.2.2.2 100)
    · exact (dob 101).trans (bD.2.2.2.2.2.2.2.2.2 101)
    · exact (dob 103).trans (bD.2.2.2.2.2.2.2.2.2 103)
    · exact (dob 104).trans (bD.2.2.2.2.2.2.2.2.2 104)
  · obtain ⟨p1, p2, p3, p4, p5, p6, p7⟩ := w.2.2.2.2.2 a ha
    have e := toE a (by omega)
    exact ⟨e.1.trans p1, fun i => (e.2.2.2.2 i (by omega)).1.trans (p2 i), fun i => (e.2.2.2.2 i (by omega)).2.1.trans (p3 i), fun i => (e.2.2.2.2 i (by omega)).2.2.trans (p4 i), e.2.1.trans p5, e.2.2.1.trans p6, e.2.2.2.1.trans p7⟩
set_option maxHeartbeats 4000000 in
set_option maxRecDepth 100000 in
theorem l_initX {G : x_G} {ad st vl : Nat → Nat} {kt : Nat × Option Nat} (hG : x_GS G ad st vl kt) {h : x_H} {ca : Nat} (hs0 : x_sz h = ca + 1) (w0 : w_I h h ca 9 [] (fun _ => 0)) (Q : Option x_V → x_H → Prop) (hQ : ∀ hA hB hB1 hC0 hC hC1 hD, (w_I h hA ca 9 [(900, 21, 3000), (902, 21, 3000)] (fun i => if i = 903 then 0 else (fun i => if i = 901 then 0 else (fun _ => 0) i) i)) → (w_I (x_nO hA 8 3) hB (ca + 3) 8 [(800, 20, 1500)] (fun i => if i = 802 then 0 else (fun i => if i = 801 then 0 else (fun _ => 0) i) i)) → (y_F hA hB (fun _ _ => False) (fun _ => False)) → (y_F hB hB1 (fun i a => i = 904 ∧ a = ca) (fun _ => False)) → (x_fr hB1 904 ca = some (ca + 3)) → (x_us hB1 = x_us hB) → (y_F hA hB1 (fun i a => i = 904 ∧ a = ca) (fun _ => False)) → (w_I (x_nO hB1 3 5) hC0 (ca + 5) 3 [(301, 23, 16), (302, 23, 16), (303, 22, 16), (304, 20, 8)] (fun i => if i = 300 then 1 else (fun _ => 0) i)) → (x_F hC0 hC (fun _ _ => False) (fun a => a = ca + 5 + 4)) → (∀ t, t < 8 → x_rw hC (ca + 5 + 4) t = -1) → (y_F hB1 hC (fun _ _ => False) (fun _ => False)) → (y_F hC hC1 (fun i a => i = 905 ∧ a = ca) (fun _ => False)) → (x_fr hC1 905 ca = some (ca + 5)) → (x_us hC1 = x_us hC) → (y_F hB1 hC1 (fun i a => i = 905 ∧ a = ca) (fun _ => False)) → (n_bk (x_nO hC1 1 7) hD (ca + 10)) → (y_F hC1 hD (fun _ _ => False) (fun _ => False)) → x_sz hB1 = ca + 5 → x_sz hC1 = ca + 10 → Q none (x_sR hD 906 ca (some (ca + 10)))) : x_Ex G mX9_init h [x_r (some ca)] Q := by
  refine x_enter mwX9_init (Nat.le_of_ble_eq_true rfl) ?_
  show x_E _ _ _ _ _ [(0, x_r (some ca))] _ _
  refine x_aload_n (i := 0) (o := some ca) dX9_init_0 rfl rfl ?_
  refine x_objInit dX9_init_1 sX9_init_1 (Nat.le_of_ble_eq_true rfl) ?_
  refine x_aload_n (i := 0) (o := some ca) dX9_init_4 rfl rfl ?_
  refine x_sipush (v := 3000) dX9_init_5 (by decide) ?_
  refine x_newa_b (N := 3000) dX9_init_8 aX9_init_byte (by decide) (by decide) (by decide) (by first | exact (w_le hs0 w0) | exact ⟨Nat.le_trans hle5.1 yD0.1, Nat.le_trans hle5.2 yD0.2.1⟩) ?_
  refine x_putR (i := 900) dX9_init_10 pX9_init_9 rfl rfl (by first | exact kD | exact kC | exact kB | exact w0.2.2.1 | (rw [x_kd_nA, if_neg (by have := w0.1; omega)]; exact w0.2.2.1)) (Or.inr ⟨_, rfl⟩) ?_
  have w1 := w0.A 900 21 3000 (by decide)
  generalize x_sR (x_nA h 21 3000) 900 ca (some (x_sz h)) = h1 at w1 ⊢
  refine x_aload_n (i := 0) (o := some ca) dX9_init_13 rfl rfl ?_
  refine x_iconst (v := 0) dX9_init_14 (by decide) ?_
  refine x_putI (i := 901) dX9_init_15 pX9_init_13 rfl rfl (by first | exact kD | exact kC | exact kB | exact w1.2.2.1 | (rw [x_kd_nA, if_neg (by have := w1.1; omega)]; exact w1.2.2.1)) (rfl) (by rfl) ?_
  have w2 := w1.I 901 0
  generalize x_sI h1 901 ca 0 = h2 at w2 ⊢
  refine x_aload_n (i := 0) (o := some ca) dX9_init_18 rfl rfl ?_
  refine x_sipush (v := 3000) dX9_init_19 (by decide) ?_
  refine x_newa_b (N := 3000) dX9_init_22 aX9_init_byte (by decide) (by decide) (by decide) (by first | exact (w_le hs0 w2) | exact ⟨Nat.le_trans hle5.1 yD0.1, Nat.le_trans hle5.2 yD0.2.1⟩) ?_
  refine x_putR (i := 902) dX9_init_24 pX9_init_17 rfl rfl (by first | exact kD | exact kC | exact kB | exact w2.2.2.1 | (rw [x_kd_nA, if_neg (by have := w2.1; omega)]; exact w2.2.2.1)) (Or.inr ⟨_, rfl⟩) ?_
  have w3 := w2.A 902 21 3000 (by decide)
  generalize x_sR (x_nA h2 21 3000) 902 ca (some (x_sz h2)) = h3 at w3 ⊢
  refine x_aload_n (i := 0) (o := some ca) dX9_init_27 rfl rfl ?_
  refine x_iconst (v := 0) dX9_init_28 (by decide) ?_
  refine x_putI (i := 903) dX9_init_29 pX9_init_20 rfl rfl (by first | exact kD | exact kC | exact kB | exact w3.2.2.1 | (rw [x_kd_nA, if_neg (by have := w3.1; omega)]; exact w3.2.2.1)) (rfl) (by rfl) ?_
  have w4 := w3.I 903 0
  generalize x_sI h3 903 ca 0 = h4 at w4 ⊢
  refine x_aload_n (i := 0) (o := some ca) dX9_init_32 rfl rfl ?_
  have hszA : x_sz h4 = ca + 3 := w4.1
  have hle1 : x_sz h ≤ x_sz h4 ∧ x_us h ≤ x_us h4 := w_le hs0 w4
  have hle2 : x_sz h ≤ x_sz (x_nO h4 8 3) ∧ x_us h ≤ x_us (x_nO h4 8 3) := ⟨Nat.le_trans hle1.1 (Nat.le_succ _), Nat.le_trans hle1.2 (Nat.le_add_right _ _)⟩
  refine x_new dX9_init_33 nX9_init_23 hle1 ?_
  rw [hszA]
  show x_E _ _ _ _ 36 _ [x_r (some (ca + 3)), x_r (some ca)] _
  refine x_dup dX9_init_36 rfl ?_
  obtain ⟨_, hB, ⟨rfl, wB⟩, hcB⟩ := c_n_wd G (h := x_nO h4 8 3) (w := ca + 3) (by rw [x_sz_nO, hszA]) (by rw [← hszA]; exact w_I.N)
  refine x_callIN (host := "HazardRules") (a := ca + 3) (av := []) (rest := [x_r (some (ca + 3)), x_r (some ca)]) (r := none) (h1 := hB) dX9_init_37 sX9_init_25 (fun U hU => (hG U hU).2.2.2.2.2 _ (by simp [x_nl])) rfl rfl (Nat.le_of_ble_eq_true rfl) hle2 (hcB) ?_
  show x_E _ _ _ _ 40 _ [x_r (some (ca + 3)), x_r (some ca)] _
  have yB0 : y_F h4 hB (fun _ _ => False) (fun _ => False) := by rw [← hszA] at wB; exact wB.Y
  have kB : x_kd hB ca = 9 := (yB0.kd (by omega)).trans w4.2.2.1
  have zB : x_sz hB = ca + 5 := wB.1
  refine x_putR (i := 904) dX9_init_40 pX9_init_26 rfl rfl (by first | exact kD | exact kC | exact kB | exact w4.2.2.1 | (rw [x_kd_nA, if_neg (by have := w4.1; omega)]; exact w4.2.2.1)) (Or.inl ⟨_, rfl⟩) ?_
  have yB1 : y_F h4 (x_sR hB 904 ca (some (ca + 3))) (fun i a => i = 904 ∧ a = ca) (fun _ => False) := (yB0.mono (fun _ _ z => z.elim) (fun _ z => z)).Rf (fun _ => ⟨rfl, rfl⟩)
  have fB1 : x_fr (x_sR hB 904 ca (some (ca + 3))) 904 ca = some (ca + 3) := by rw [x_fr_sR, if_pos ⟨rfl, rfl⟩]
  have zB1 : x_sz (x_sR hB 904 ca (some (ca + 3))) = ca + 5 := zB
  have gB1 : y_F hB (x_sR hB 904 ca (some (ca + 3))) (fun i a => i = 904 ∧ a = ca) (fun _ => False) := y_F.rf.Rf (fun _ => ⟨rfl, rfl⟩)
  have uB1 : x_us (x_sR hB 904 ca (some (ca + 3))) = x_us hB := rfl
  generalize x_sR hB 904 ca (some (ca + 3)) = hB1 at yB1 fB1 zB1 gB1 uB1 ⊢
  refine x_aload_n (i := 0) (o := some ca) dX9_init_43 rfl rfl ?_
  have hle3 : x_sz h ≤ x_sz hB1 ∧ x_us h ≤ x_us hB1 := ⟨Nat.le_trans hle1.1 yB1.1, Nat.le_trans hle1.2 yB1.2.1⟩
  have hle4 : x_sz h ≤ x_sz (x_nO hB1 3 5) ∧ x_us h ≤ x_us (x_nO hB1 3 5) := ⟨Nat.le_trans hle3.1 (Nat.le_succ _), Nat.le_trans hle3.2 (Nat.le_add_right _ _)⟩
  refine x_new dX9_init_44 nX9_init_30 hle3 ?_
  rw [zB1]
  show x_E _ _ _ _ 47 _ [x_r (some (ca + 5)), x_r (some ca)] _
  refine x_dup dX9_init_47 rfl ?_
  obtain ⟨_, hC, ⟨rfl, hC0, wC, fC, rC⟩, hcC⟩ := c_n_fa G (h := x_nO hB1 3 5) (fa := ca + 5) (by rw [x_sz_nO, zB1]) (by rw [← zB1]; exact w_I.N)
  refine x_callI (a := ca + 5) (av := []) (rest := [x_r (some (ca + 5)), x_r (some ca)]) (r := none) (h1 := hC) dX9_init_48 sX9_init_32 rfl rfl (Nat.le_of_ble_eq_true rfl) hle4 (hcC) ?_
  show x_E _ _ _ _ 51 _ [x_r (some (ca + 5)), x_r (some ca)] _
  have yC00 : y_F hB1 hC0 (fun _ _ => False) (fun _ => False) := by rw [← zB1] at wC; exact wC.Y
  have yC0 : y_F hB1 hC (fun _ _ => False) (fun _ => False) := yC00.tr (y_F.X fC (P := fun _ _ => False) (R := fun a => a = ca + 5 + 4) (fun _ _ z => z) (fun _ z => z)) (fun _ _ z => z) (fun _ _ _ z => z) (fun _ z => z) (fun q hq z => by omega)
  have kC : x_kd hC ca = 9 := (yC0.kd (by omega)).trans ((yB1.kd (by omega)).trans w4.2.2.1)
  have zC : x_sz hC = ca + 10 := fC.1.trans wC.1
  refine x_putR (i := 905) dX9_init_51 pX9_init_33 rfl rfl (by first | exact kD | exact kC | exact kB | exact w4.2.2.1 | (rw [x_kd_nA, if_neg (by have := w4.1; omega)]; exact w4.2.2.1)) (Or.inl ⟨_, rfl⟩) ?_
  have yC1 : y_F hB1 (x_sR hC 905 ca (some (ca + 5))) (fun i a => i = 905 ∧ a = ca) (fun _ => False) := (yC0.mono (fun _ _ z => z.elim) (fun _ z => z)).Rf (fun _ => ⟨rfl, rfl⟩)
  have fC1 : x_fr (x_sR hC 905 ca (some (ca + 5))) 905 ca = some (ca + 5) := by rw [x_fr_sR, if_pos ⟨rfl, rfl⟩]
  have zC1 : x_sz (x_sR hC 905 ca (some (ca + 5))) = ca + 10 := zC
  have gC1 : y_F hC (x_sR hC 905 ca (some (ca + 5))) (fun i a => i = 905 ∧ a = ca) (fun _ => False) := y_F.rf.Rf (fun _ => ⟨rfl, rfl⟩)
  have uC1 : x_us (x_sR hC 905 ca (some (ca + 5))) = x_us hC := rfl
  generalize x_sR hC 905 ca (some (ca + 5)) = hC1 at yC1 fC1 zC1 gC1 uC1 ⊢
  refine x_aload_n (i := 0) (o := some ca) dX9_init_54 rfl rfl ?_
  have hle5 : x_sz h ≤ x_sz hC1 ∧ x_us h ≤ x_us hC1 := ⟨Nat.le_trans hle3.1 yC1.1, Nat.le_trans hle3.2 yC1.2.1⟩
  have hle6 : x_sz h ≤ x_sz (x_nO hC1 1 7) ∧ x_us h ≤ x_us (x_nO hC1 1 7) := ⟨Nat.le_trans hle5.1 (Nat.le_succ _), Nat.le_trans hle5.2 (Nat.le_add_right _ _)⟩
  refine x_new dX9_init_55 nX9_init_37 hle5 ?_
  rw [zC1]
  show x_E _ _ _ _ 58 _ [x_r (some (ca + 10)), x_r (some ca)] _
  refine x_dup dX9_init_58 rfl ?_
  obtain ⟨_, hD, ⟨rfl, bD⟩, hcD⟩ := c_n_bk G (h := x_nO hC1 1 7) (t := ca + 10) (by rw [x_kd_nO, if_pos zC1.symm])
  refine x_callIN (host := "HazardRules") (a := ca + 10) (av := []) (rest := [x_r (some (ca + 10)), x_r (some ca)]) (r := none) (h1 := hD) dX9_init_59 sX9_init_39 (fun U hU => (hG U hU).2.2.2.2.2 _ (by simp [x_nl])) rfl rfl (Nat.le_of_ble_eq_true rfl) hle6 (hcD) ?_
  show x_E _ _ _ _ 62 _ [x_r (some (ca + 10)), x_r (some ca)] _
  have yD0 : y_F hC1 hD (fun _ _ => False) (fun _ => False) := (y_F.rf.O 1 7).ob bD (by omega)
  have kD : x_kd hD ca = 9 := (yD0.kd (by omega)).trans ((yC1.kd (by omega)).trans ((yB1.kd (by omega)).trans w4.2.2.1))
  refine x_putR (i := 906) dX9_init_62 pX9_init_40 rfl rfl (by first | exact kD | exact kC | exact kB | exact w4.2.2.1 | (rw [x_kd_nA, if_neg (by have := w4.1; omega)]; exact w4.2.2.1)) (Or.inl ⟨_, rfl⟩) ?_
  refine x_return dX9_init_65 rfl (by first | exact (w_le hs0 w4) | exact ⟨Nat.le_trans hle5.1 yD0.1, Nat.le_trans hle5.2 yD0.2.1⟩) ?_
  exact hQ _ _ _ _ _ _ _ w4 wB yB0 gB1 fB1 uB1 yB1 wC fC rC yC0 gC1 fC1 uC1 yC1 bD yD0 zB1 zC1
theorem c_initX {G : x_G} {ad st vl : Nat → Nat} {kt : Nat × Option Nat} (hG : x_GS G ad st vl kt) {h : x_H} {ca : Nat} (hs0 : x_sz h = ca + 1) (hk : x_kd h ca = 9) (hf : ∀ i, x_fi h i ca = 0) : x_Ex G mX9_init h [x_r (some ca)] (fun r h2 => r = none ∧ k_New h h2 ca) :=
  l_initX hG hs0 (w_I.st hs0 hk hf) _ (fun hA hB hB1 hC0 hC hC1 hD w wB yB0 gB1 fB1 uB1 yB1 wC fC rC yC0 gC1 fC1 uC1 yC1 bD yD0 zB1 zC1 => ⟨rfl, k_New_of w wB yB0 gB1 fB1 uB1 yB1 wC fC rC yC0 gC1 fC1 uC1 yC1 bD yD0 zB1 zC1⟩)
