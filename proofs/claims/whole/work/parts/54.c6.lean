/-! THE CLASS: constructors of its small objects; adding to rows -/
theorem x_sI_id {h : x_H} {i a : Nat} {v : Int32} (e : x_fi h i a = v) : x_sI h i a v = h := by
  have : x_u2 (x_fi h) i a v = x_fi h := by
    funext j b
    unfold x_u2
    split
    · rename_i z
      rw [z.1, z.2, e]
    · rfl
  show (x_sz h, x_us h, x_kd h, x_u2 (x_fi h) i a v, x_fr h, x_fl h, x_ln h, x_rw h, x_rl h) = h
  rw [this]
  rfl
/-- an object t has the fields f, g now; nothing else has changed -/
def y_ob (h h' : x_H) (t : Nat) (f : Nat → Int32) (g : Nat → Option Nat) : Prop := x_sz h' = x_sz h ∧ x_us h' = x_us h ∧ x_kd h' = x_kd h ∧ x_ln h' = x_ln h ∧ x_rw h' = x_rw h ∧ x_rl h' = x_rl h ∧ x_fl h' = x_fl h ∧ (∀ i a, ¬ a = t → x_fi h' i a = x_fi h i a ∧ x_fr h' i a = x_fr h i a) ∧ (∀ i, x_fi h' i t = f i) ∧ ∀ i, x_fr h' i t = g i
theorem y_ob.rf {h : x_H} {t : Nat} : y_ob h h t (fun i => x_fi h i t) (fun i => x_fr h i t) := ⟨rfl, rfl, rfl, rfl, rfl, rfl, rfl, fun _ _ _ => ⟨rfl, rfl⟩, fun _ => rfl, fun _ => rfl⟩
theorem y_ob.I {h h1 : x_H} {t : Nat} {f : Nat → Int32} {g : Nat → Option Nat} (k : y_ob h h1 t f g) (i : Nat) (v : Int32) : y_ob h (x_sI h1 i t v) t (fun j => if j = i then v else f j) g := by
  obtain ⟨k1, k2, k3, k4, k5, k6, k7, k8, k9, k10⟩ := k
  refine ⟨k1, k2, k3, k4, k5, k6, k7, fun j a ha => ?_, fun j => ?_, k10⟩
  · rw [x_fi_sI, if_neg (fun z => ha z.2)]
    exact k8 j a ha
  · show x_fi (x_sI h1 i t v) j t = if j = i then v else f j
    rw [x_fi_sI]
    by_cases e : j = i
    · rw [if_pos ⟨e, rfl⟩, if_pos e]
    · rw [if_neg (fun z => e z.1), if_neg e]
      exact k9 j
theorem y_ob.Rf {h h1 : x_H} {t : Nat} {f : Nat → Int32} {g : Nat → Option Nat} (k : y_ob h h1 t f g) (i : Nat) (v : Option Nat) : y_ob h (x_sR h1 i t v) t f (fun j => if j = i then v else g j) := by
  obtain ⟨k1, k2, k3, k4, k5, k6, k7, k8, k9, k10⟩ := k
  refine ⟨k1, k2, k3, k4, k5, k6, k7, fun j a ha => ?_, k9, fun j => ?_⟩
  · rw [x_fr_sR, if_neg (fun z => ha z.2)]
    exact k8 j a ha
  · show x_fr (x_sR h1 i t v) j t = if j = i then v else g j
    rw [x_fr_sR]
    by_cases e : j = i
    · rw [if_pos ⟨e, rfl⟩, if_pos e]
    · rw [if_neg (fun z => e z.1), if_neg e]
      exact k10 j
theorem y_ob.le {h h1 : x_H} {t : Nat} {f : Nat → Int32} {g : Nat → Option Nat} (k : y_ob h h1 t f g) : x_sz h ≤ x_sz h1 ∧ x_us h ≤ x_us h1 := ⟨Nat.le_of_eq k.1.symm, Nat.le_of_eq k.2.1.symm⟩
theorem y_F.ob {h h1 h2 : x_H} {P : Nat → Nat → Prop} {R : Nat → Prop} {t : Nat} {f : Nat → Int32} {g : Nat → Option Nat} (hF : y_F h h1 P R) (k : y_ob h1 h2 t f g) (ht : x_sz h ≤ t) : y_F h h2 P R := by
  obtain ⟨k1, k2, k3, k4, k5, k6, k7, k8, k9, k10⟩ := k
  obtain ⟨a1, a2, a3, a4, a5⟩ := hF
  refine ⟨by omega, by omega, fun q hq => by rw [k3, k4]; exact a3 q hq, fun i q hq z => ?_, fun q hq z => by rw [k5, k6]; exact a5 q hq z⟩
  obtain ⟨m1, m2⟩ := k8 i q (by omega)
  rw [m1, m2, k7]
  exact a4 i q hq z
def n_tm (h h2 : x_H) (t : Nat) (mi : Int32) (we : Int32) (pa : Int32) : Prop := y_ob h h2 t (fun j => if j = 702 then pa else (fun j => if j = 701 then we else (fun j => if j = 700 then mi else (fun j => if j = 704 then 1 else (fun j => if j = 703 then 0 else (fun i => x_fi h i t) j) j) j) j) j) (fun j => if j = 705 then none else (fun i => x_fr h i t) j)
set_option maxHeartbeats 4000000 in
set_option maxRecDepth 100000 in
theorem c_n_tm (G : x_G) {h : x_H} {t : Nat} (hk : x_kd h t = 7) (mi : Int32) (we : Int32) (pa : Int32) (hb : mi = 0 ∨ mi = 1) : x_Ex G mX7_init h [x_r (some t), x_i mi, x_i we, x_i pa] (fun r h2 => r = none ∧ n_tm h h2 t mi we pa) := by
  have w0 := y_ob.rf (h := h) (t := t)
  refine x_enter mwX7_init (Nat.le_of_ble_eq_true rfl) ?_
  show x_E _ _ _ _ _ [(0, x_r (some t)), (1, x_i mi), (2, x_i we), (3, x_i pa)] _ _
  refine x_aload_n (i := 0) (o := some t) dX7_init_0 rfl rfl ?_
  refine x_objInit dX7_init_1 sX7_init_1 (Nat.le_of_ble_eq_true rfl) ?_
  refine x_aload_n (i := 0) (o := some t) dX7_init_4 rfl rfl ?_
  refine x_iconst (v := 0) dX7_init_5 (by decide) ?_
  refine x_putI (i := 703) dX7_init_6 pX7_init_7 rfl rfl (by rw [w0.2.2.1]; exact hk) (rfl) (by rfl) ?_
  have w1 := w0.I 703 0
  generalize x_sI h 703 t 0 = h1 at w1 ⊢
  refine x_aload_n (i := 0) (o := some t) dX7_init_9 rfl rfl ?_
  refine x_iconst (v := 1) dX7_init_10 (by decide) ?_
  refine x_putI (i := 704) dX7_init_11 pX7_init_13 rfl rfl (by rw [w1.2.2.1]; exact hk) (rfl) (by rfl) ?_
  have w2 := w1.I 704 1
  generalize x_sI h1 704 t 1 = h2 at w2 ⊢
  refine x_aload_n (i := 0) (o := some t) dX7_init_14 rfl rfl ?_
  refine x_null dX7_init_15 ?_
  refine x_putR (i := 705) dX7_init_16 pX7_init_16 rfl rfl (by rw [w2.2.2.1]; exact hk) (Or.inl ⟨_, rfl⟩) ?_
  have w3 := w2.Rf 705 none
  generalize x_sR h2 705 t none = h3 at w3 ⊢
  refine x_aload_n (i := 0) (o := some t) dX7_init_19 rfl rfl ?_
  refine x_iload_n (i := 1) (x := mi) dX7_init_20 rfl rfl ?_
  refine x_putI (i := 700) dX7_init_21 pX7_init_20 rfl rfl (by rw [w3.2.2.1]; exact hk) (by rcases hb with rfl | rfl <;> rfl) (by rcases hb with rfl | rfl <;> rfl) ?_
  have w4 := w3.I 700 mi
  generalize x_sI h3 700 t mi = h4 at w4 ⊢
  refine x_aload_n (i := 0) (o := some t) dX7_init_24 rfl rfl ?_
  refine x_iload_n (i := 2) (x := we) dX7_init_25 rfl rfl ?_
  refine x_putI (i := 701) dX7_init_26 pX7_init_24 rfl rfl (by rw [w4.2.2.1]; exact hk) (rfl) (by rfl) ?_
  have w5 := w4.I 701 we
  generalize x_sI h4 701 t we = h5 at w5 ⊢
  refine x_aload_n (i := 0) (o := some t) dX7_init_29 rfl rfl ?_
  refine x_iload_n (i := 3) (x := pa) dX7_init_30 rfl rfl ?_
  refine x_putI (i := 702) dX7_init_31 pX7_init_27 rfl rfl (by rw [w5.2.2.1]; exact hk) (rfl) (by rfl) ?_
  have w6 := w5.I 702 pa
  generalize x_sI h5 702 t pa = h6 at w6 ⊢
  refine x_return dX7_init_34 rfl w6.le ?_
  exact ⟨rfl, w6⟩
def n_it (h h2 : x_H) (t : Nat) (ki : Int32) (su : Int32) : Prop := y_ob h h2 t (fun j => if j = 401 then su else (fun j => if j = 400 then ki else (fun j => if j = 403 then (-1) else (fun j => if j = 402 then 0 else (fun i => x_fi h i t) j) j) j) j) (fun j => if j = 406 then none else (fun j => if j = 405 then none else (fun j => if j = 404 then none else (fun i => x_fr h i t) j) j) j)
set_option maxHeartbeats 4000000 in
set_option maxRecDepth 100000 in
theorem c_n_it (G : x_G) {h : x_H} {t : Nat} (hk : x_kd h t = 4) (ki : Int32) (su : Int32) : x_Ex G mX3_init h [x_r (some t), x_i ki, x_i su] (fun r h2 => r = none ∧ n_it h h2 t ki su) := by
  have w0 := y_ob.rf (h := h) (t := t)
  refine x_enter mwX3_init (Nat.le_of_ble_eq_true rfl) ?_
  show x_E _ _ _ _ _ [(0, x_r (some t)), (1, x_i ki), (2, x_i su)] _ _
  refine x_aload_n (i := 0) (o := some t) dX3_init_0 rfl rfl ?_
  refine x_objInit dX3_init_1 sX3_init_3 (Nat.le_of_ble_eq_true rfl) ?_
  refine x_aload_n (i := 0) (o := some t) dX3_init_4 rfl rfl ?_
  refine x_iconst (v := 0) dX3_init_5 (by decide) ?_
  refine x_putI (i := 402) dX3_init_6 pX3_init_9 rfl rfl (by rw [w0.2.2.1]; exact hk) (rfl) (by rfl) ?_
  have w1 := w0.I 402 0
  generalize x_sI h 402 t 0 = h1 at w1 ⊢
  refine x_aload_n (i := 0) (o := some t) dX3_init_9 rfl rfl ?_
  refine x_iconst (v := (-1)) dX3_init_10 (by decide) ?_
  refine x_putI (i := 403) dX3_init_11 pX3_init_15 rfl rfl (by rw [w1.2.2.1]; exact hk) (rfl) (by rfl) ?_
  have w2 := w1.I 403 ((-1))
  generalize x_sI h1 403 t ((-1)) = h2 at w2 ⊢
  refine x_aload_n (i := 0) (o := some t) dX3_init_14 rfl rfl ?_
  refine x_null dX3_init_15 ?_
  refine x_putR (i := 404) dX3_init_16 pX3_init_19 rfl rfl (by rw [w2.2.2.1]; exact hk) (Or.inl ⟨_, rfl⟩) ?_
  have w3 := w2.Rf 404 none
  generalize x_sR h2 404 t none = h3 at w3 ⊢
  refine x_aload_n (i := 0) (o := some t) dX3_init_19 rfl rfl ?_
  refine x_null dX3_init_20 ?_
  refine x_putR (i := 405) dX3_init_21 pX3_init_23 rfl rfl (by rw [w3.2.2.1]; exact hk) (Or.inl ⟨_, rfl⟩) ?_
  have w4 := w3.Rf 405 none
  generalize x_sR h3 405 t none = h4 at w4 ⊢
  refine x_aload_n (i := 0) (o := some t) dX3_init_24 rfl rfl ?_
  refine x_null dX3_init_25 ?_
  refine x_putR (i := 406) dX3_init_26 pX3_init_27 rfl rfl (by rw [w4.2.2.1]; exact hk) (Or.inl ⟨_, rfl⟩) ?_
  have w5 := w4.Rf 406 none
  generalize x_sR h4 406 t none = h5 at w5 ⊢
  refine x_aload_n (i := 0) (o := some t) dX3_init_29 rfl rfl ?_
  refine x_iload_n (i := 1) (x := ki) dX3_init_30 rfl rfl ?_
  refine x_putI (i := 400) dX3_init_31 pX3_init_30 rfl rfl (by rw [w5.2.2.1]; exact hk) (rfl) (by rfl) ?_
  have w6 := w5.I 400 ki
  generalize x_sI h5 400 t ki = h6 at w6 ⊢
  refine x_aload_n (i := 0) (o := some t) dX3_init_34 rfl rfl ?_
  refine x_iload_n (i := 2) (x := su) dX3_init_35 rfl rfl ?_
  refine x_putI (i := 401) dX3_init_36 pX3_init_33 rfl rfl (by rw [w6.2.2.1]; exact hk) (rfl) (by rfl) ?_
  have w7 := w6.I 401 su
  generalize x_sI h6 401 t su = h7 at w7 ⊢
  refine x_return dX3_init_39 rfl w7.le ?_
  exact ⟨rfl, w7⟩
def n_ru (h h2 : x_H) (t : Nat) (cl : Int32) (wo : Int32) : Prop := y_ob h h2 t (fun j => if j = 601 then wo else (fun j => if j = 600 then cl else (fun j => if j = 605 then (-5) else (fun j => if j = 604 then 0 else (fun j => if j = 603 then (-1) else (fun j => if j = 602 then (-1) else (fun i => x_fi h i t) j) j) j) j) j) j) (fun j => if j = 608 then none else (fun j => if j = 607 then none else (fun j => if j = 606 then none else (fun i => x_fr h i t) j) j) j)
set_option maxHeartbeats 4000000 in
set_option maxRecDepth 100000 in
theorem c_n_ru (G : x_G) {h : x_H} {t : Nat} (hk : x_kd h t = 6) (cl : Int32) (wo : Int32) : x_Ex G mX6_init h [x_r (some t), x_i cl, x_i wo] (fun r h2 => r = none ∧ n_ru h h2 t cl wo) := by
  have w0 := y_ob.rf (h := h) (t := t)
  refine x_enter mwX6_init (Nat.le_of_ble_eq_true rfl) ?_
  show x_E _ _ _ _ _ [(0, x_r (some t)), (1, x_i cl), (2, x_i wo)] _ _
  refine x_aload_n (i := 0) (o := some t) dX6_init_0 rfl rfl ?_
  refine x_objInit dX6_init_1 sX6_init_3 (Nat.le_of_ble_eq_true rfl) ?_
  refine x_aload_n (i := 0) (o := some t) dX6_init_4 rfl rfl ?_
  refine x_iconst (v := (-1)) dX6_init_5 (by decide) ?_
  refine x_putI (i := 602) dX6_init_6 pX6_init_9 rfl rfl (by rw [w0.2.2.1]; exact hk) (rfl) (by rfl) ?_
  have w1 := w0.I 602 ((-1))
  generalize x_sI h 602 t ((-1)) = h1 at w1 ⊢
  refine x_aload_n (i := 0) (o := some t) dX6_init_9 rfl rfl ?_
  refine x_iconst (v := (-1)) dX6_init_10 (by decide) ?_
  refine x_putI (i := 603) dX6_init_11 pX6_init_15 rfl rfl (by rw [w1.2.2.1]; exact hk) (rfl) (by rfl) ?_
  have w2 := w1.I 603 ((-1))
  generalize x_sI h1 603 t ((-1)) = h2 at w2 ⊢
  refine x_aload_n (i := 0) (o := some t) dX6_init_14 rfl rfl ?_
  refine x_iconst (v := 0) dX6_init_15 (by decide) ?_
  refine x_putI (i := 604) dX6_init_16 pX6_init_18 rfl rfl (by rw [w2.2.2.1]; exact hk) (rfl) (by rfl) ?_
  have w3 := w2.I 604 0
  generalize x_sI h2 604 t 0 = h3 at w3 ⊢
  refine x_aload_n (i := 0) (o := some t) dX6_init_19 rfl rfl ?_
  refine x_bipush (v := (-5)) dX6_init_20 (by decide) ?_
  refine x_putI (i := 605) dX6_init_22 pX6_init_21 rfl rfl (by rw [w3.2.2.1]; exact hk) (rfl) (by rfl) ?_
  have w4 := w3.I 605 ((-5))
  generalize x_sI h3 605 t ((-5)) = h4 at w4 ⊢
  refine x_aload_n (i := 0) (o := some t) dX6_init_25 rfl rfl ?_
  refine x_null dX6_init_26 ?_
  refine x_putR (i := 606) dX6_init_27 pX6_init_24 rfl rfl (by rw [w4.2.2.1]; exact hk) (Or.inl ⟨_, rfl⟩) ?_
  have w5 := w4.Rf 606 none
  generalize x_sR h4 606 t none = h5 at w5 ⊢
  refine x_aload_n (i := 0) (o := some t) dX6_init_30 rfl rfl ?_
  refine x_null dX6_init_31 ?_
  refine x_putR (i := 607) dX6_init_32 pX6_init_28 rfl rfl (by rw [w5.2.2.1]; exact hk) (Or.inl ⟨_, rfl⟩) ?_
  have w6 := w5.Rf 607 none
  generalize x_sR h5 607 t none = h6 at w6 ⊢
  refine x_aload_n (i := 0) (o := some t) dX6_init_35 rfl rfl ?_
  refine x_null dX6_init_36 ?_
  refine x_putR (i := 608) dX6_init_37 pX6_init_32 rfl rfl (by rw [w6.2.2.1]; exact hk) (Or.inl ⟨_, rfl⟩) ?_
  have w7 := w6.Rf 608 none
  generalize x_sR h6 608 t none = h7 at w7 ⊢
  refine x_aload_n (i := 0) (o := some t) dX6_init_40 rfl rfl ?_
  refine x_iload_n (i := 1) (x := cl) dX6_init_41 rfl rfl ?_
  refine x_putI (i := 600) dX6_init_42 pX6_init_35 rfl rfl (by rw [w7.2.2.1]; exact hk) (rfl) (by rfl) ?_
  have w8 := w7.I 600 cl
  generalize x_sI h7 600 t cl = h8 at w8 ⊢
  refine x_aload_n (i := 0) (o := some t) dX6_init_45 rfl rfl ?_
  refine x_iload_n (i := 2) (x := wo) dX6_init_46 rfl rfl ?_
  refine x_putI (i := 601) dX6_init_47 pX6_init_38 rfl rfl (by rw [w8.2.2.1]; exact hk) (rfl) (by rfl) ?_
  have w9 := w8.I 601 wo
  generalize x_sI h8 601 t wo = h9 at w9 ⊢
  refine x_return dX6_init_50 rfl w9.le ?_
  exact ⟨rfl, w9⟩
def n_ed (h h2 : x_H) (t : Nat) (da : Int32) : Prop := y_ob h h2 t (fun j => if j = 200 then da else (fun i => x_fi h i t) j) (fun j => if j = 201 then none else (fun i => x_fr h i t) j)
set_option maxHeartbeats 4000000 in
set_option maxRecDepth 100000 in
theorem c_n_ed (G : x_G) {h : x_H} {t : Nat} (hk : x_kd h t = 2) (da : Int32) : x_Ex G mX1_init h [x_r (some t), x_i da] (fun r h2 => r = none ∧ n_ed h h2 t da) := by
  have w0 := y_ob.rf (h := h) (t := t)
  refine x_enter mwX1_init (Nat.le_of_ble_eq_true rfl) ?_
  show x_E _ _ _ _ _ [(0, x_r (some t)), (1, x_i da)] _ _
  refine x_aload_n (i := 0) (o := some t) dX1_init_0 rfl rfl ?_
  refine x_objInit dX1_init_1 sX1_init_1 (Nat.le_of_ble_eq_true rfl) ?_
  refine x_aload_n (i := 0) (o := some t) dX1_init_4 rfl rfl ?_
  refine x_null dX1_init_5 ?_
  refine x_putR (i := 201) dX1_init_6 pX1_init_7 rfl rfl (by rw [w0.2.2.1]; exact hk) (Or.inl ⟨_, rfl⟩) ?_
  have w1 := w0.Rf 201 none
  generalize x_sR h 201 t none = h1 at w1 ⊢
  refine x_aload_n (i := 0) (o := some t) dX1_init_9 rfl rfl ?_
  refine x_iload_n (i := 1) (x := da) dX1_init_10 rfl rfl ?_
  refine x_putI (i := 200) dX1_init_11 pX1_init_13 rfl rfl (by rw [w1.2.2.1]; exact hk) (rfl) (by rfl) ?_
  have w2 := w1.I 200 da
  generalize x_sI h1 200 t da = h2 at w2 ⊢
  refine x_return dX1_init_14 rfl w2.le ?_
  exact ⟨rfl, w2⟩
def n_bk (h h2 : x_H) (t : Nat) : Prop := y_ob h h2 t (fun j => if j = 106 then (-1) else (fun j => if j = 105 then 0 else (fun j => if j = 102 then 0 else (fun i => x_fi h i t) j) j) j) (fun j => if j = 104 then none else (fun j => if j = 103 then none else (fun j => if j = 101 then none else (fun j => if j = 100 then none else (fun i => x_fr h i t) j) j) j) j)
set_option maxHeartbeats 4000000 in
set_option maxRecDepth 100000 in
theorem c_n_bk (G : x_G) {h : x_H} {t : Nat} (hk : x_kd h t = 1) : x_Ex G mX0_init h [x_r (some t)] (fun r h2 => r = none ∧ n_bk h h2 t ) := by
  have w0 := y_ob.rf (h := h) (t := t)
  refine x_enter mwX0_init (Nat.le_of_ble_eq_true rfl) ?_
  show x_E _ _ _ _ _ [(0, x_r (some t))] _ _
  refine x_aload_n (i := 0) (o := some t) dX0_init_0 rfl rfl ?_
  refine x_objInit dX0_init_1 sX0_init_3 (Nat.le_of_ble_eq_true rfl) ?_
  refine x_aload_n (i := 0) (o := some t) dX0_init_4 rfl rfl ?_
  refine x_null dX0_init_5 ?_
  refine x_putR (i := 100) dX0_init_6 pX0_init_9 rfl rfl (by rw [w0.2.2.1]; exact hk) (Or.inl ⟨_, rfl⟩) ?_
  have w1 := w0.Rf 100 none
  generalize x_sR h 100 t none = h1 at w1 ⊢
  refine x_aload_n (i := 0) (o := some t) dX0_init_9 rfl rfl ?_
  refine x_null dX0_init_10 ?_
  refine x_putR (i := 101) dX0_init_11 pX0_init_15 rfl rfl (by rw [w1.2.2.1]; exact hk) (Or.inl ⟨_, rfl⟩) ?_
  have w2 := w1.Rf 101 none
  generalize x_sR h1 101 t none = h2 at w2 ⊢
  refine x_aload_n (i := 0) (o := some t) dX0_init_14 rfl rfl ?_
  refine x_iconst (v := 0) dX0_init_15 (by decide) ?_
  refine x_putI (i := 102) dX0_init_16 pX0_init_18 rfl rfl (by rw [w2.2.2.1]; exact hk) (rfl) (by rfl) ?_
  have w3 := w2.I 102 0
  generalize x_sI h2 102 t 0 = h3 at w3 ⊢
  refine x_aload_n (i := 0) (o := some t) dX0_init_19 rfl rfl ?_
  refine x_null dX0_init_20 ?_
  refine x_putR (i := 103) dX0_init_21 pX0_init_22 rfl rfl (by rw [w3.2.2.1]; exact hk) (Or.inl ⟨_, rfl⟩) ?_
  have w4 := w3.Rf 103 none
  generalize x_sR h3 103 t none = h4 at w4 ⊢
  refine x_aload_n (i := 0) (o := some t) dX0_init_24 rfl rfl ?_
  refine x_null dX0_init_25 ?_
  refine x_putR (i := 104) dX0_init_26 pX0_init_26 rfl rfl (by rw [w4.2.2.1]; exact hk) (Or.inl ⟨_, rfl⟩) ?_
  have w5 := w4.Rf 104 none
  generalize x_sR h4 104 t none = h5 at w5 ⊢
  refine x_aload_n (i := 0) (o := some t) dX0_init_29 rfl rfl ?_
  refine x_iconst (v := 0) dX0_init_30 (by decide) ?_
  refine x_putI (i := 105) dX0_init_31 pX0_init_29 rfl rfl (by rw [w5.2.2.1]; exact hk) (rfl) (by rfl) ?_
  have w6 := w5.I 105 0
  generalize x_sI h5 105 t 0 = h6 at w6 ⊢
  refine x_aload_n (i := 0) (o := some t) dX0_init_34 rfl rfl ?_
  refine x_iconst (v := (-1)) dX0_init_35 (by decide) ?_
  refine x_putI (i := 106) dX0_init_36 pX0_init_32 rfl rfl (by rw [w6.2.2.1]; exact hk) (rfl) (by rfl) ?_
  have w7 := w6.I 106 ((-1))
  generalize x_sI h6 106 t ((-1)) = h7 at w7 ⊢
  refine x_return dX0_init_39 rfl w7.le ?_
  exact ⟨rfl, w7⟩
set_option maxHeartbeats 4000000 in
set_option maxRecDepth 100000 in
theorem c_addTerm_0 (G : x_G) {h : x_H} {i t : Nat} (hk : x_kd h i = 4) (hl : x_fr h 406 i = none) : x_Call G mX3_addTerm h [x_r (some i), x_r (some t)] none (x_sR (x_sR h 405 i (some t)) 406 i (some t)) := by
  refine x_Ex.call (x_enter mwX3_addTerm (Nat.le_of_ble_eq_true rfl) ?_)
  show x_E _ _ _ _ _ [(0, x_r (some i)), (1, x_r (some t))] _ _
  refine x_aload_n (i := 0) (o := some i) dX3_addTerm_0 rfl rfl ?_
  refine x_getRv (v := none) dX3_addTerm_1 fX3_addTerm_27 (i := 406) rfl rfl hk (hl) ?_
  refine x_ifnonnull (o := none) (tgt := 15) dX3_addTerm_4 (by decide) (fun _ c => absurd c (by simp)) (fun _ => ?_)
  refine x_aload_n (i := 0) (o := some i) dX3_addTerm_7 rfl rfl ?_
  refine x_aload_n (i := 1) (o := some t) dX3_addTerm_8 rfl rfl ?_
  refine x_putR (i := 405) dX3_addTerm_9 pX3_addTerm_23 rfl rfl hk (Or.inl ⟨_, rfl⟩) ?_
  refine x_goto (tgt := 23) dX3_addTerm_12 (by decide) ?_
  refine x_aload_n (i := 0) (o := some i) dX3_addTerm_23 rfl rfl ?_
  refine x_aload_n (i := 1) (o := some t) dX3_addTerm_24 rfl rfl ?_
  refine x_putR (i := 406) dX3_addTerm_25 pX3_addTerm_27 rfl rfl hk (Or.inl ⟨_, rfl⟩) ?_
  refine x_return dX3_addTerm_28 rfl ⟨Nat.le_refl _, Nat.le_refl _⟩ ?_
  exact ⟨rfl, rfl⟩
set_option maxHeartbeats 4000000 in
set_option maxRecDepth 100000 in
theorem c_addTerm_1 (G : x_G) {h : x_H} {i t l : Nat} (hk : x_kd h i = 4) (hl : x_fr h 406 i = some l) (hkl : x_kd h l = 7) : x_Call G mX3_addTerm h [x_r (some i), x_r (some t)] none (x_sR (x_sR h 705 l (some t)) 406 i (some t)) := by
  refine x_Ex.call (x_enter mwX3_addTerm (Nat.le_of_ble_eq_true rfl) ?_)
  show x_E _ _ _ _ _ [(0, x_r (some i)), (1, x_r (some t))] _ _
  refine x_aload_n (i := 0) (o := some i) dX3_addTerm_0 rfl rfl ?_
  refine x_getRv (v := some l) dX3_addTerm_1 fX3_addTerm_27 (i := 406) rfl rfl hk (hl) ?_
  refine x_ifnonnull (o := some l) (tgt := 15) dX3_addTerm_4 (by decide) (fun _ _ => ?_) (fun c => absurd c (by simp))
  refine x_aload_n (i := 0) (o := some i) dX3_addTerm_15 rfl rfl ?_
  refine x_getRv (v := some l) dX3_addTerm_16 fX3_addTerm_27 (i := 406) rfl rfl hk (hl) ?_
  refine x_aload_n (i := 1) (o := some t) dX3_addTerm_19 rfl rfl ?_
  refine x_putR (i := 705) dX3_addTerm_20 pX3_addTerm_36 rfl rfl hkl (Or.inl ⟨_, rfl⟩) ?_
  refine x_aload_n (i := 0) (o := some i) dX3_addTerm_23 rfl rfl ?_
  refine x_aload_n (i := 1) (o := some t) dX3_addTerm_24 rfl rfl ?_
  refine x_putR (i := 406) dX3_addTerm_25 pX3_addTerm_27 rfl rfl hk (Or.inl ⟨_, rfl⟩) ?_
  refine x_return dX3_addTerm_28 rfl ⟨Nat.le_refl _, Nat.le_refl _⟩ ?_
  exact ⟨rfl, rfl⟩
set_option maxHeartbeats 4000000 in
set_option maxRecDepth 100000 in
theorem c_addItem_0 (G : x_G) {h : x_H} {i t : Nat} (hk : x_kd h i = 6) (hl : x_fr h 608 i = none) {n : Nat} (hn : x_fi h 604 i = nI n) : x_Call G mX6_addItem h [x_r (some i), x_r (some t)] none (x_sI (x_sR (x_sR h 607 i (some t)) 608 i (some t)) 604 i (nI (n + 1))) := by
  refine x_Ex.call (x_enter mwX6_addItem (Nat.le_of_ble_eq_true rfl) ?_)
  show x_E _ _ _ _ _ [(0, x_r (some i)), (1, x_r (some t))] _ _
  refine x_aload_n (i := 0) (o := some i) dX6_addItem_0 rfl rfl ?_
  refine x_getRv (v := none) dX6_addItem_1 fX6_addItem_32 (i := 608) rfl rfl hk (hl) ?_
  refine x_ifnonnull (o := none) (tgt := 15) dX6_addItem_4 (by decide) (fun _ c => absurd c (by simp)) (fun _ => ?_)
  refine x_aload_n (i := 0) (o := some i) dX6_addItem_7 rfl rfl ?_
  refine x_aload_n (i := 1) (o := some t) dX6_addItem_8 rfl rfl ?_
  refine x_putR (i := 607) dX6_addItem_9 pX6_addItem_28 rfl rfl hk (Or.inl ⟨_, rfl⟩) ?_
  refine x_goto (tgt := 23) dX6_addItem_12 (by decide) ?_
  refine x_aload_n (i := 0) (o := some i) dX6_addItem_23 rfl rfl ?_
  refine x_aload_n (i := 1) (o := some t) dX6_addItem_24 rfl rfl ?_
  refine x_putR (i := 608) dX6_addItem_25 pX6_addItem_32 rfl rfl hk (Or.inl ⟨_, rfl⟩) ?_
  refine x_aload_n (i := 0) (o := some i) dX6_addItem_28 rfl rfl ?_
  refine x_dup dX6_addItem_29 rfl ?_
  refine x_getIv (v := nI n) dX6_addItem_30 fX6_addItem_18 (i := 604) rfl rfl hk (hn) ?_
  refine x_iconst (v := 1) dX6_addItem_33 (by decide) ?_
  refine x_iadd dX6_addItem_34 ?_
  rw [show (nI n) + 1 = nI (n + 1) from nI_1 n]
  refine x_putI (i := 604) dX6_addItem_35 pX6_addItem_18 rfl rfl hk (rfl) (by rfl) ?_
  refine x_return dX6_addItem_38 rfl ⟨Nat.le_refl _, Nat.le_refl _⟩ ?_
  exact ⟨rfl, rfl⟩
set_option maxHeartbeats 4000000 in
set_option maxRecDepth 100000 in
theorem c_addItem_1 (G : x_G) {h : x_H} {i t l : Nat} (hk : x_kd h i = 6) (hl : x_fr h 608 i = some l) (hkl : x_kd h l = 4) {n : Nat} (hn : x_fi h 604 i = nI n) : x_Call G mX6_addItem h [x_r (some i), x_r (some t)] none (x_sI (x_sR (x_sR h 404 l (some t)) 608 i (some t)) 604 i (nI (n + 1))) := by
  refine x_Ex.call (x_enter mwX6_addItem (Nat.le_of_ble_eq_true rfl) ?_)
  show x_E _ _ _ _ _ [(0, x_r (some i)), (1, x_r (some t))] _ _
  refine x_aload_n (i := 0) (o := some i) dX6_addItem_0 rfl rfl ?_
  refine x_getRv (v := some l) dX6_addItem_1 fX6_addItem_32 (i := 608) rfl rfl hk (hl) ?_
  refine x_ifnonnull (o := some l) (tgt := 15) dX6_addItem_4 (by decide) (fun _ _ => ?_) (fun c => absurd c (by simp))
  refine x_aload_n (i := 0) (o := some i) dX6_addItem_15 rfl rfl ?_
  refine x_getRv (v := some l) dX6_addItem_16 fX6_addItem_32 (i := 608) rfl rfl hk (hl) ?_
  refine x_aload_n (i := 1) (o := some t) dX6_addItem_19 rfl rfl ?_
  refine x_putR (i := 404) dX6_addItem_20 pX6_addItem_41 rfl rfl hkl (Or.inl ⟨_, rfl⟩) ?_
  refine x_aload_n (i := 0) (o := some i) dX6_addItem_23 rfl rfl ?_
  refine x_aload_n (i := 1) (o := some t) dX6_addItem_24 rfl rfl ?_
  refine x_putR (i := 608) dX6_addItem_25 pX6_addItem_32 rfl rfl hk (Or.inl ⟨_, rfl⟩) ?_
  refine x_aload_n (i := 0) (o := some i) dX6_addItem_28 rfl rfl ?_
  refine x_dup dX6_addItem_29 rfl ?_
  refine x_getIv (v := nI n) dX6_addItem_30 fX6_addItem_18 (i := 604) rfl rfl hk (hn) ?_
  refine x_iconst (v := 1) dX6_addItem_33 (by decide) ?_
  refine x_iadd dX6_addItem_34 ?_
  rw [show (nI n) + 1 = nI (n + 1) from nI_1 n]
  refine x_putI (i := 604) dX6_addItem_35 pX6_addItem_18 rfl rfl hk (rfl) (by rfl) ?_
  refine x_return dX6_addItem_38 rfl ⟨Nat.le_refl _, Nat.le_refl _⟩ ?_
  exact ⟨rfl, rfl⟩
