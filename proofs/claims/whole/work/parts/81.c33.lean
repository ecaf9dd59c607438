/-! THE CLASS: HazardRules: a reader, read, walk -/
theorem y_bk0 {h0 hD hE : x_H} {t : Nat} (bD : n_bk h0 hD t) (h1 : t < x_sz hE) (h2 : x_kd hE t = 1) (h3 : ∀ f, x_fr hE f t = x_fr hD f t) (h4 : ∀ f, x_fi hE f t = x_fi hD f t) (C : Nat → Int32) : y_bk C hE t [] [] [] [] := by
  refine ⟨⟨h1, h2⟩, ?_, ?_, (h4 102).trans (bD.2.2.2.2.2.2.2.2.1 102), ?_, ?_, (h4 105).trans (bD.2.2.2.2.2.2.2.2.1 105), ⟨rfl, ⟨List.Pairwise.nil, fun t ht => by cases ht⟩, fun j t hj => by simp at hj, fun j r q hj => by simp at hj⟩, ⟨rfl, ⟨List.Pairwise.nil, fun t ht => by cases ht⟩, fun j t hj => by simp at hj, fun j e d hj => by simp at hj⟩⟩
  · exact (h3 100).trans (bD.2.2.2.2.2.2.2.2.2 100)
  · exact (h3 101).trans (bD.2.2.2.2.2.2.2.2.2 101)
  · exact (h3 103).trans (bD.2.2.2.2.2.2.2.2.2 103)
  · exact (h3 104).trans (bD.2.2.2.2.2.2.2.2.2 104)
/-- a reader over the words at w: its book behind it, empty -/
def n_rd (h h2 : x_H) (rd w : Nat) : Prop := y_F h h2 (fun f q => q = rd ∧ (f = 500 ∨ f = 501)) (fun _ => False) ∧ x_sz h2 = rd + 2 ∧ x_us h2 = x_us h + 7 ∧ x_fr h2 500 rd = some (rd + 1) ∧ x_fr h2 501 rd = some w ∧ (∀ C, y_bk C h2 (rd + 1) [] [] [] []) ∧ x_fi h2 106 (rd + 1) = -1
set_option maxHeartbeats 4000000 in
set_option maxRecDepth 100000 in
theorem c_n_rd {G : x_G} {ad st vl : Nat → Nat} {kt : Nat × Option Nat} (hG : x_GS G ad st vl kt) {h : x_H} {rd : Nat} (hs0 : x_sz h = rd + 1) (hk : x_kd h rd = 5) (w : Nat) : x_Ex G mX5_init h [x_r (some rd), x_r (some w)] (fun r h2 => r = none ∧ n_rd h h2 rd w) := by
  refine x_enter mwX5_init (Nat.le_of_ble_eq_true rfl) ?_
  show x_E _ _ _ _ _ [(0, x_r (some rd)), (1, x_r (some w))] _ _
  refine x_aload_n (i := 0) (o := some rd) dX5_init_0 rfl rfl ?_
  refine x_objInit dX5_init_1 sX5_init_3 (Nat.le_of_ble_eq_true rfl) ?_
  refine x_aload_n (i := 0) (o := some rd) dX5_init_4 rfl rfl ?_
  refine x_new dX5_init_5 nX5_init_9 (by first | exact ⟨Nat.le_refl _, Nat.le_refl _⟩ | exact ⟨yD0.1, yD0.2.1⟩) ?_
  rw [hs0]
  show x_E _ _ _ _ 8 _ [x_r (some (rd + 1)), x_r (some rd)] _
  refine x_dup dX5_init_8 rfl ?_
  obtain ⟨_, hD, ⟨rfl, bD⟩, hcD⟩ := c_n_bk G (h := x_nO h 1 7) (t := rd + 1) (by rw [x_kd_nO, if_pos hs0.symm])
  refine x_callIN (host := "HazardRules") (a := rd + 1) (av := []) (rest := [x_r (some (rd + 1)), x_r (some rd)]) (r := none) (h1 := hD) dX5_init_9 sX5_init_11 (fun U hU => (hG U hU).2.2.2.2.2 _ (by simp [x_nl])) rfl rfl (Nat.le_of_ble_eq_true rfl) ⟨Nat.le_succ _, Nat.le_add_right _ _⟩ (hcD) ?_
  show x_E _ _ _ _ 12 _ [x_r (some (rd + 1)), x_r (some rd)] _
  have yD0 : y_F h hD (fun _ _ => False) (fun _ => False) := (y_F.rf.O 1 7).ob bD (by omega)
  refine x_putR (i := 500) dX5_init_12 pX5_init_12 rfl rfl (by first | exact hk | exact (yD0.kd (by omega)).trans hk | (rw [x_kd_sR]; exact (yD0.kd (by omega)).trans hk)) (Or.inl ⟨_, rfl⟩) ?_
  refine x_aload_n (i := 0) (o := some rd) dX5_init_15 rfl rfl ?_
  refine x_aload_n (i := 1) (o := some w) dX5_init_16 rfl rfl ?_
  refine x_putR (i := 501) dX5_init_17 pX5_init_18 rfl rfl (by first | exact hk | exact (yD0.kd (by omega)).trans hk | (rw [x_kd_sR]; exact (yD0.kd (by omega)).trans hk)) (Or.inl ⟨_, rfl⟩) ?_
  refine x_return dX5_init_20 rfl (by first | exact ⟨Nat.le_refl _, Nat.le_refl _⟩ | exact ⟨yD0.1, yD0.2.1⟩) ?_
  have yD1 : y_F h (x_sR (x_sR hD 500 rd (some (rd + 1))) 501 rd (some w)) (fun f q => q = rd ∧ (f = 500 ∨ f = 501)) (fun _ => False) := ((yD0.mono (fun _ _ z => z.elim) (fun _ z => z)).Rf (fun _ => ⟨rfl, Or.inl rfl⟩)).Rf (fun _ => ⟨rfl, Or.inr rfl⟩)
  have e5 : ∀ f, x_fr (x_sR (x_sR hD 500 rd (some (rd + 1))) 501 rd (some w)) f (rd + 1) = x_fr hD f (rd + 1) := fun f => by rw [x_fr_sR, if_neg (by omega), x_fr_sR, if_neg (by omega)]
  have e6 : ∀ f, x_fi (x_sR (x_sR hD 500 rd (some (rd + 1))) 501 rd (some w)) f (rd + 1) = x_fi hD f (rd + 1) := fun f => rfl
  have e1 : x_sz (x_sR (x_sR hD 500 rd (some (rd + 1))) 501 rd (some w)) = rd + 2 := by rw [x_sz_sR, x_sz_sR, bD.1, x_sz_nO, hs0]
  have e2 : x_us (x_sR (x_sR hD 500 rd (some (rd + 1))) 501 rd (some w)) = x_us h + 7 := by rw [x_us_sR, x_us_sR, bD.2.1, x_us_nO]
  have e3 : x_fr (x_sR (x_sR hD 500 rd (some (rd + 1))) 501 rd (some w)) 500 rd = some (rd + 1) := by rw [x_fr_sR, if_neg (by omega), x_fr_sR, if_pos ⟨rfl, rfl⟩]
  have e4 : x_fr (x_sR (x_sR hD 500 rd (some (rd + 1))) 501 rd (some w)) 501 rd = some w := by rw [x_fr_sR, if_pos ⟨rfl, rfl⟩]
  have e7 : x_kd (x_sR (x_sR hD 500 rd (some (rd + 1))) 501 rd (some w)) (rd + 1) = 1 := by rw [x_kd_sR, x_kd_sR, bD.2.2.1, x_kd_nO, if_pos hs0.symm]
  generalize x_sR (x_sR hD 500 rd (some (rd + 1))) 501 rd (some w) = hE at *
  exact ⟨rfl, yD1, e1, e2, e3, e4, y_bk0 bD (by omega) e7 e5 e6, (e6 106).trans (bD.2.2.2.2.2.2.2.2.1 106)⟩
theorem k_P.Y {h h1 : x_H} {ca : Nat} {P : Nat → Nat → Prop} {S : Nat → Prop} (hk : k_P h ca) (hl : ca + 9 < x_sz h) (hF : y_F h h1 P S) (hp : ∀ f a, (f = 900 ∨ f = 902 ∨ f = 904 ∨ f = 905 ∨ f = 800 ∨ (300 ≤ f ∧ f ≤ 304)) → a < x_sz h → ¬ P f a) : k_P h1 ca := by
  obtain ⟨a0, ⟨a1, a2, a3⟩, ⟨b1, b2, b3⟩, c1, ⟨d0, d1, d2, d3⟩, e1, hf⟩ := hk
  exact ⟨(hF.kd (by omega)).trans a0, ⟨(hF.fr (by omega) (hp _ _ (by omega) (by omega))).trans a1, (hF.kd (by omega)).trans a2, (hF.ln (by omega)).trans a3⟩, ⟨(hF.fr (by omega) (hp _ _ (by omega) (by omega))).trans b1, (hF.kd (by omega)).trans b2, (hF.ln (by omega)).trans b3⟩, (hF.fr (by omega) (hp _ _ (by omega) (by omega))).trans c1, ⟨(hF.kd (by omega)).trans d0, (hF.fr (by omega) (hp _ _ (by omega) (by omega))).trans d1, (hF.kd (by omega)).trans d2, (hF.ln (by omega)).trans d3⟩, (hF.fr (by omega) (hp _ _ (by omega) (by omega))).trans e1, hf.Y (by omega) hF (fun f g1 g2 => hp _ _ (by omega) (by omega))⟩
/-- a new book of the text C, nothing looked at -/
def k_B (h' : x_H) (ca : Nat) (C : Nat → Int32) (R : List (Nat × Nat)) (E : List Int32) (V : Nat → Int32) (act : Int32) : Prop := ∃ bk rs es, x_fr h' 906 ca = some bk ∧ y_bk C h' bk rs R es E ∧ y_V h' rs V ∧ x_fi h' 106 bk = act
def k_RT (h h' : x_H) (ca : Nat) (K : List Int32) (C : Nat → Int32) (R : List (Nat × Nat)) (E : List Int32) : Prop := y_F h h' (fun f a => (a = ca ∧ (f = 901 ∨ f = 903 ∨ f = 906)) ∨ (a = ca + 3 ∧ (f = 801 ∨ f = 802))) (fun a => a = ca + 2 ∨ a = ca + 4) ∧ x_fi h' 901 ca = 0 ∧ x_fi h' 903 ca = nI K.length ∧ (∀ (j : Nat) (x : Int32), K[j]? = some x → x_rw h' (ca + 2) j = x) ∧ K.length ≤ 3000 ∧ (x_sz h' ≤ x_sz h + 752 ∧ x_us h' ≤ x_us h + 6759) ∧ k_B h' ca C R E (fun _ => -5) (-1)
def k_RF (h h' : x_H) (ca : Nat) : Prop := y_F h h' (fun f a => (a = ca ∧ f = 901) ∨ (a = ca + 3 ∧ (f = 801 ∨ f = 802))) (fun a => a = ca + 4) ∧ x_fi h' 901 ca = 0 ∧ (x_sz h' ≤ x_sz h + 752 ∧ x_us h' ≤ x_us h + 6759)
set_option maxHeartbeats 4000000 in
set_option maxRecDepth 100000 in
theorem c_readX {G : x_G} {ad st vl : Nat → Nat} {kt : Nat × Option Nat} (hG : x_GS G ad st vl kt) {h : x_H} {ca n : Nat} (hk : k_P h ca) (hcl : ca + 9 < x_sz h) (hn : x_fi h 901 ca = nI n) (h3 : n ≤ 3000) (hTb : ∀ i, (x_rw h (ca + 1) i).toInt8.toInt32 = x_rw h (ca + 1) i) : x_Ex G mX9_read h [x_r (some ca)] (fun r h' =>
      ((z_rd (m_C (x_rw h (ca + 1)) (z_words (x_rw h (ca + 1)) n)) (z_words (x_rw h (ca + 1)) n).length).1 = false ∧ r = some (x_i (-1 - nI (z_rd (m_C (x_rw h (ca + 1)) (z_words (x_rw h (ca + 1)) n)) (z_words (x_rw h (ca + 1)) n).length).2)) ∧ k_RF h h' ca) ∨
      ((z_rd (m_C (x_rw h (ca + 1)) (z_words (x_rw h (ca + 1)) n)) (z_words (x_rw h (ca + 1)) n).length).1 = true ∧ r = some (x_i (nI (z_sc (m_C (x_rw h (ca + 1)) (z_words (x_rw h (ca + 1)) n)) (z_words (x_rw h (ca + 1)) n).length).1.length)) ∧ k_RT h h' ca (z_tx (x_rw h (ca + 1)) (z_words (x_rw h (ca + 1)) n)) (m_C (x_rw h (ca + 1)) (z_words (x_rw h (ca + 1)) n)) (z_sc (m_C (x_rw h (ca + 1)) (z_words (x_rw h (ca + 1)) n)) (z_words (x_rw h (ca + 1)) n).length).1 (z_sc (m_C (x_rw h (ca + 1)) (z_words (x_rw h (ca + 1)) n)) (z_words (x_rw h (ca + 1)) n).length).2)) := by
  refine x_enter mwX9_read (Nat.le_of_ble_eq_true rfl) ?_
  show x_E _ _ _ _ _ [(0, x_r (some ca))] _ _
  refine x_aload_n (i := 0) (o := some ca) dX9_read_0 rfl rfl ?_
  refine x_getRv (v := some (ca + 3)) dX9_read_1 fX9_read_26 (i := 904) rfl rfl (by first | exact hk.1 | exact hk5.1 | exact (hk5.F kH.1).1 | (rw [x_kd_nO, if_neg (by omega)]; exact (y2.kd (by omega)).trans hk.1) | (simp only [x_kd_sI, x_kd_sR]; first | exact hk5.1 | exact (hk5.F kH.1).1) | exact (y24.kd (by omega)).trans hk.1) (hk.2.2.2.1) ?_
  refine x_aload_n (i := 0) (o := some ca) dX9_read_4 rfl rfl ?_
  refine x_getRv (v := some (ca + 1)) dX9_read_5 fX9_read_9 (i := 900) rfl rfl (by first | exact hk.1 | exact hk5.1 | exact (hk5.F kH.1).1 | (rw [x_kd_nO, if_neg (by omega)]; exact (y2.kd (by omega)).trans hk.1) | (simp only [x_kd_sI, x_kd_sR]; first | exact hk5.1 | exact (hk5.F kH.1).1) | exact (y24.kd (by omega)).trans hk.1) (hk.2.1.1) ?_
  refine x_aload_n (i := 0) (o := some ca) dX9_read_8 rfl rfl ?_
  refine x_getIv (v := nI n) dX9_read_9 fX9_read_13 (i := 901) rfl rfl (by first | exact hk.1 | exact hk5.1 | exact (hk5.F kH.1).1 | (rw [x_kd_nO, if_neg (by omega)]; exact (y2.kd (by omega)).trans hk.1) | (simp only [x_kd_sI, x_kd_sR]; first | exact hk5.1 | exact (hk5.F kH.1).1) | exact (y24.kd (by omega)).trans hk.1) (hn) ?_
  obtain ⟨_, h2, ⟨rfl, f2, hT2⟩, hc2⟩ := c_splitX hG hk.2.2.2.2.1 (a := ca + 1) (n := n) hk.2.1.2.1 hk.2.1.2.2 h3
  have l2 : x_sz h ≤ x_sz h2 ∧ x_us h ≤ x_us h2 := f2.le
  have z2 : x_sz h2 = x_sz h := f2.1
  have u2 : x_us h2 = x_us h := f2.2.1
  have y2 : y_F h h2 (fun i b => b = ca + 3 ∧ (i = 801 ∨ i = 802)) (fun b => b = ca + 3 + 1) := y_F.X f2 (fun _ _ z => z) (fun _ z => z)
  generalize hCC : m_C (x_rw h (ca + 1)) (z_words (x_rw h (ca + 1)) n) = C at hT2 ⊢
  generalize hNW : (z_words (x_rw h (ca + 1)) n).length = L at hT2 ⊢
  refine x_callV (a := ca + 3) (av := [x_r (some (ca + 1)), x_i (nI n)]) (rest := []) (r := none) (h1 := h2) dX9_read_12 sX9_read_44 (by first | exact hk.2.2.2.2.1.1 | (simp only [x_kd_sI, x_kd_sR]; exact hk5.2.2.2.2.1.1)) rfl rfl (Nat.le_of_ble_eq_true rfl) (by first | exact ⟨Nat.le_refl _, Nat.le_refl _⟩ | exact l6 | exact l5 | (simp only [x_sz_sI, x_sz_sR, x_us_sI, x_us_sR]; first | exact l6 | exact l5)) (hc2) ?_
  show x_E _ _ _ _ 15 _ [] _
  refine x_new dX9_read_15 nX9_read_48 l2 ?_
  refine x_dup dX9_read_18 rfl ?_
  refine x_aload_n (i := 0) (o := some ca) dX9_read_19 rfl rfl ?_
  refine x_getRv (v := some (ca + 3)) dX9_read_20 fX9_read_26 (i := 904) rfl rfl (by first | exact hk.1 | exact hk5.1 | exact (hk5.F kH.1).1 | (rw [x_kd_nO, if_neg (by omega)]; exact (y2.kd (by omega)).trans hk.1) | (simp only [x_kd_sI, x_kd_sR]; first | exact hk5.1 | exact (hk5.F kH.1).1) | exact (y24.kd (by omega)).trans hk.1) (by rw [x_fr_nO, if_neg (by omega)]; exact (y2.fr (by omega) (by omega)).trans hk.2.2.2.1) ?_
  obtain ⟨_, h4, ⟨rfl, n4⟩, hc4⟩ := c_n_rd hG (h := x_nO h2 5 2) (rd := x_sz h2) rfl (by rw [x_kd_nO, if_pos rfl]) (ca + 3)
  obtain ⟨y4, z4, u4, b4, w4, bk4, a4⟩ := n4
  have y24 : y_F h h4 (fun i b => b = ca + 3 ∧ (i = 801 ∨ i = 802)) (fun b => b = ca + 3 + 1) := (y2.O 5 2).tr y4 (fun _ _ z => z) (fun i q hq z => by have := z.1; omega) (fun _ z => z) (fun _ _ z => z.elim)
  rw [x_us_nO] at u4
  have l4 : x_sz h ≤ x_sz h4 ∧ x_us h ≤ x_us h4 := y24.le
  have k4 : x_kd h4 (x_sz h2) = 5 := (y4.kd (Nat.lt_succ_self _)).trans (by rw [x_kd_nO, if_pos rfl])
  have hW4 : c_T h4 (ca + 3) L 0 C := hT2.F (by omega) (((y_F.rf : y_F h2 h2 (fun _ _ => False) (fun _ => False)).O 5 2).tr y4 (P := fun f q => q = x_sz h2) (R := fun _ => False) (fun _ _ z => z.elim) (fun _ _ _ z => z.1) (fun _ z => z) (fun _ _ z => z)) (by omega) (by omega) (fun z => z) ((y4.fi (by rw [x_sz_nO]; omega) (by omega)).trans (by rw [x_fi_nO, if_neg (by omega)]; exact hT2.2.2.1)) (Nat.zero_le _)
  refine x_callI (a := x_sz h2) (av := [x_r (some (ca + 3))]) (rest := [x_r (some (x_sz h2))]) (r := none) (h1 := h4) dX9_read_23 sX9_read_50 rfl rfl (Nat.le_of_ble_eq_true rfl) ⟨by rw [x_sz_nO]; omega, by rw [x_us_nO]; omega⟩ (hc4) ?_
  show x_E _ _ _ _ 26 _ [x_r (some (x_sz h2))] _
  refine x_astore_n (i := 1) (lv' := [(0, x_r (some ca)), (1, x_r (some (x_sz h2)))]) dX9_read_26 rfl (by decide) rfl ?_
  refine x_aload_n (i := 1) (o := some (x_sz h2)) dX9_read_27 rfl rfl ?_
  obtain ⟨_, h5, ⟨yF5, hT5, z5, u5, (⟨hz, rfl, rs, es, hb5, hrs, hes⟩ | ⟨hz, rfl⟩)⟩, hc5⟩ := c_readText hG hW4 (by omega) (rd := x_sz h2) (bk := x_sz h2 + 1) ⟨by omega, k4, w4⟩ b4 (bk4 C)
  · skip
    have hLn : L ≤ 1500 := hT5.2.2.2.1
    have hzL : (z_rd C L).2 ≤ L := hT5.2.2.2.2.1
    have y25 : y_F h h5 (fun i b => b = ca + 3 ∧ (i = 801 ∨ i = 802)) (fun b => b = ca + 3 + 1) := y24.tr yF5 (fun _ _ z => z) (fun i q hq z => by rcases z with z | z <;> omega) (fun _ z => z) (fun _ _ z => z.elim)
    have l5 : x_sz h ≤ x_sz h5 ∧ x_us h ≤ x_us h5 := y25.le
    have hk5 : k_P h5 ca := hk.Y hcl y25 (fun f a g1 g2 => by omega)
    have r5 : x_sz h5 ≤ x_sz h + 752 ∧ x_us h5 ≤ x_us h + 6759 := by have := yF5.1; have := yF5.2.1; omega
    have n5 : x_fi h5 901 ca = nI n := (y25.fi (by omega) (by omega)).trans hn
    have e5 : x_rw h5 (ca + 1) = x_rw h (ca + 1) := y25.rw (by omega) (by omega)
    have a5 : x_fi h5 106 (x_sz h2 + 1) = -1 := (yF5.fi (by omega) (by omega)).trans a4
    have b5 : x_fr h5 500 (x_sz h2) = some (x_sz h2 + 1) := (yF5.fr (by omega) (by omega)).trans b4
    refine x_callV (a := x_sz h2) (av := []) (rest := []) (r := (some (x_i 1))) (h1 := h5) dX9_read_28 sX9_read_53 (by first | exact k4 | exact (yF5.kd (by omega)).trans k4 | (rw [kH.1.2.2.1]; exact (yF5.kd (by omega)).trans k4)) rfl rfl (Nat.le_of_ble_eq_true rfl) l4 (hc5) ?_
    show x_E _ _ _ _ 31 _ [x_i 1] _
    refine x_istore_n (i := 2) (lv' := [(0, x_r (some ca)), (1, x_r (some (x_sz h2))), (2, x_i 1)]) dX9_read_31 rfl (by decide) rfl ?_
    refine x_iload_n (i := 2) (x := 1) dX9_read_32 rfl rfl ?_
    refine x_if_eq (tgt := 48) dX9_read_33 (by decide) (fun c => absurd c (by decide)) (fun _ => ?_)
    refine x_aload_n (i := 0) (o := some ca) dX9_read_36 rfl rfl ?_
    obtain ⟨_, h6, ⟨rfl, kH, kL⟩, hc6⟩ := c_keepText G hk5 n5 h3 (by rw [e5]; exact hTb)
    rw [e5] at kH kL
    have l6 : x_sz h ≤ x_sz h6 ∧ x_us h ≤ x_us h6 := ⟨Nat.le_trans l5.1 kH.1.le.1, Nat.le_trans l5.2 kH.1.le.2⟩
    refine x_callV (a := ca) (av := []) (rest := []) (r := none) (h1 := h6) dX9_read_37 sX9_read_57 (by first | exact hk.1 | exact hk5.1 | exact (hk5.F kH.1).1 | (rw [x_kd_nO, if_neg (by omega)]; exact (y2.kd (by omega)).trans hk.1) | (simp only [x_kd_sI, x_kd_sR]; first | exact hk5.1 | exact (hk5.F kH.1).1) | exact (y24.kd (by omega)).trans hk.1) rfl rfl (Nat.le_of_ble_eq_true rfl) l5 (hc6) ?_
    show x_E _ _ _ _ 40 _ [] _
    refine x_aload_n (i := 0) (o := some ca) dX9_read_40 rfl rfl ?_
    refine x_aload_n (i := 1) (o := some (x_sz h2)) dX9_read_41 rfl rfl ?_
    refine x_getRv (v := some (x_sz h2 + 1)) dX9_read_42 fX9_read_60 (i := 500) rfl rfl (by first | exact k4 | exact (yF5.kd (by omega)).trans k4 | (rw [kH.1.2.2.1]; exact (yF5.kd (by omega)).trans k4)) (by rw [kH.1.2.2.2.1]; exact b5) ?_
    refine x_putR (i := 906) dX9_read_45 pX9_read_40 rfl rfl (by first | exact hk.1 | exact hk5.1 | exact (hk5.F kH.1).1 | (rw [x_kd_nO, if_neg (by omega)]; exact (y2.kd (by omega)).trans hk.1) | (simp only [x_kd_sI, x_kd_sR]; first | exact hk5.1 | exact (hk5.F kH.1).1) | exact (y24.kd (by omega)).trans hk.1) (Or.inl ⟨_, rfl⟩) ?_
    refine x_aload_n (i := 0) (o := some ca) dX9_read_48 rfl rfl ?_
    refine x_iconst (v := 0) dX9_read_49 (by decide) ?_
    refine x_putI (i := 901) dX9_read_50 pX9_read_13 rfl rfl (by first | exact hk.1 | exact hk5.1 | exact (hk5.F kH.1).1 | (rw [x_kd_nO, if_neg (by omega)]; exact (y2.kd (by omega)).trans hk.1) | (simp only [x_kd_sI, x_kd_sR]; first | exact hk5.1 | exact (hk5.F kH.1).1) | exact (y24.kd (by omega)).trans hk.1) (rfl) (by rfl) ?_
    refine x_iload_n (i := 2) (x := 1) dX9_read_53 rfl rfl ?_
    refine x_if_eq (tgt := 67) dX9_read_54 (by decide) (fun c => absurd c (by decide)) (fun _ => ?_)
    refine x_aload_n (i := 0) (o := some ca) dX9_read_57 rfl rfl ?_
    refine x_getRv (v := some (x_sz h2 + 1)) dX9_read_58 fX9_read_40 (i := 906) rfl rfl (by first | exact hk.1 | exact hk5.1 | exact (hk5.F kH.1).1 | (rw [x_kd_nO, if_neg (by omega)]; exact (y2.kd (by omega)).trans hk.1) | (simp only [x_kd_sI, x_kd_sR]; first | exact hk5.1 | exact (hk5.F kH.1).1) | exact (y24.kd (by omega)).trans hk.1) (by rw [x_fr_sI, x_fr_sR, if_pos ⟨rfl, rfl⟩]) ?_
    refine x_getIv (v := nI (z_sc C L).1.length) dX9_read_61 fX9_read_61 (i := 102) rfl rfl (by simp only [x_kd_sI, x_kd_sR]; rw [kH.1.2.2.1]; exact hb5.1.2) (by rw [x_fi_sI, if_neg (by omega), x_fi_sR, kH.1.fi (by omega)]; exact hb5.2.2.2.1) ?_
    refine x_goto (tgt := 76) dX9_read_64 (by decide) ?_
    refine x_ireturn dX9_read_76 rfl (rfl) (by first | exact ⟨Nat.le_refl _, Nat.le_refl _⟩ | exact l6 | exact l5 | (simp only [x_sz_sI, x_sz_sR, x_us_sI, x_us_sR]; first | exact l6 | exact l5)) ?_
    have hk6 : k_P h6 ca := hk5.F kH.1
    have y26 : y_F h h6 (fun f a => (a = ca ∧ (f = 901 ∨ f = 903 ∨ f = 906)) ∨ (a = ca + 3 ∧ (f = 801 ∨ f = 802))) (fun a => a = ca + 2 ∨ a = ca + 4) := y25.tr (y_F.X kH.1 (P := fun f a => f = 903 ∧ a = ca) (R := fun a => a = ca + 2) (fun _ _ z => z) (fun _ z => z)) (fun i q z => Or.inr z) (fun i q _ z => Or.inl ⟨z.2, Or.inr (Or.inl z.1)⟩) (fun q z => Or.inr (by omega)) (fun q _ z => Or.inl z)
    have yE : y_F h (x_sI (x_sR h6 906 ca (some (x_sz h2 + 1))) 901 ca 0) (fun f a => (a = ca ∧ (f = 901 ∨ f = 903 ∨ f = 906)) ∨ (a = ca + 3 ∧ (f = 801 ∨ f = 802))) (fun a => a = ca + 2 ∨ a = ca + 4) := (y26.Rf (fun _ => Or.inl ⟨rfl, Or.inr (Or.inr rfl)⟩)).I (fun _ => Or.inl ⟨rfl, Or.inl rfl⟩)
    have yH : y_F h5 (x_sI (x_sR h6 906 ca (some (x_sz h2 + 1))) 901 ca 0) (fun f a => a = ca ∧ (f = 901 ∨ f = 903 ∨ f = 906)) (fun a => a = ca + 2) := (((y_F.X kH.1 (P := fun f a => a = ca ∧ (f = 901 ∨ f = 903 ∨ f = 906)) (R := fun a => a = ca + 2) (fun _ _ z => ⟨z.2, Or.inr (Or.inl z.1)⟩) (fun _ z => z)).Rf (fun _ => ⟨rfl, Or.inr (Or.inr rfl)⟩)).I (fun _ => ⟨rfl, Or.inl rfl⟩))
    refine Or.inr ⟨hz, rfl, yE, by rw [x_fi_sI, if_pos ⟨rfl, rfl⟩], ?_, fun j x hj => kH.2.2 j x hj, by omega, ?_, x_sz h2 + 1, rs, es, ?_, hb5.F yH (fun f a z => by omega), fun j r hj => ?_, ?_⟩
    · rw [x_fi_sI, if_neg (by omega), x_fi_sR]
      exact kH.2.1
    · rw [x_sz_sI, x_sz_sR, x_us_sI, x_us_sR, kH.1.1, kH.1.2.1]
      exact r5
    · rw [x_fr_sI, x_fr_sR, if_pos ⟨rfl, rfl⟩]
    · have hrl := hb5.2.2.2.2.2.2.2.1.2.1.2 r (List.mem_of_getElem? hj)
      rw [yH.fi hrl (by omega)]
      exact (hrs r (List.mem_of_getElem? hj)).2
    · rw [yH.fi (by have := yF5.1; omega) (by omega)]
      exact a5
  · skip
    have hLn : L ≤ 1500 := hT5.2.2.2.1
    have hzL : (z_rd C L).2 ≤ L := hT5.2.2.2.2.1
    have y25 : y_F h h5 (fun i b => b = ca + 3 ∧ (i = 801 ∨ i = 802)) (fun b => b = ca + 3 + 1) := y24.tr yF5 (fun _ _ z => z) (fun i q hq z => by rcases z with z | z <;> omega) (fun _ z => z) (fun _ _ z => z.elim)
    have l5 : x_sz h ≤ x_sz h5 ∧ x_us h ≤ x_us h5 := y25.le
    have hk5 : k_P h5 ca := hk.Y hcl y25 (fun f a g1 g2 => by omega)
    have r5 : x_sz h5 ≤ x_sz h + 752 ∧ x_us h5 ≤ x_us h + 6759 := by have := yF5.1; have := yF5.2.1; omega
    have n5 : x_fi h5 901 ca = nI n := (y25.fi (by omega) (by omega)).trans hn
    refine x_callV (a := x_sz h2) (av := []) (rest := []) (r := (some (x_i 0))) (h1 := h5) dX9_read_28 sX9_read_53 (by first | exact k4 | exact (yF5.kd (by omega)).trans k4 | (rw [kH.1.2.2.1]; exact (yF5.kd (by omega)).trans k4)) rfl rfl (Nat.le_of_ble_eq_true rfl) l4 (hc5) ?_
    show x_E _ _ _ _ 31 _ [x_i 0] _
    refine x_istore_n (i := 2) (lv' := [(0, x_r (some ca)), (1, x_r (some (x_sz h2))), (2, x_i 0)]) dX9_read_31 rfl (by decide) rfl ?_
    refine x_iload_n (i := 2) (x := 0) dX9_read_32 rfl rfl ?_
    refine x_if_eq (tgt := 48) dX9_read_33 (by decide) (fun _ => ?_) (fun c => absurd (by decide) c)
    refine x_aload_n (i := 0) (o := some ca) dX9_read_48 rfl rfl ?_
    refine x_iconst (v := 0) dX9_read_49 (by decide) ?_
    refine x_putI (i := 901) dX9_read_50 pX9_read_13 rfl rfl (by first | exact hk.1 | exact hk5.1 | exact (hk5.F kH.1).1 | (rw [x_kd_nO, if_neg (by omega)]; exact (y2.kd (by omega)).trans hk.1) | (simp only [x_kd_sI, x_kd_sR]; first | exact hk5.1 | exact (hk5.F kH.1).1) | exact (y24.kd (by omega)).trans hk.1) (rfl) (by rfl) ?_
    refine x_iload_n (i := 2) (x := 0) dX9_read_53 rfl rfl ?_
    refine x_if_eq (tgt := 67) dX9_read_54 (by decide) (fun _ => ?_) (fun c => absurd (by decide) c)
    refine x_iconst (v := (-1)) dX9_read_67 (by decide) ?_
    refine x_aload_n (i := 0) (o := some ca) dX9_read_68 rfl rfl ?_
    refine x_getRv (v := some (ca + 3)) dX9_read_69 fX9_read_26 (i := 904) rfl rfl (by first | exact hk.1 | exact hk5.1 | exact (hk5.F kH.1).1 | (rw [x_kd_nO, if_neg (by omega)]; exact (y2.kd (by omega)).trans hk.1) | (simp only [x_kd_sI, x_kd_sR]; first | exact hk5.1 | exact (hk5.F kH.1).1) | exact (y24.kd (by omega)).trans hk.1) (by rw [x_fr_sI]; exact hk5.2.2.2.1) ?_
    refine x_getIv (v := nI (z_rd C L).2) dX9_read_72 fX9_read_64 (i := 802) rfl rfl (by first | exact hk.2.2.2.2.1.1 | (simp only [x_kd_sI, x_kd_sR]; exact hk5.2.2.2.2.1.1)) (by rw [x_fi_sI, if_neg (by omega)]; exact hT5.2.2.1) ?_
    refine x_isub dX9_read_75 ?_
    refine x_ireturn dX9_read_76 rfl (rfl) (by first | exact ⟨Nat.le_refl _, Nat.le_refl _⟩ | exact l6 | exact l5 | (simp only [x_sz_sI, x_sz_sR, x_us_sI, x_us_sR]; first | exact l6 | exact l5)) ?_
    have yE : y_F h (x_sI h5 901 ca 0) (fun f a => (a = ca ∧ f = 901) ∨ (a = ca + 3 ∧ (f = 801 ∨ f = 802))) (fun a => a = ca + 4) := (y25.mono (fun i q z => Or.inr z) (fun q z => by omega)).I (fun _ => Or.inl ⟨rfl, rfl⟩)
    refine Or.inl ⟨hz, rfl, yE, by rw [x_fi_sI, if_pos ⟨rfl, rfl⟩], ?_⟩
    rw [x_sz_sI, x_us_sI]
    exact r5
set_option maxHeartbeats 4000000 in
set_option maxRecDepth 100000 in
theorem c_walkX {G : x_G} {ad st vl : Nat → Nat} {kt : Nat × Option Nat} (hG : x_GS G ad st vl kt) {h : x_H} {ca : Nat} (hk : k_P h ca) (hcl : ca + 9 < x_sz h) {K : List Int32} (hn : x_fi h 903 ca = nI K.length) (h3 : K.length ≤ 3000) {C : Nat → Int32} {L : Nat} (hC1 : (z_words (x_rw h (ca + 2)) K.length).length = L) (hC2 : m_C (x_rw h (ca + 2)) (z_words (x_rw h (ca + 2)) K.length) = C) (hrd : (z_rd C L).1 = true) {R : List (Nat × Nat)} {E : List Int32} (hR0 : (z_sc C L).1 = R) (hE0 : (z_sc C L).2 = E) (hR : ∀ q ∈ R, v_ru C q) (hE : E.Pairwise (· < ·)) (h60 : R.length ≤ 60) {X : z_X} (hX : f_X h (ca + 5) X) (day : Int64) : x_Ex G mX9_walk h [x_r (some ca), x_l day] (fun r h' => r = some (x_i (z_ra C R (z_V X C R (z_ed E day E.length) R.length) (z_OO X C R (z_ed E day E.length) R.length))) ∧ y_F h h' (fun f a => (a = ca ∧ f = 906) ∨ (a = ca + 3 ∧ (f = 801 ∨ f = 802)) ∨ f = 605 ∨ f = 106) (fun a => a = ca + 4) ∧ (x_sz h' ≤ x_sz h + 752 ∧ x_us h' ≤ x_us h + 6759) ∧ k_B h' ca C R E (z_V X C R (z_ed E day E.length) R.length) (z_ed E day E.length)) := by
  refine x_enter mwX9_walk (Nat.le_of_ble_eq_true rfl) ?_
  show x_E _ _ _ _ _ [(0, x_r (some ca)), (1, x_l day)] _ _
  refine x_aload_n (i := 0) (o := some ca) dX9_walk_0 rfl rfl ?_
  refine x_getRv (v := some (ca + 3)) dX9_walk_1 fX9_walk_26 (i := 904) rfl rfl (by first | exact hk.1 | exact hk5.1 | exact hk5.1 | (rw [x_kd_nO, if_neg (by omega)]; exact (y2.kd (by omega)).trans hk.1) | (simp only [x_kd_sI, x_kd_sR]; first | exact hk5.1 | exact hk5.1) | exact (y24.kd (by omega)).trans hk.1) (hk.2.2.2.1) ?_
  refine x_aload_n (i := 0) (o := some ca) dX9_walk_4 rfl rfl ?_
  refine x_getRv (v := some (ca + 2)) dX9_walk_5 fX9_walk_17 (i := 902) rfl rfl (by first | exact hk.1 | exact hk5.1 | exact hk5.1 | (rw [x_kd_nO, if_neg (by omega)]; exact (y2.kd (by omega)).trans hk.1) | (simp only [x_kd_sI, x_kd_sR]; first | exact hk5.1 | exact hk5.1) | exact (y24.kd (by omega)).trans hk.1) (hk.2.2.1.1) ?_
  refine x_aload_n (i := 0) (o := some ca) dX9_walk_8 rfl rfl ?_
  refine x_getIv (v := nI K.length) dX9_walk_9 fX9_walk_20 (i := 903) rfl rfl (by first | exact hk.1 | exact hk5.1 | exact hk5.1 | (rw [x_kd_nO, if_neg (by omega)]; exact (y2.kd (by omega)).trans hk.1) | (simp only [x_kd_sI, x_kd_sR]; first | exact hk5.1 | exact hk5.1) | exact (y24.kd (by omega)).trans hk.1) (hn) ?_
  obtain ⟨_, h2, ⟨rfl, f2, hT2⟩, hc2⟩ := c_splitX hG hk.2.2.2.2.1 (a := ca + 2) (n := K.length) hk.2.2.1.2.1 hk.2.2.1.2.2 h3
  have l2 : x_sz h ≤ x_sz h2 ∧ x_us h ≤ x_us h2 := f2.le
  have z2 : x_sz h2 = x_sz h := f2.1
  have u2 : x_us h2 = x_us h := f2.2.1
  have y2 : y_F h h2 (fun i b => b = ca + 3 ∧ (i = 801 ∨ i = 802)) (fun b => b = ca + 3 + 1) := y_F.X f2 (fun _ _ z => z) (fun _ z => z)
  rw [hC1, hC2] at hT2
  refine x_callV (a := ca + 3) (av := [x_r (some (ca + 2)), x_i (nI K.length)]) (rest := []) (r := none) (h1 := h2) dX9_walk_12 sX9_walk_44 hk.2.2.2.2.1.1 rfl rfl (Nat.le_of_ble_eq_true rfl) (by first | exact ⟨Nat.le_refl _, Nat.le_refl _⟩ | exact ⟨Nat.le_trans l5.1 hl.1.1.1, Nat.le_trans l5.2 hl.1.1.2.1⟩ | exact l5) (hc2) ?_
  show x_E _ _ _ _ 15 _ [] _
  refine x_new dX9_walk_15 nX9_walk_48 l2 ?_
  refine x_dup dX9_walk_18 rfl ?_
  refine x_aload_n (i := 0) (o := some ca) dX9_walk_19 rfl rfl ?_
  refine x_getRv (v := some (ca + 3)) dX9_walk_20 fX9_walk_26 (i := 904) rfl rfl (by first | exact hk.1 | exact hk5.1 | exact hk5.1 | (rw [x_kd_nO, if_neg (by omega)]; exact (y2.kd (by omega)).trans hk.1) | (simp only [x_kd_sI, x_kd_sR]; first | exact hk5.1 | exact hk5.1) | exact (y24.kd (by omega)).trans hk.1) (by rw [x_fr_nO, if_neg (by omega)]; exact (y2.fr (by omega) (by omega)).trans hk.2.2.2.1) ?_
  obtain ⟨_, h4, ⟨rfl, n4⟩, hc4⟩ := c_n_rd hG (h := x_nO h2 5 2) (rd := x_sz h2) rfl (by rw [x_kd_nO, if_pos rfl]) (ca + 3)
  obtain ⟨y4, z4, u4, b4, w4, bk4, a4⟩ := n4
  have y24 : y_F h h4 (fun i b => b = ca + 3 ∧ (i = 801 ∨ i = 802)) (fun b => b = ca + 3 + 1) := (y2.O 5 2).tr y4 (fun _ _ z => z) (fun i q hq z => by have := z.1; omega) (fun _ z => z) (fun _ _ z => z.elim)
  rw [x_us_nO] at u4
  have l4 : x_sz h ≤ x_sz h4 ∧ x_us h ≤ x_us h4 := y24.le
  have k4 : x_kd h4 (x_sz h2) = 5 := (y4.kd (Nat.lt_succ_self _)).trans (by rw [x_kd_nO, if_pos rfl])
  have hW4 : c_T h4 (ca + 3) L 0 C := hT2.F (by omega) (((y_F.rf : y_F h2 h2 (fun _ _ => False) (fun _ => False)).O 5 2).tr y4 (P := fun f q => q = x_sz h2) (R := fun _ => False) (fun _ _ z => z.elim) (fun _ _ _ z => z.1) (fun _ z => z) (fun _ _ z => z)) (by omega) (by omega) (fun z => z) ((y4.fi (by rw [x_sz_nO]; omega) (by omega)).trans (by rw [x_fi_nO, if_neg (by omega)]; exact hT2.2.2.1)) (Nat.zero_le _)
  refine x_callI (a := x_sz h2) (av := [x_r (some (ca + 3))]) (rest := [x_r (some (x_sz h2))]) (r := none) (h1 := h4) dX9_walk_23 sX9_walk_50 rfl rfl (Nat.le_of_ble_eq_true rfl) ⟨by rw [x_sz_nO]; omega, by rw [x_us_nO]; omega⟩ (hc4) ?_
  show x_E _ _ _ _ 26 _ [x_r (some (x_sz h2))] _
  refine x_astore_n (i := 3) (lv' := [(0, x_r (some ca)), (1, x_l day), (3, x_r (some (x_sz h2)))]) dX9_walk_26 rfl (by decide) rfl ?_
  refine x_aload_n (i := 3) (o := some (x_sz h2)) dX9_walk_27 rfl rfl ?_
  obtain ⟨_, h5, ⟨yF5, hT5, z5, u5, h5c⟩, hc5⟩ := c_readText hG hW4 (by omega) (rd := x_sz h2) (bk := x_sz h2 + 1) ⟨by omega, k4, w4⟩ b4 (bk4 C)
  obtain ⟨hz, rfl, rs, es, hb5, hrs, hes⟩ := h5c.resolve_right (fun z => by rw [hrd] at z; exact absurd z.1 (by decide))
  have hLn : L ≤ 1500 := hT5.2.2.2.1
  have hzL : (z_rd C L).2 ≤ L := hT5.2.2.2.2.1
  have y25 : y_F h h5 (fun i b => b = ca + 3 ∧ (i = 801 ∨ i = 802)) (fun b => b = ca + 3 + 1) := y24.tr yF5 (fun _ _ z => z) (fun i q hq z => by rcases z with z | z <;> omega) (fun _ z => z) (fun _ _ z => z.elim)
  have l5 : x_sz h ≤ x_sz h5 ∧ x_us h ≤ x_us h5 := y25.le
  have hk5 : k_P h5 ca := hk.Y hcl y25 (fun f a g1 g2 => by omega)
  have r5 : x_sz h5 ≤ x_sz h + 752 ∧ x_us h5 ≤ x_us h + 6759 := by have := yF5.1; have := yF5.2.1; omega
  have b5 : x_fr h5 500 (x_sz h2) = some (x_sz h2 + 1) := (yF5.fr (by omega) (by omega)).trans b4
  refine x_callV (a := x_sz h2) (av := []) (rest := []) (r := (some (x_i 1))) (h1 := h5) dX9_walk_28 sX9_walk_53 (by first | exact k4 | exact (yF5.kd (by omega)).trans k4) rfl rfl (Nat.le_of_ble_eq_true rfl) l4 (hc5) ?_
  show x_E _ _ _ _ 31 _ [x_i 1] _
  refine x_if_eq (tgt := 42) dX9_walk_31 (by decide) (fun c => absurd c (by decide)) (fun _ => ?_)
  refine x_aload_n (i := 0) (o := some ca) dX9_walk_34 rfl rfl ?_
  refine x_aload_n (i := 3) (o := some (x_sz h2)) dX9_walk_35 rfl rfl ?_
  refine x_getRv (v := some (x_sz h2 + 1)) dX9_walk_36 fX9_walk_60 (i := 500) rfl rfl (by first | exact k4 | exact (yF5.kd (by omega)).trans k4) (b5) ?_
  refine x_putR (i := 906) dX9_walk_39 pX9_walk_40 rfl rfl (by first | exact hk.1 | exact hk5.1 | exact hk5.1 | (rw [x_kd_nO, if_neg (by omega)]; exact (y2.kd (by omega)).trans hk.1) | (simp only [x_kd_sI, x_kd_sR]; first | exact hk5.1 | exact hk5.1) | exact (y24.kd (by omega)).trans hk.1) (Or.inl ⟨_, rfl⟩) ?_
  refine x_aload_n (i := 0) (o := some ca) dX9_walk_42 rfl rfl ?_
  refine x_getRv (v := some (x_sz h2 + 1)) dX9_walk_43 fX9_walk_40 (i := 906) rfl rfl (by first | exact hk.1 | exact hk5.1 | exact hk5.1 | (rw [x_kd_nO, if_neg (by omega)]; exact (y2.kd (by omega)).trans hk.1) | (simp only [x_kd_sI, x_kd_sR]; first | exact hk5.1 | exact hk5.1) | exact (y24.kd (by omega)).trans hk.1) (by rw [x_fr_sR, if_pos ⟨rfl, rfl⟩]) ?_
  refine x_lload_n (i := 1) (x := day) dX9_walk_46 rfl rfl ?_
  refine x_aload_n (i := 0) (o := some ca) dX9_walk_47 rfl rfl ?_
  refine x_getRv (v := some (ca + 5)) dX9_walk_48 fX9_walk_33 (i := 905) rfl rfl (by first | exact hk.1 | exact hk5.1 | exact hk5.1 | (rw [x_kd_nO, if_neg (by omega)]; exact (y2.kd (by omega)).trans hk.1) | (simp only [x_kd_sI, x_kd_sR]; first | exact hk5.1 | exact hk5.1) | exact (y24.kd (by omega)).trans hk.1) (by rw [x_fr_sR, if_neg (by omega)]; exact hk5.2.2.2.2.2.1) ?_
  have y6 : y_F h5 (x_sR h5 906 ca (some (x_sz h2 + 1))) (fun f a => a = ca ∧ f = 906) (fun _ => False) := y_F.rf.Rf (fun _ => ⟨rfl, rfl⟩)
  have y26 : y_F h (x_sR h5 906 ca (some (x_sz h2 + 1))) (fun f a => (a = ca ∧ f = 906) ∨ (a = ca + 3 ∧ (f = 801 ∨ f = 802)) ∨ f = 605 ∨ f = 106) (fun a => a = ca + 4) := (y25.mono (fun i q z => Or.inr (Or.inl z)) (fun q z => by omega)).Rf (fun _ => Or.inl ⟨rfl, rfl⟩)
  have hb6 : y_bk C (x_sR h5 906 ca (some (x_sz h2 + 1))) (x_sz h2 + 1) rs R es E := by subst hR0; subst hE0; exact hb5.F y6 (fun f a z => by omega)
  have hX6 : f_X (x_sR h5 906 ca (some (x_sz h2 + 1))) (ca + 5) X := hX.Y (by omega) y26 (by omega) (fun k g1 g2 => by omega)
  have hk6 : k_P (x_sR h5 906 ca (some (x_sz h2 + 1))) ca := hk5.Y (by omega) y6 (fun f a g1 g2 => by omega)
  have f6 : x_fr (x_sR h5 906 ca (some (x_sz h2 + 1))) 906 ca = some (x_sz h2 + 1) := by rw [x_fr_sR, if_pos ⟨rfl, rfl⟩]
  have q6 : x_sz (x_sR h5 906 ca (some (x_sz h2 + 1))) = x_sz h5 ∧ x_us (x_sR h5 906 ca (some (x_sz h2 + 1))) = x_us h5 := ⟨rfl, rfl⟩
  obtain ⟨_, h7, ⟨rfl, hl⟩, hc7⟩ := c_lookAt G hb6 hR hk6.2.2.2.2.2.2 hX6 (by omega) h60 day (z_lead_ed hE E.length (Nat.le_refl _) (z_lead_le day E)).symm
  refine x_callV (a := x_sz h2 + 1) (av := [x_l day, x_r (some (ca + 5))]) (rest := []) (r := (some (x_i (z_ra C R (z_V X C R (z_ed E day E.length) R.length) (z_OO X C R (z_ed E day E.length) R.length))))) (h1 := h7) dX9_walk_51 sX9_walk_86 (by rw [x_kd_sR]; exact hb5.1.2) rfl rfl (Nat.le_of_ble_eq_true rfl) ⟨by rw [q6.1]; exact l5.1, by rw [q6.2]; exact l5.2⟩ (hc7) ?_
  show x_E _ _ _ _ 54 _ [x_i (z_ra C R (z_V X C R (z_ed E day E.length) R.length) (z_OO X C R (z_ed E day E.length) R.length))] _
  refine x_ireturn dX9_walk_54 rfl (rfl) (by first | exact ⟨Nat.le_refl _, Nat.le_refl _⟩ | exact ⟨Nat.le_trans l5.1 hl.1.1.1, Nat.le_trans l5.2 hl.1.1.2.1⟩ | exact l5) ?_
  obtain ⟨⟨m1, m2, m3, m4⟩, m5⟩ := hl
  refine ⟨rfl, y26.tr m1 (fun _ _ z => z) (fun i q _ z => by rcases z with z | z <;> omega) (fun _ z => z) (fun _ _ z => z.elim), ?_, x_sz h2 + 1, rs, es, (m1.fr (by omega) (by omega)).trans f6, hb6.F m1 (fun f a z => by omega), m5, m4⟩
  rw [m2, m3, q6.1, q6.2]
  exact r5
