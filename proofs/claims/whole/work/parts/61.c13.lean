/-! THE CLASS: Book: addEdition, leastNextDay; Reader: readDay -/
theorem y_nO_F0 {h : x_H} {k n : Nat} {P : Nat → Nat → Prop} {R : Nat → Prop} : y_F h (x_nO h k n) P R := y_F.rf.O k n
theorem x_nO_k0 {h : x_H} {k n : Nat} : x_kd (x_nO h k n) (x_sz h) = k := by rw [x_kd_nO, if_pos rfl]
def z_ln (E : List Int32) : Int32 := match E.getLast? with
  | none => 0
  | some d => d + 1
theorem e_fin {C : Nat → Int32} {h h3 : x_H} {bk : Nat} {rs : List Nat} {R : List (Nat × Nat)} {es : List Nat} {E : List Int32} {d : Int32} (hb : y_bk C h bk rs R es E) (hz : x_sz h3 = x_sz h + 1) (k : y_F h h3 (fun f q => ((f = 103 ∨ f = 104 ∨ f = 105) ∧ q = bk) ∨ (f = 201 ∧ q ∈ es)) (fun _ => False)) (g0 : x_kd h3 (x_sz h) = 2) (g1 : x_fi h3 200 (x_sz h) = d) (g1b : x_fr h3 201 (x_sz h) = none) (g2 : x_fr h3 103 bk = (es ++ [x_sz h]).head?) (g3 : x_fr h3 104 bk = some (x_sz h)) (g4 : x_fi h3 105 bk = nI (E.length + 1)) (g5 : ∀ x, es.getLast? = some x → x_fr h3 201 x = some (x_sz h)) (g6 : ∀ x ∈ es, ¬ es.getLast? = some x → x_fr h3 201 x = x_fr h 201 x) : y_bk C h3 bk rs R (es ++ [x_sz h]) (E ++ [d]) := by
  obtain ⟨⟨b0, b1⟩, b2, b3, b4, b5, b6, b7, b8, b9⟩ := hb
  obtain ⟨s1, s2, s3, s4⟩ := b9
  refine ⟨⟨by omega, (k.kd b0).trans b1⟩, (k.fr b0 (by omega)).trans b2, (k.fr b0 (by omega)).trans b3, (k.fi b0 (by omega)).trans b4, g2, by rw [g3]; simp, by rw [g4, List.length_append]; rfl, b8.F k (fun f q z => by omega), ⟨by rw [List.length_append, List.length_append, s1]; rfl, y_in_add s2 (by omega) (Nat.le_refl _) (by omega), y_lk_add s3 s2.1 g1b g6 g5, fun j x q hj hq => ?_⟩⟩
  rcases Nat.lt_trichotomy j es.length with hl | hl | hl
  · rw [List.getElem?_append_left hl] at hj
    rw [List.getElem?_append_left (by omega)] at hq
    obtain ⟨m1, m2⟩ := s4 j x q hj hq
    have hxl := s2.2 x (List.mem_of_getElem? hj)
    exact ⟨(k.kd hxl).trans m1, (k.fi hxl (by omega)).trans m2⟩
  · subst hl
    rw [List.getElem?_append_right (by omega), Nat.sub_self] at hj
    rw [List.getElem?_append_right (by omega), show es.length - E.length = 0 by omega] at hq
    cases hj
    cases hq
    exact ⟨g0, g1⟩
  · rw [List.getElem?_eq_none (by simp; omega)] at hj
    cases hj
set_option maxHeartbeats 4000000 in
set_option maxRecDepth 100000 in
theorem c_addEditionL (G : x_G) {C : Nat → Int32} {h : x_H} {bk : Nat} {rs : List Nat} {R : List (Nat × Nat)} {es : List Nat} {E : List Int32} (hb : y_bk C h bk rs R es E) (d : Int32) : x_Ex G mX0_addEdition h [x_r (some bk), x_i d] (fun rr h3 => rr = none ∧ (x_sz h3 = x_sz h + 1 ∧ x_us h3 = x_us h + 2) ∧ y_F h h3 (fun f q => ((f = 103 ∨ f = 104 ∨ f = 105) ∧ q = bk) ∨ (f = 201 ∧ q ∈ es)) (fun _ => False) ∧ y_bk C h3 bk rs R (es ++ [x_sz h]) (E ++ [d])) := by
  obtain ⟨⟨b0, b1⟩, b2, b3, b4, b5, b6, b7, b8, b9⟩ := hb
  refine x_enter mwX0_addEdition (Nat.le_of_ble_eq_true rfl) ?_
  show x_E _ _ _ _ _ [(0, x_r (some bk)), (1, x_i d)] _ _
  rcases List.eq_nil_or_concat es with rfl | ⟨l0, l, rfl⟩
  · skip
    refine x_new dX0_addEdition_0 nX0_addEdition_36 ⟨Nat.le_refl _, Nat.le_refl _⟩ ?_
    show x_E _ _ _ _ 3 _ [x_r (some (x_sz h))] _
    refine x_dup dX0_addEdition_3 rfl ?_
    refine x_iload_n (i := 1) (x := d) dX0_addEdition_4 rfl rfl ?_
    obtain ⟨_, g, ⟨rfl, hob⟩, hca⟩ := c_n_ed G (h := x_nO h 2 2) (t := x_sz h) x_nO_k0 d
    refine x_callI (a := x_sz h) (av := [x_i d]) (rest := [x_r (some (x_sz h))]) (r := none) (h1 := g) dX0_addEdition_5 sX0_addEdition_40 rfl rfl (Nat.le_of_ble_eq_true rfl) (y_nO_F0 (P := fun _ _ => False) (R := fun _ => False)).le (hca) ?_
    show x_E _ _ _ _ 8 _ [x_r (some (x_sz h))] _
    have hFg : y_F h g (fun _ _ => False) (fun _ => False) := y_nO_F0.ob hob (Nat.le_refl _)
    have hfi := hob.2.2.2.2.2.2.2.2.1
    have hfr := hob.2.2.2.2.2.2.2.2.2
    have hsg : x_sz g = x_sz h + 1 := hob.1
    have hug : x_us g = x_us h + 2 := hob.2.1
    have hke : x_kd g (x_sz h) = 2 := (congrFun hob.2.2.1 _).trans x_nO_k0
    have hkb : x_kd g bk = 1 := (hFg.kd b0).trans b1
    have hl4 : x_fr g 104 bk = ([] : List Nat).getLast? := (hFg.fr b0 (fun z => z)).trans b6
    have hl5 : x_fi g 105 bk = nI E.length := (hFg.fi b0 (fun z => z)).trans b7
    have hl3 : x_fr g 103 bk = ([] : List Nat).head? := (hFg.fr b0 (fun z => z)).trans b5
    refine x_astore_n (i := 2) (lv' := [(0, x_r (some bk)), (1, x_i d), (2, x_r (some (x_sz h)))]) dX0_addEdition_8 rfl (by decide) rfl ?_
    
    refine x_aload_n (i := 0) (o := some bk) dX0_addEdition_9 rfl rfl ?_
    refine x_getRv (v := none) dX0_addEdition_10 fX0_addEdition_26 (i := 104) rfl rfl (by first | (simp only [x_kd_sI, x_kd_sR, x_kd_sA]; exact hkb) | exact hkb) (hl4) ?_
    refine x_ifnonnull (o := none) (tgt := 24) dX0_addEdition_13 (by decide) (fun _ c => absurd c (by simp)) (fun _ => ?_)
    refine x_aload_n (i := 0) (o := some bk) dX0_addEdition_16 rfl rfl ?_
    refine x_aload_n (i := 2) (o := some (x_sz h)) dX0_addEdition_17 rfl rfl ?_
    refine x_putR (i := 103) dX0_addEdition_18 pX0_addEdition_22 rfl rfl (by first | (simp only [x_kd_sI, x_kd_sR, x_kd_sA]; exact hkb) | exact hkb) (Or.inl ⟨_, rfl⟩) ?_
    refine x_goto (tgt := 32) dX0_addEdition_21 (by decide) ?_
    refine x_aload_n (i := 0) (o := some bk) dX0_addEdition_32 rfl rfl ?_
    refine x_aload_n (i := 2) (o := some (x_sz h)) dX0_addEdition_33 rfl rfl ?_
    refine x_putR (i := 104) dX0_addEdition_34 pX0_addEdition_26 rfl rfl (by first | (simp only [x_kd_sI, x_kd_sR, x_kd_sA]; exact hkb) | exact hkb) (Or.inl ⟨_, rfl⟩) ?_
    refine x_aload_n (i := 0) (o := some bk) dX0_addEdition_37 rfl rfl ?_
    refine x_dup dX0_addEdition_38 rfl ?_
    refine x_getIv (v := nI E.length) dX0_addEdition_39 fX0_addEdition_29 (i := 105) rfl rfl (by first | (simp only [x_kd_sI, x_kd_sR, x_kd_sA]; exact hkb) | exact hkb) (by first | (simp only [x_fi_sR]; exact hl5) | exact hl5) ?_
    refine x_iconst (v := 1) dX0_addEdition_42 (by decide) ?_
    refine x_iadd dX0_addEdition_43 ?_
    rw [show (nI E.length) + 1 = nI (E.length + 1) from nI_1 _]
    refine x_putI (i := 105) dX0_addEdition_44 pX0_addEdition_29 rfl rfl (by first | (simp only [x_kd_sI, x_kd_sR, x_kd_sA]; exact hkb) | exact hkb) (rfl) (by rfl) ?_
    refine x_return dX0_addEdition_47 rfl (by first | exact hFg.le | (simp only [x_sz_sI, x_sz_sR, x_us_sI, x_us_sR]; exact hFg.le)) ?_
    have kF : y_F h (x_sI (x_sR (x_sR g 103 bk (some (x_sz h))) 104 bk (some (x_sz h))) 105 bk (nI (E.length + 1))) (fun f q => ((f = 103 ∨ f = 104 ∨ f = 105) ∧ q = bk) ∨ (f = 201 ∧ q ∈ ([] : List Nat))) (fun _ => False) := ((hFg.mono (fun _ _ z => z.elim) (fun _ z => z)).Rf (fun _ => Or.inl ⟨by omega, rfl⟩)).Rf (fun _ => Or.inl ⟨by omega, rfl⟩) |>.I (fun _ => Or.inl ⟨by omega, rfl⟩)
    refine ⟨rfl, ⟨by simp only [x_sz_sI, x_sz_sR]; exact hsg, by simp only [x_us_sI, x_us_sR]; exact hug⟩, kF, e_fin ⟨⟨b0, b1⟩, b2, b3, b4, b5, b6, b7, b8, b9⟩ (by simp only [x_sz_sI, x_sz_sR]; exact hsg) kF ?_ ?_ ?_ ?_ ?_ ?_ (fun x hx => by simp at hx) (fun x hx => by simp at hx)⟩
    · simp only [x_kd_sI, x_kd_sR]
      exact hke
    · rw [x_fi_sI, if_neg (by omega), x_fi_sR, x_fi_sR]
      exact hfi 200
    · rw [x_fr_sI, x_fr_sR, if_neg (by omega), x_fr_sR, if_neg (by omega)]
      exact hfr 201
    · rw [x_fr_sI, x_fr_sR, if_neg (by omega), x_fr_sR, if_pos ⟨rfl, rfl⟩]
      rfl
    · rw [x_fr_sI, x_fr_sR, if_pos ⟨rfl, rfl⟩]
    · rw [x_fi_sI, if_pos ⟨rfl, rfl⟩]
  · rw [List.concat_eq_append] at *
    have hm : l ∈ l0 ++ [l] := by simp
    have b6 : x_fr h 104 bk = some l := by rw [b6]; simp
    have hkl0 : x_kd h l = 2 := by
      obtain ⟨q, hq⟩ : ∃ q, E[l0.length]? = some q := ⟨_, List.getElem?_eq_getElem (by rw [← b9.1]; simp)⟩
      exact (b9.2.2.2 l0.length l q (by simp) hq).1
    refine x_new dX0_addEdition_0 nX0_addEdition_36 ⟨Nat.le_refl _, Nat.le_refl _⟩ ?_
    show x_E _ _ _ _ 3 _ [x_r (some (x_sz h))] _
    refine x_dup dX0_addEdition_3 rfl ?_
    refine x_iload_n (i := 1) (x := d) dX0_addEdition_4 rfl rfl ?_
    obtain ⟨_, g, ⟨rfl, hob⟩, hca⟩ := c_n_ed G (h := x_nO h 2 2) (t := x_sz h) x_nO_k0 d
    refine x_callI (a := x_sz h) (av := [x_i d]) (rest := [x_r (some (x_sz h))]) (r := none) (h1 := g) dX0_addEdition_5 sX0_addEdition_40 rfl rfl (Nat.le_of_ble_eq_true rfl) (y_nO_F0 (P := fun _ _ => False) (R := fun _ => False)).le (hca) ?_
    show x_E _ _ _ _ 8 _ [x_r (some (x_sz h))] _
    have hFg : y_F h g (fun _ _ => False) (fun _ => False) := y_nO_F0.ob hob (Nat.le_refl _)
    have hfi := hob.2.2.2.2.2.2.2.2.1
    have hfr := hob.2.2.2.2.2.2.2.2.2
    have hsg : x_sz g = x_sz h + 1 := hob.1
    have hug : x_us g = x_us h + 2 := hob.2.1
    have hke : x_kd g (x_sz h) = 2 := (congrFun hob.2.2.1 _).trans x_nO_k0
    have hkb : x_kd g bk = 1 := (hFg.kd b0).trans b1
    have hl4 : x_fr g 104 bk = some l := (hFg.fr b0 (fun z => z)).trans b6
    have hkl : x_kd g l = 2 := (hFg.kd (b9.2.1.2 l hm)).trans hkl0
    have hl5 : x_fi g 105 bk = nI E.length := (hFg.fi b0 (fun z => z)).trans b7
    have hl3 : x_fr g 103 bk = (l0 ++ [l]).head? := (hFg.fr b0 (fun z => z)).trans b5
    refine x_astore_n (i := 2) (lv' := [(0, x_r (some bk)), (1, x_i d), (2, x_r (some (x_sz h)))]) dX0_addEdition_8 rfl (by decide) rfl ?_
    
    refine x_aload_n (i := 0) (o := some bk) dX0_addEdition_9 rfl rfl ?_
    refine x_getRv (v := some l) dX0_addEdition_10 fX0_addEdition_26 (i := 104) rfl rfl (by first | (simp only [x_kd_sI, x_kd_sR, x_kd_sA]; exact hkb) | exact hkb) (hl4) ?_
    refine x_ifnonnull (o := some l) (tgt := 24) dX0_addEdition_13 (by decide) (fun _ _ => ?_) (fun c => absurd c (by simp))
    refine x_aload_n (i := 0) (o := some bk) dX0_addEdition_24 rfl rfl ?_
    refine x_getRv (v := some l) dX0_addEdition_25 fX0_addEdition_26 (i := 104) rfl rfl (by first | (simp only [x_kd_sI, x_kd_sR, x_kd_sA]; exact hkb) | exact hkb) (hl4) ?_
    refine x_aload_n (i := 2) (o := some (x_sz h)) dX0_addEdition_28 rfl rfl ?_
    refine x_putR (i := 201) dX0_addEdition_29 pX0_addEdition_43 rfl rfl (by first | (simp only [x_kd_sI, x_kd_sR, x_kd_sA]; exact hkl) | exact hkl) (Or.inl ⟨_, rfl⟩) ?_
    refine x_aload_n (i := 0) (o := some bk) dX0_addEdition_32 rfl rfl ?_
    refine x_aload_n (i := 2) (o := some (x_sz h)) dX0_addEdition_33 rfl rfl ?_
    refine x_putR (i := 104) dX0_addEdition_34 pX0_addEdition_26 rfl rfl (by first | (simp only [x_kd_sI, x_kd_sR, x_kd_sA]; exact hkb) | exact hkb) (Or.inl ⟨_, rfl⟩) ?_
    refine x_aload_n (i := 0) (o := some bk) dX0_addEdition_37 rfl rfl ?_
    refine x_dup dX0_addEdition_38 rfl ?_
    refine x_getIv (v := nI E.length) dX0_addEdition_39 fX0_addEdition_29 (i := 105) rfl rfl (by first | (simp only [x_kd_sI, x_kd_sR, x_kd_sA]; exact hkb) | exact hkb) (by first | (simp only [x_fi_sR]; exact hl5) | exact hl5) ?_
    refine x_iconst (v := 1) dX0_addEdition_42 (by decide) ?_
    refine x_iadd dX0_addEdition_43 ?_
    rw [show (nI E.length) + 1 = nI (E.length + 1) from nI_1 _]
    refine x_putI (i := 105) dX0_addEdition_44 pX0_addEdition_29 rfl rfl (by first | (simp only [x_kd_sI, x_kd_sR, x_kd_sA]; exact hkb) | exact hkb) (rfl) (by rfl) ?_
    refine x_return dX0_addEdition_47 rfl (by first | exact hFg.le | (simp only [x_sz_sI, x_sz_sR, x_us_sI, x_us_sR]; exact hFg.le)) ?_
    have kF : y_F h (x_sI (x_sR (x_sR g 201 l (some (x_sz h))) 104 bk (some (x_sz h))) 105 bk (nI (E.length + 1))) (fun f q => ((f = 103 ∨ f = 104 ∨ f = 105) ∧ q = bk) ∨ (f = 201 ∧ q ∈ (l0 ++ [l] : List Nat))) (fun _ => False) := ((hFg.mono (fun _ _ z => z.elim) (fun _ z => z)).Rf (fun _ => Or.inr ⟨rfl, hm⟩)).Rf (fun _ => Or.inl ⟨by omega, rfl⟩) |>.I (fun _ => Or.inl ⟨by omega, rfl⟩)
    refine ⟨rfl, ⟨by simp only [x_sz_sI, x_sz_sR]; exact hsg, by simp only [x_us_sI, x_us_sR]; exact hug⟩, kF, e_fin ⟨⟨b0, b1⟩, b2, b3, b4, b5, b6.trans (by simp), b7, b8, b9⟩ (by simp only [x_sz_sI, x_sz_sR]; exact hsg) kF ?_ ?_ ?_ ?_ ?_ ?_ (fun x hx => by
          have : x = l := by simpa using hx.symm
          subst this
          rw [x_fr_sI, x_fr_sR, if_neg (by omega), x_fr_sR, if_pos ⟨rfl, rfl⟩]) (fun x hx hx2 => by
          rw [x_fr_sI, x_fr_sR, if_neg (by omega), x_fr_sR, if_neg (fun z => hx2 (by rw [z.2]; simp))]
          exact hFg.fr (b9.2.1.2 x hx) (fun z => z))⟩
    · simp only [x_kd_sI, x_kd_sR]
      exact hke
    · rw [x_fi_sI, if_neg (by omega), x_fi_sR, x_fi_sR]
      exact hfi 200
    · rw [x_fr_sI, x_fr_sR, if_neg (by omega), x_fr_sR, if_neg (fun z => by have := b9.2.1.2 l (by simp); omega)]
      exact hfr 201
    · rw [x_fr_sI, x_fr_sR, if_neg (by omega), x_fr_sR, if_neg (by omega), hl3]
      cases l0 <;> rfl
    · rw [x_fr_sI, x_fr_sR, if_pos ⟨rfl, rfl⟩]
    · rw [x_fi_sI, if_pos ⟨rfl, rfl⟩]
set_option maxHeartbeats 4000000 in
set_option maxRecDepth 100000 in
theorem c_leastNextDay (G : x_G) {C : Nat → Int32} {h : x_H} {bk : Nat} {rs : List Nat} {R : List (Nat × Nat)} {es : List Nat} {E : List Int32} (hb : y_bk C h bk rs R es E) : x_Call G mX0_leastNextDay h [x_r (some bk)] (some (x_i (z_ln E))) h := by
  obtain ⟨⟨b0, b1⟩, b2, b3, b4, b5, b6, b7, b8, b9⟩ := hb
  refine x_Ex.call (x_enter mwX0_leastNextDay (Nat.le_of_ble_eq_true rfl) ?_)
  show x_E _ _ _ _ _ [(0, x_r (some bk))] _ _
  rcases List.eq_nil_or_concat es with rfl | ⟨l0, l, rfl⟩
  · skip
    refine x_aload_n (i := 0) (o := some bk) dX0_leastNextDay_0 rfl rfl ?_
    refine x_getRv (v := none) dX0_leastNextDay_1 fX0_leastNextDay_26 (i := 104) rfl rfl b1 (b6) ?_
    refine x_ifnonnull (o := none) (tgt := 11) dX0_leastNextDay_4 (by decide) (fun _ c => absurd c (by simp)) (fun _ => ?_)
    refine x_iconst (v := 0) dX0_leastNextDay_7 (by decide) ?_
    refine x_goto (tgt := 20) dX0_leastNextDay_8 (by decide) ?_
    refine x_ireturn dX0_leastNextDay_20 rfl (rfl) ⟨Nat.le_refl _, Nat.le_refl _⟩ ?_
    refine ⟨?_, rfl⟩
    have : E = [] := List.length_eq_zero_iff.mp (by rw [← b9.1]; rfl)
    rw [this]
    rfl
  · rw [List.concat_eq_append] at *
    have b6 : x_fr h 104 bk = some l := by rw [b6]; simp
    have hl : l0.length + 1 = E.length := by rw [← b9.1]; simp
    obtain ⟨d, hd⟩ : ∃ d, E[l0.length]? = some d := ⟨_, List.getElem?_eq_getElem (by omega)⟩
    obtain ⟨hd1, hd2⟩ := b9.2.2.2 l0.length l d (by simp) hd
    have hE : E.getLast? = some d := by rw [List.getLast?_eq_getElem?, ← hl]; exact hd
    refine x_aload_n (i := 0) (o := some bk) dX0_leastNextDay_0 rfl rfl ?_
    refine x_getRv (v := some l) dX0_leastNextDay_1 fX0_leastNextDay_26 (i := 104) rfl rfl b1 (b6) ?_
    refine x_ifnonnull (o := some l) (tgt := 11) dX0_leastNextDay_4 (by decide) (fun _ _ => ?_) (fun c => absurd c (by simp))
    refine x_aload_n (i := 0) (o := some bk) dX0_leastNextDay_11 rfl rfl ?_
    refine x_getRv (v := some l) dX0_leastNextDay_12 fX0_leastNextDay_26 (i := 104) rfl rfl b1 (b6) ?_
    refine x_getIv (v := d) dX0_leastNextDay_15 fX0_leastNextDay_35 (i := 200) rfl rfl hd1 (hd2) ?_
    refine x_iconst (v := 1) dX0_leastNextDay_18 (by decide) ?_
    refine x_iadd dX0_leastNextDay_19 ?_
    refine x_ireturn dX0_leastNextDay_20 rfl (rfl) ⟨Nat.le_refl _, Nat.le_refl _⟩ ?_
    refine ⟨?_, rfl⟩
    unfold z_ln
    rw [hE]
