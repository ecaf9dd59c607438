/-! THE CLASS: Book: addRule, addEdition, leastNextDay -/
set_option maxHeartbeats 4000000 in
set_option maxRecDepth 100000 in
theorem c_addRule_0 (G : x_G) {h : x_H} {bk r m e : Nat} (hk : x_kd h bk = 1) (hr : x_kd h r = 6) (hm : x_fi h 102 bk = nI m) (he : x_fi h 105 bk = nI e) (he1 : 1 ≤ e) (h1 : x_fr h 101 bk = none) : x_Call G mX0_addRule h [x_r (some bk), x_r (some r)] none (x_sI (x_sR (x_sR (x_sI (x_sI h 602 r (nI m)) 603 r (nI (e - 1))) 100 bk (some r)) 101 bk (some r)) 102 bk (nI (m + 1))) := by
  refine x_Ex.call (x_enter mwX0_addRule (Nat.le_of_ble_eq_true rfl) ?_)
  show x_E _ _ _ _ _ [(0, x_r (some bk)), (1, x_r (some r))] _ _
  refine x_aload_n (i := 1) (o := some r) dX0_addRule_0 rfl rfl ?_
  refine x_aload_n (i := 0) (o := some bk) dX0_addRule_1 rfl rfl ?_
  refine x_getIv (v := nI m) dX0_addRule_2 fX0_addRule_18 (i := 102) rfl rfl (by first | (simp only [x_kd_sI, x_kd_sR, x_kd_sA]; exact hk) | exact hk) (hm) ?_
  refine x_putI (i := 602) dX0_addRule_5 pX0_addRule_46 rfl rfl (by first | (simp only [x_kd_sI, x_kd_sR, x_kd_sA]; exact hr) | exact hr) (rfl) (by rfl) ?_
  refine x_aload_n (i := 1) (o := some r) dX0_addRule_8 rfl rfl ?_
  refine x_aload_n (i := 0) (o := some bk) dX0_addRule_9 rfl rfl ?_
  refine x_getIv (v := nI e) dX0_addRule_10 fX0_addRule_29 (i := 105) rfl rfl (by first | (simp only [x_kd_sI, x_kd_sR, x_kd_sA]; exact hk) | exact hk) (by rw [x_fi_sI, if_neg (by omega)]; exact he) ?_
  refine x_iconst (v := 1) dX0_addRule_13 (by decide) ?_
  refine x_isub dX0_addRule_14 ?_
  rw [show (nI e) - 1 = nI (e - 1) from pk_sub (b := 1) he1]
  refine x_putI (i := 603) dX0_addRule_15 pX0_addRule_51 rfl rfl (by first | (simp only [x_kd_sI, x_kd_sR, x_kd_sA]; exact hr) | exact hr) (rfl) (by rfl) ?_
  refine x_aload_n (i := 0) (o := some bk) dX0_addRule_18 rfl rfl ?_
  refine x_getRv (v := none) dX0_addRule_19 fX0_addRule_15 (i := 101) rfl rfl (by first | (simp only [x_kd_sI, x_kd_sR, x_kd_sA]; exact hk) | exact hk) (by first | (simp only [x_fr_sI]; exact h1) | exact h1) ?_
  refine x_ifnonnull (o := none) (tgt := 33) dX0_addRule_22 (by decide) (fun _ c => absurd c (by simp)) (fun _ => ?_)
  refine x_aload_n (i := 0) (o := some bk) dX0_addRule_25 rfl rfl ?_
  refine x_aload_n (i := 1) (o := some r) dX0_addRule_26 rfl rfl ?_
  refine x_putR (i := 100) dX0_addRule_27 pX0_addRule_9 rfl rfl (by first | (simp only [x_kd_sI, x_kd_sR, x_kd_sA]; exact hk) | exact hk) (Or.inl ⟨_, rfl⟩) ?_
  refine x_goto (tgt := 41) dX0_addRule_30 (by decide) ?_
  refine x_aload_n (i := 0) (o := some bk) dX0_addRule_41 rfl rfl ?_
  refine x_aload_n (i := 1) (o := some r) dX0_addRule_42 rfl rfl ?_
  refine x_putR (i := 101) dX0_addRule_43 pX0_addRule_15 rfl rfl (by first | (simp only [x_kd_sI, x_kd_sR, x_kd_sA]; exact hk) | exact hk) (Or.inl ⟨_, rfl⟩) ?_
  refine x_aload_n (i := 0) (o := some bk) dX0_addRule_46 rfl rfl ?_
  refine x_dup dX0_addRule_47 rfl ?_
  refine x_getIv (v := nI m) dX0_addRule_48 fX0_addRule_18 (i := 102) rfl rfl (by first | (simp only [x_kd_sI, x_kd_sR, x_kd_sA]; exact hk) | exact hk) (by simp only [x_fi_sR, x_fi_sI]; rw [if_neg (by omega), if_neg (by omega)]; exact hm) ?_
  refine x_iconst (v := 1) dX0_addRule_51 (by decide) ?_
  refine x_iadd dX0_addRule_52 ?_
  rw [show (nI m) + 1 = nI (m + 1) from nI_1 m]
  refine x_putI (i := 102) dX0_addRule_53 pX0_addRule_18 rfl rfl (by first | (simp only [x_kd_sI, x_kd_sR, x_kd_sA]; exact hk) | exact hk) (rfl) (by rfl) ?_
  refine x_return dX0_addRule_56 rfl (by simp only [x_sz_sI, x_sz_sR, x_us_sI, x_us_sR]; exact ⟨Nat.le_refl _, Nat.le_refl _⟩) ?_
  exact ⟨rfl, rfl⟩
set_option maxHeartbeats 4000000 in
set_option maxRecDepth 100000 in
theorem c_addRule_1 (G : x_G) {h : x_H} {bk r m e l : Nat} (hk : x_kd h bk = 1) (hr : x_kd h r = 6) (hm : x_fi h 102 bk = nI m) (he : x_fi h 105 bk = nI e) (he1 : 1 ≤ e) (h1 : x_fr h 101 bk = some l) (hl : x_kd h l = 6) : x_Call G mX0_addRule h [x_r (some bk), x_r (some r)] none (x_sI (x_sR (x_sR (x_sI (x_sI h 602 r (nI m)) 603 r (nI (e - 1))) 606 l (some r)) 101 bk (some r)) 102 bk (nI (m + 1))) := by
  refine x_Ex.call (x_enter mwX0_addRule (Nat.le_of_ble_eq_true rfl) ?_)
  show x_E _ _ _ _ _ [(0, x_r (some bk)), (1, x_r (some r))] _ _
  refine x_aload_n (i := 1) (o := some r) dX0_addRule_0 rfl rfl ?_
  refine x_aload_n (i := 0) (o := some bk) dX0_addRule_1 rfl rfl ?_
  refine x_getIv (v := nI m) dX0_addRule_2 fX0_addRule_18 (i := 102) rfl rfl (by first | (simp only [x_kd_sI, x_kd_sR, x_kd_sA]; exact hk) | exact hk) (hm) ?_
  refine x_putI (i := 602) dX0_addRule_5 pX0_addRule_46 rfl rfl (by first | (simp only [x_kd_sI, x_kd_sR, x_kd_sA]; exact hr) | exact hr) (rfl) (by rfl) ?_
  refine x_aload_n (i := 1) (o := some r) dX0_addRule_8 rfl rfl ?_
  refine x_aload_n (i := 0) (o := some bk) dX0_addRule_9 rfl rfl ?_
  refine x_getIv (v := nI e) dX0_addRule_10 fX0_addRule_29 (i := 105) rfl rfl (by first | (simp only [x_kd_sI, x_kd_sR, x_kd_sA]; exact hk) | exact hk) (by rw [x_fi_sI, if_neg (by omega)]; exact he) ?_
  refine x_iconst (v := 1) dX0_addRule_13 (by decide) ?_
  refine x_isub dX0_addRule_14 ?_
  rw [show (nI e) - 1 = nI (e - 1) from pk_sub (b := 1) he1]
  refine x_putI (i := 603) dX0_addRule_15 pX0_addRule_51 rfl rfl (by first | (simp only [x_kd_sI, x_kd_sR, x_kd_sA]; exact hr) | exact hr) (rfl) (by rfl) ?_
  refine x_aload_n (i := 0) (o := some bk) dX0_addRule_18 rfl rfl ?_
  refine x_getRv (v := some l) dX0_addRule_19 fX0_addRule_15 (i := 101) rfl rfl (by first | (simp only [x_kd_sI, x_kd_sR, x_kd_sA]; exact hk) | exact hk) (by first | (simp only [x_fr_sI]; exact h1) | exact h1) ?_
  refine x_ifnonnull (o := some l) (tgt := 33) dX0_addRule_22 (by decide) (fun _ _ => ?_) (fun c => absurd c (by simp))
  refine x_aload_n (i := 0) (o := some bk) dX0_addRule_33 rfl rfl ?_
  refine x_getRv (v := some l) dX0_addRule_34 fX0_addRule_15 (i := 101) rfl rfl (by first | (simp only [x_kd_sI, x_kd_sR, x_kd_sA]; exact hk) | exact hk) (by first | (simp only [x_fr_sI]; exact h1) | exact h1) ?_
  refine x_aload_n (i := 1) (o := some r) dX0_addRule_37 rfl rfl ?_
  refine x_putR (i := 606) dX0_addRule_38 pX0_addRule_54 rfl rfl (by first | (simp only [x_kd_sI, x_kd_sR, x_kd_sA]; exact hl) | exact hl) (Or.inl ⟨_, rfl⟩) ?_
  refine x_aload_n (i := 0) (o := some bk) dX0_addRule_41 rfl rfl ?_
  refine x_aload_n (i := 1) (o := some r) dX0_addRule_42 rfl rfl ?_
  refine x_putR (i := 101) dX0_addRule_43 pX0_addRule_15 rfl rfl (by first | (simp only [x_kd_sI, x_kd_sR, x_kd_sA]; exact hk) | exact hk) (Or.inl ⟨_, rfl⟩) ?_
  refine x_aload_n (i := 0) (o := some bk) dX0_addRule_46 rfl rfl ?_
  refine x_dup dX0_addRule_47 rfl ?_
  refine x_getIv (v := nI m) dX0_addRule_48 fX0_addRule_18 (i := 102) rfl rfl (by first | (simp only [x_kd_sI, x_kd_sR, x_kd_sA]; exact hk) | exact hk) (by simp only [x_fi_sR, x_fi_sI]; rw [if_neg (by omega), if_neg (by omega)]; exact hm) ?_
  refine x_iconst (v := 1) dX0_addRule_51 (by decide) ?_
  refine x_iadd dX0_addRule_52 ?_
  rw [show (nI m) + 1 = nI (m + 1) from nI_1 m]
  refine x_putI (i := 102) dX0_addRule_53 pX0_addRule_18 rfl rfl (by first | (simp only [x_kd_sI, x_kd_sR, x_kd_sA]; exact hk) | exact hk) (rfl) (by rfl) ?_
  refine x_return dX0_addRule_56 rfl (by simp only [x_sz_sI, x_sz_sR, x_us_sI, x_us_sR]; exact ⟨Nat.le_refl _, Nat.le_refl _⟩) ?_
  exact ⟨rfl, rfl⟩
/-- a rule is put behind the others -/
theorem c_addRuleL (G : x_G) {C : Nat → Int32} {h : x_H} {bk r a : Nat} {rs : List Nat} {R : List (Nat × Nat)} {es : List Nat} {E : List Int32} (hb : y_bk C h bk rs R es E) (hE : 1 ≤ E.length) (hr : r < x_sz h ∧ x_kd h r = 6) (hgt : ∀ x ∈ rs, x < r) (f0 : x_fi h 600 r = C (a + 1)) (f1 : x_fi h 601 r = nI a) (f4 : x_fi h 604 r = nI (z_its C (a, E.length - 1)).length) (f6 : x_fr h 606 r = none) {ts : List Nat} (f7 : x_fr h 607 r = ts.head?) (hts : y_is C h ts (z_its C (a, E.length - 1))) : x_Ex G mX0_addRule h [x_r (some bk), x_r (some r)] (fun rr h3 => rr = none ∧ (x_sz h3 = x_sz h ∧ x_us h3 = x_us h) ∧ y_F h h3 (fun f q => ((f = 100 ∨ f = 101 ∨ f = 102) ∧ q = bk) ∨ ((f = 602 ∨ f = 603) ∧ q = r) ∨ (f = 606 ∧ q ∈ rs)) (fun _ => False) ∧ y_bk C h3 bk (rs ++ [r]) (R ++ [(a, E.length - 1)]) es E) := by
  obtain ⟨⟨b0, b1⟩, b2, b3, b4, b5, b6, b7, b8, b9⟩ := hb
  have fin : ∀ h3, (x_sz h3 = x_sz h ∧ x_us h3 = x_us h) → y_F h h3 (fun f q => ((f = 100 ∨ f = 101 ∨ f = 102) ∧ q = bk) ∨ ((f = 602 ∨ f = 603) ∧ q = r) ∨ (f = 606 ∧ q ∈ rs)) (fun _ => False) → (x_fi h3 602 r = nI R.length ∧ x_fi h3 603 r = nI (E.length - 1)) → x_fr h3 100 bk = (rs ++ [r]).head? → x_fr h3 101 bk = some r → x_fi h3 102 bk = nI (R.length + 1) → (∀ x, rs.getLast? = some x → x_fr h3 606 x = some r) → (∀ x ∈ rs, ¬ rs.getLast? = some x → x_fr h3 606 x = x_fr h 606 x) → y_bk C h3 bk (rs ++ [r]) (R ++ [(a, E.length - 1)]) es E := by
    intro h3 hz k g1 g2 g3 g4 g5 g6
    obtain ⟨s1, s2, s3, s4⟩ := b8
    have hrr : ¬ r ∈ rs := fun z => absurd (hgt r z) (Nat.lt_irrefl _)
    refine ⟨⟨by omega, (k.kd b0).trans b1⟩, g2, by rw [g3]; simp, by rw [g4, List.length_append]; rfl, (k.fr b0 (by omega)).trans b5, (k.fr b0 (by omega)).trans b6, (k.fi b0 (by omega)).trans b7, ⟨by rw [List.length_append, List.length_append, s1]; rfl, ⟨List.pairwise_append.mpr ⟨s2.1, List.pairwise_singleton _ _, fun x hx y hy => ?_⟩, fun x hx => ?_⟩, y_lk_add s3 s2.1 ?_ g6 g5, fun j x q hj hq => ?_⟩, b9.F k (fun f q z => by omega)⟩
    · cases List.mem_singleton.mp hy
      exact hgt x hx
    · rw [hz.1]
      rcases List.mem_append.mp hx with hx | hx
      · exact s2.2 x hx
      · cases List.mem_singleton.mp hx
        exact hr.1
    · rw [k.fr hr.1 (fun z => by
        rcases z with z | z | z
        · omega
        · omega
        · exact hrr z.2)]
      exact f6
    · rcases Nat.lt_trichotomy j rs.length with hl | hl | hl
      · rw [List.getElem?_append_left hl] at hj
        rw [List.getElem?_append_left (by omega)] at hq
        obtain ⟨m1, m2, m3, m4, m5, m6, t2, m7, m8⟩ := s4 j x q hj hq
        have hx := List.mem_of_getElem? hj
        have hxl := s2.2 x hx
        have hxr : ¬ x = r := fun z => hrr (z ▸ hx)
        refine ⟨(k.kd hxl).trans m1, (k.fi hxl (by omega)).trans m2, (k.fi hxl (by omega)).trans m3, (k.fi hxl (by omega)).trans m4, (k.fi hxl (by omega)).trans m5, (k.fi hxl (by omega)).trans m6, t2, m7.F k (fun f b z => by omega), (k.fr hxl (by omega)).trans m8⟩
      · subst hl
        rw [List.getElem?_append_right (by omega), Nat.sub_self] at hj
        rw [List.getElem?_append_right (by omega), show rs.length - R.length = 0 by omega] at hq
        cases hj
        cases hq
        refine ⟨(k.kd hr.1).trans hr.2, (k.fi hr.1 (by omega)).trans f0, (k.fi hr.1 (by omega)).trans f1, by rw [s1]; exact g1.1, g1.2, (k.fi hr.1 (by omega)).trans f4, ts, hts.F k (fun f b z => by omega), (k.fr hr.1 (by omega)).trans f7⟩
      · rw [List.getElem?_eq_none (by simp; omega)] at hj
        cases hj
  rcases List.eq_nil_or_concat rs with rfl | ⟨l0, l, rfl⟩
  · have kF : y_F h (x_sI (x_sR (x_sR (x_sI (x_sI h 602 r (nI R.length)) 603 r (nI (E.length - 1))) 100 bk (some r)) 101 bk (some r)) 102 bk (nI (R.length + 1))) (fun f q => ((f = 100 ∨ f = 101 ∨ f = 102) ∧ q = bk) ∨ ((f = 602 ∨ f = 603) ∧ q = r) ∨ (f = 606 ∧ q ∈ ([] : List Nat))) (fun _ => False) := ((((y_F.rf.I (fun _ => Or.inr (Or.inl ⟨by omega, rfl⟩))).I (fun _ => Or.inr (Or.inl ⟨by omega, rfl⟩))).Rf (fun _ => Or.inl ⟨by omega, rfl⟩)).Rf (fun _ => Or.inl ⟨by omega, rfl⟩)).I (fun _ => Or.inl ⟨by omega, rfl⟩)
    refine ⟨none, x_sI (x_sR (x_sR (x_sI (x_sI h 602 r (nI R.length)) 603 r (nI (E.length - 1))) 100 bk (some r)) 101 bk (some r)) 102 bk (nI (R.length + 1)), ⟨rfl, ⟨by simp only [x_sz_sI, x_sz_sR], by simp only [x_us_sI, x_us_sR]⟩, kF, fin _ ⟨by simp only [x_sz_sI, x_sz_sR], by simp only [x_us_sI, x_us_sR]⟩ kF ⟨?_, ?_⟩ ?_ ?_ ?_ (fun x hx => by simp at hx) (fun x hx => by simp at hx)⟩, c_addRule_0 G b1 hr.2 b4 b7 hE b3⟩
    · rw [x_fi_sI, if_neg (by omega), x_fi_sR, x_fi_sR, x_fi_sI, if_neg (by omega), x_fi_sI, if_pos ⟨rfl, rfl⟩]
    · rw [x_fi_sI, if_neg (by omega), x_fi_sR, x_fi_sR, x_fi_sI, if_pos ⟨rfl, rfl⟩]
    · rw [x_fr_sI, x_fr_sR, if_neg (by omega), x_fr_sR, if_pos ⟨rfl, rfl⟩]
      rfl
    · rw [x_fr_sI, x_fr_sR, if_pos ⟨rfl, rfl⟩]
    · rw [x_fi_sI, if_pos ⟨rfl, rfl⟩]
  · rw [List.concat_eq_append] at *
    have hm : l ∈ l0 ++ [l] := by simp
    have hl1 : x_fr h 101 bk = some l := by rw [b3]; simp
    have hkl : x_kd h l = 6 := by
      obtain ⟨q, hq⟩ : ∃ q, R[l0.length]? = some q := ⟨_, List.getElem?_eq_getElem (by rw [← b8.1]; simp)⟩
      exact (b8.2.2.2 l0.length l q (by simp) hq).1
    have kF : y_F h (x_sI (x_sR (x_sR (x_sI (x_sI h 602 r (nI R.length)) 603 r (nI (E.length - 1))) 606 l (some r)) 101 bk (some r)) 102 bk (nI (R.length + 1))) (fun f q => ((f = 100 ∨ f = 101 ∨ f = 102) ∧ q = bk) ∨ ((f = 602 ∨ f = 603) ∧ q = r) ∨ (f = 606 ∧ q ∈ l0 ++ [l])) (fun _ => False) := ((((y_F.rf.I (fun _ => Or.inr (Or.inl ⟨by omega, rfl⟩))).I (fun _ => Or.inr (Or.inl ⟨by omega, rfl⟩))).Rf (fun _ => Or.inr (Or.inr ⟨rfl, hm⟩))).Rf (fun _ => Or.inl ⟨by omega, rfl⟩)).I (fun _ => Or.inl ⟨by omega, rfl⟩)
    refine ⟨none, x_sI (x_sR (x_sR (x_sI (x_sI h 602 r (nI R.length)) 603 r (nI (E.length - 1))) 606 l (some r)) 101 bk (some r)) 102 bk (nI (R.length + 1)), ⟨rfl, ⟨by simp only [x_sz_sI, x_sz_sR], by simp only [x_us_sI, x_us_sR]⟩, kF, fin _ ⟨by simp only [x_sz_sI, x_sz_sR], by simp only [x_us_sI, x_us_sR]⟩ kF ⟨?_, ?_⟩ ?_ ?_ ?_ (fun x hx => ?_) (fun x hx hx2 => ?_)⟩, c_addRule_1 G b1 hr.2 b4 b7 hE hl1 hkl⟩
    · rw [x_fi_sI, if_neg (by omega), x_fi_sR, x_fi_sR, x_fi_sI, if_neg (by omega), x_fi_sI, if_pos ⟨rfl, rfl⟩]
    · rw [x_fi_sI, if_neg (by omega), x_fi_sR, x_fi_sR, x_fi_sI, if_pos ⟨rfl, rfl⟩]
    · rw [x_fr_sI, x_fr_sR, if_neg (by omega), x_fr_sR, if_neg (by omega), x_fr_sI, x_fr_sI, b2]
      cases l0 <;> rfl
    · rw [x_fr_sI, x_fr_sR, if_pos ⟨rfl, rfl⟩]
    · rw [x_fi_sI, if_pos ⟨rfl, rfl⟩]
    · have : x = l := by simpa using hx.symm
      subst this
      rw [x_fr_sI, x_fr_sR, if_neg (by omega), x_fr_sR, if_pos ⟨rfl, rfl⟩]
    · rw [x_fr_sI, x_fr_sR, if_neg (by omega), x_fr_sR, if_neg (fun z => hx2 (by rw [z.2]; simp)), x_fr_sI, x_fr_sI]
