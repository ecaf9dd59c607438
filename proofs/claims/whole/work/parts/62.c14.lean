/-! THE CLASS: Reader: readDay, readRule -/
set_option maxHeartbeats 4000000 in
set_option maxRecDepth 100000 in
theorem c_readDay {G : x_G} {ad st vl : Nat → Nat} {kt : Nat × Option Nat} (hG : x_GS G ad st vl kt) {h : x_H} {w n a rd : Nat} {C : Nat → Int32} (hT : c_T h w n a C) (hw : w + 1 < x_sz h) (hrd : rd < x_sz h ∧ x_kd h rd = 5 ∧ x_fr h 501 rd = some w) {bk : Nat} {rs : List Nat} {R : List (Nat × Nat)} {es : List Nat} {E : List Int32} (hb : y_bk C h bk rs R es E) (hrb : x_fr h 500 rd = some bk) (hln : 0 ≤ z_ln E) : x_Ex G mX5_readDay h [x_r (some rd)] (fun r h' => (q_n C (z_ln E) 999999999 a ∧ r = some (x_i 1) ∧ y_F h h' (fun f q => (f = 802 ∧ q = w) ∨ ((f = 103 ∨ f = 104 ∨ f = 105) ∧ q = bk) ∨ (f = 201 ∧ q ∈ es)) (fun _ => False) ∧ c_T h' w n (a + 1) C ∧ x_sz h' = x_sz h + 1 ∧ x_us h' = x_us h + 2 ∧ y_bk C h' bk rs R (es ++ [x_sz h]) (E ++ [C a])) ∨ (¬ q_n C (z_ln E) 999999999 a ∧ r = some (x_i 0) ∧ h' = x_sI h 802 w (nI a))) := by
  have h15 := hT.2.2.2.1
  have han := hT.2.2.2.2.1
  refine x_enter mwX5_readDay (Nat.le_of_ble_eq_true rfl) ?_
  show x_E _ _ _ _ _ [(0, x_r (some rd))] _ _
  refine x_E.eq (h2 := x_sI h 802 w (nI a)) ?_ rfl rfl rfl (x_sI_id hT.2.2.1).symm
  refine x_aload_n (i := 0) (o := some rd) dX5_readDay_0 rfl rfl ?_
  refine x_getRv (v := some w) dX5_readDay_1 fX5_readDay_18 (i := 501) rfl rfl (by first | (simp only [x_kd_sI, x_kd_sR, x_kd_sA]; exact hrd.2.1) | exact hrd.2.1) ((by first | (simp only [x_fr_sI]; exact hrd.2.2) | exact hrd.2.2)) ?_
  refine x_aload_n (i := 0) (o := some rd) dX5_readDay_4 rfl rfl ?_
  refine x_getRv (v := some bk) dX5_readDay_5 fX5_readDay_12 (i := 500) rfl rfl (by first | (simp only [x_kd_sI, x_kd_sR, x_kd_sA]; exact hrd.2.1) | exact hrd.2.1) ((by first | (simp only [x_fr_sI]; exact hrb) | exact hrb)) ?_
  refine x_callV (a := bk) (av := []) (rest := [x_r (some w)]) (r := (some (x_i (z_ln E)))) (h1 := x_sI h 802 w (nI a)) dX5_readDay_8 sX5_readDay_44 (by first | (simp only [x_kd_sI, x_kd_sR, x_kd_sA]; exact hb.1.2) | exact hb.1.2) rfl rfl (Nat.le_of_ble_eq_true rfl) (by first | exact ⟨Nat.le_refl _, Nat.le_refl _⟩ | exact ⟨by rw [hsz.1]; exact Nat.le_succ _, by rw [hsz.2]; exact Nat.le_add_right _ _⟩) (c_leastNextDay G (hb.F (h1 := x_sI h 802 w (nI a)) ((y_F.rf (P := fun f _ => f = 802) (R := fun _ => False)).I (fun _ => rfl)) (fun f q z => by omega))) ?_
  show x_E _ _ _ _ 11 _ [x_i (z_ln E), x_r (some w)] _
  refine x_ldc (v := 999999999) dX5_readDay_11 kX5_readDay_48 ?_
  by_cases qd : q_n C (z_ln E) 999999999 a
  · skip
    have han1 := hT.2.2.2.2.2.2.n qd
    refine x_callV (a := w) (av := [x_i (z_ln E), x_i 999999999]) (rest := []) (r := (some (x_i (C a)))) (h1 := x_sI h 802 w (nI (a + 1))) dX5_readDay_13 sX5_readDay_49 (by first | (simp only [x_kd_sI, x_kd_sR, x_kd_sA]; exact hT.1.1) | exact hT.1.1) rfl rfl (Nat.le_of_ble_eq_true rfl) (by first | exact ⟨Nat.le_refl _, Nat.le_refl _⟩ | exact ⟨by rw [hsz.1]; exact Nat.le_succ _, by rw [hsz.2]; exact Nat.le_add_right _ _⟩) (d_num_t G hT qd) ?_
    show x_E _ _ _ _ 16 _ [x_i (C a)] _
    refine x_istore_n (i := 1) (lv' := [(0, x_r (some rd)), (1, x_i (C a))]) dX5_readDay_16 rfl (by decide) rfl ?_
    refine x_iload_n (i := 1) (x := C a) dX5_readDay_17 rfl rfl ?_
    refine x_iconst (v := (-1)) dX5_readDay_18 (by decide) ?_
    refine x_icmp_ne (tgt := 24) dX5_readDay_19 (by decide) (fun c19 => ?_) (fun c19 => ?_)
    · skip
      refine x_aload_n (i := 0) (o := some rd) dX5_readDay_24 rfl rfl ?_
      refine x_getRv (v := some bk) dX5_readDay_25 fX5_readDay_12 (i := 500) rfl rfl (by first | (simp only [x_kd_sI, x_kd_sR, x_kd_sA]; exact hrd.2.1) | exact hrd.2.1) ((by first | (simp only [x_fr_sI]; exact hrb) | exact hrb)) ?_
      refine x_iload_n (i := 1) (x := C a) dX5_readDay_28 rfl rfl ?_
      obtain ⟨_, h3, ⟨rfl, hsz, hF3, hb3⟩, hca⟩ := c_addEditionL G (hb.F (h1 := x_sI h 802 w (nI (a + 1))) ((y_F.rf (P := fun f _ => f = 802) (R := fun _ => False)).I (fun _ => rfl)) (fun f q z => by omega)) (C a)
      refine x_callV (a := bk) (av := [x_i (C a)]) (rest := []) (r := none) (h1 := h3) dX5_readDay_29 sX5_readDay_53 (by first | (simp only [x_kd_sI, x_kd_sR, x_kd_sA]; exact hb.1.2) | exact hb.1.2) rfl rfl (Nat.le_of_ble_eq_true rfl) (by first | exact ⟨Nat.le_refl _, Nat.le_refl _⟩ | exact ⟨by rw [hsz.1]; exact Nat.le_succ _, by rw [hsz.2]; exact Nat.le_add_right _ _⟩) (hca) ?_
      show x_E _ _ _ _ 32 _ [] _
      refine x_iconst (v := 1) dX5_readDay_32 (by decide) ?_
      refine x_ireturn dX5_readDay_33 rfl (rfl) (by first | exact ⟨Nat.le_refl _, Nat.le_refl _⟩ | exact ⟨by rw [hsz.1]; exact Nat.le_succ _, by rw [hsz.2]; exact Nat.le_add_right _ _⟩) ?_
      have hF : y_F h h3 (fun f q => (f = 802 ∧ q = w) ∨ ((f = 103 ∨ f = 104 ∨ f = 105) ∧ q = bk) ∨ (f = 201 ∧ q ∈ es)) (fun _ => False) := (y_F.rf.I (fun _ => Or.inl ⟨rfl, rfl⟩)).tr hF3 (fun _ _ z => z) (fun _ _ _ z => Or.inr z) (fun _ z => z) (fun _ _ z => z)
      refine Or.inl ⟨qd, rfl, hF, hT.F hw hF (by omega) (by omega) (fun z => z) ?_ (by omega), hsz.1, hsz.2, hb3⟩
      rw [hF3.fi (by show w < x_sz h; omega) (by omega), x_fi_sI, if_pos ⟨rfl, rfl⟩]
    · skip
      exact absurd c19 (z_neg1 qd.1)
  · skip
    refine x_callV (a := w) (av := [x_i (z_ln E), x_i 999999999]) (rest := []) (r := (some (x_i ((-1))))) (h1 := x_sI h 802 w (nI a)) dX5_readDay_13 sX5_readDay_49 (by first | (simp only [x_kd_sI, x_kd_sR, x_kd_sA]; exact hT.1.1) | exact hT.1.1) rfl rfl (Nat.le_of_ble_eq_true rfl) (by first | exact ⟨Nat.le_refl _, Nat.le_refl _⟩ | exact ⟨by rw [hsz.1]; exact Nat.le_succ _, by rw [hsz.2]; exact Nat.le_add_right _ _⟩) (d_num_f G hT (b := a) (by omega) hln qd) ?_
    show x_E _ _ _ _ 16 _ [x_i ((-1))] _
    refine x_istore_n (i := 1) (lv' := [(0, x_r (some rd)), (1, x_i ((-1)))]) dX5_readDay_16 rfl (by decide) rfl ?_
    refine x_iload_n (i := 1) (x := (-1)) dX5_readDay_17 rfl rfl ?_
    refine x_iconst (v := (-1)) dX5_readDay_18 (by decide) ?_
    refine x_icmp_ne (tgt := 24) dX5_readDay_19 (by decide) (fun c => absurd c (by decide)) (fun _ => ?_)
    refine x_iconst (v := 0) dX5_readDay_22 (by decide) ?_
    refine x_ireturn dX5_readDay_23 rfl (rfl) (by first | exact ⟨Nat.le_refl _, Nat.le_refl _⟩ | exact ⟨by rw [hsz.1]; exact Nat.le_succ _, by rw [hsz.2]; exact Nat.le_add_right _ _⟩) ?_
    exact Or.inr ⟨qd, rfl, rfl⟩
/-- how far a rule goes, as the class reads it -/
def q_rul (C : Nat → Int32) (e m a : Nat) : Bool × Nat := if e = 0 then (false, a) else if 60 ≤ m then (false, a) else q_rule C 1501 a
/-- what reading a rule has left -/
def y_rr (h h' : x_H) (w n a : Nat) (C : Nat → Int32) (bk : Nat) (rs : List Nat) (R : List (Nat × Nat)) (es : List Nat) (E : List Int32) (r : Option x_V) : Prop := y_F h h' (fun f q => (f = 802 ∧ q = w) ∨ ((f = 100 ∨ f = 101 ∨ f = 102) ∧ q = bk) ∨ (f = 606 ∧ q ∈ rs)) (fun _ => False) ∧ c_T h' w n (q_rul C E.length R.length a).2 C ∧ a + 2 * (x_sz h' - x_sz h) ≤ (q_rul C E.length R.length a).2 ∧ x_us h' - x_us h ≤ 9 * (x_sz h' - x_sz h) ∧ (((q_rul C E.length R.length a).1 = true ∧ r = some (x_i 1) ∧ x_sz h < x_sz h' ∧ x_fi h' 605 (x_sz h) = -5 ∧ y_bk C h' bk (rs ++ [x_sz h]) (R ++ [(a, E.length - 1)]) es E) ∨ ((q_rul C E.length R.length a).1 = false ∧ r = some (x_i 0)))
/-- a rule is being read -/
def y_rl (h h1 : x_H) (w n a b : Nat) (C : Nat → Int32) (ts L : List Nat) : Prop := y_F h h1 (fun i q => i = 802 ∧ q = w) (fun _ => False) ∧ c_T h1 w n b C ∧ (x_sz h < x_sz h1 ∧ x_kd h1 (x_sz h) = 6) ∧ (x_fi h1 600 (x_sz h) = C (a + 1) ∧ x_fi h1 601 (x_sz h) = nI a ∧ x_fi h1 604 (x_sz h) = nI ts.length ∧ x_fi h1 605 (x_sz h) = -5) ∧ x_fr h1 606 (x_sz h) = none ∧ x_fr h1 607 (x_sz h) = ts.head? ∧ x_fr h1 608 (x_sz h) = ts.getLast? ∧ y_is C h1 ts L ∧ a + 1 + 2 * (x_sz h1 - x_sz h) ≤ b ∧ x_us h1 - x_us h ≤ 9 * (x_sz h1 - x_sz h)
set_option maxHeartbeats 4000000 in
set_option maxRecDepth 100000 in
theorem l_readRule {G : x_G} {ad st vl : Nat → Nat} {kt : Nat × Option Nat} (hG : x_GS G ad st vl kt) {h : x_H} {w n a rd : Nat} {C : Nat → Int32} (hT : c_T h w n a C) (hw : w + 1 < x_sz h) (hrd : rd < x_sz h ∧ x_kd h rd = 5 ∧ x_fr h 501 rd = some w) {bk : Nat} {rs : List Nat} {R : List (Nat × Nat)} {es : List Nat} {E : List Int32} (hb : y_bk C h bk rs R es E) (hrb : x_fr h 500 rd = some bk) (hE : ¬ E.length = 0) (hqr : q_rul C E.length R.length a = q_items C 1501 1501 (a + 3)) : ∀ (f b tt : Nat) (ts L : List Nat) (h1 : x_H), n - b < f → tt + a + 3 ≤ b → b ≤ n → q_items C 1501 1501 (a + 3) = q_items C 1501 f b → q_its C 1501 1501 (a + 3) = L ++ q_its C 1501 f b → y_rl h h1 w n a b C ts L → (∀ t ∈ ts, x_sz h < t) → x_E G mX5_readRule (x_D G mX5_readRule h (fun r h' => y_rr h h' w n a C bk rs R es E r)) h 89 [(0, x_r (some rd)), (1, x_i (nI a)), (2, x_i (C (a + 1))), (3, x_r (some (x_sz h))), (4, x_i (nI tt))] [] h1 := by
  intro f
  induction f with
  | zero =>
    intro b tt ts L h1 hf
    omega
  | succ f ih =>
    intro b tt ts L h1 hf htt hbn hqs hits hS hgt
    obtain ⟨s1, s2, s3, s4, s5, s6, s7, s8, s9, s10⟩ := hS
    have h15 := s2.2.2.2.1
    have s1l := s1.le
    have hr1 : x_kd h1 rd = 5 ∧ x_fr h1 501 rd = some w := ⟨(s1.kd hrd.1).trans hrd.2.1, (s1.fr hrd.1 (by omega)).trans hrd.2.2⟩
    refine x_iload (i := 4) (x := nI tt) dX5_readRule_89 rfl ?_
    refine x_sipush (v := 1500) dX5_readRule_91 (by decide) ?_
    refine x_icmp_ge (tgt := 160) dX5_readRule_94 (by decide) (fun c94 => ?_) (fun c94 => ?_)
    · skip
      exact absurd ((nI_leI (a := 1500) (by omega) (by omega)).mp c94) (by omega)
    · skip
      refine x_aload_n (i := 0) (o := some rd) dX5_readRule_97 rfl rfl ?_
      obtain ⟨rr, h2, ⟨hFt, hTt, hzt, hut, hc⟩, hct⟩ := c_readItem hG s2 (by omega) ⟨Nat.lt_of_lt_of_le hrd.1 s1.1, hr1.1, hr1.2⟩
      rcases hc with hc | ⟨eq1, rfl⟩
      · skip
        obtain ⟨eq1, rfl, hlt2, hit, hn4⟩ := hc
        obtain ⟨e2, heq⟩ : ∃ e2, q_item C 1501 b = (true, e2) := ⟨(q_item C 1501 b).2, by rw [← eq1]⟩
        rw [heq] at hTt hzt
        dsimp only at hTt hzt
        have hk2 : x_kd h2 (x_sz h) = 6 := (hFt.kd s3.1).trans s3.2
        have hFt1 := hFt.le
        obtain ⟨_, h3, ⟨rfl, hz3, hFa, his3, h73, h83⟩, hadd⟩ := c_addItemL G (h := h2) (i := x_sz h) (t := x_sz h1) (a := b) hk2 ((hFt.fr s3.1 (by omega)).trans s6) ((hFt.fr s3.1 (by omega)).trans s7) ((hFt.fi s3.1 (by omega)).trans s4.2.2.1) (s8.F hFt (fun f q z => by omega)) hit hn4 hlt2 (fun x hx => s8.2.1.2 x hx)
        have hF13 : y_F h1 h3 (fun f q => (f = 802 ∧ q = w) ∨ ((f = 604 ∨ f = 607 ∨ f = 608) ∧ q = x_sz h) ∨ (f = 404 ∧ q ∈ ts)) (fun _ => False) := hFt.tr hFa (fun _ _ z => Or.inl z) (fun _ _ _ z => Or.inr z) (fun _ z => z) (fun _ _ z => z)
        have hF3 : y_F h h3 (fun i q => i = 802 ∧ q = w) (fun _ => False) := s1.tr hF13 (fun _ _ z => z) (fun f q hq z => by
          rcases z with z | z | z
          · exact z
          · omega
          · exact absurd (hgt q z.2) (by omega)) (fun _ z => z) (fun _ _ z => z)
        have h8e : x_fi h3 802 w = nI e2 := (hFa.fi (by omega) (by omega)).trans hTt.2.2.1
        have hT3 : c_T h3 w n e2 C := hTt.F (by omega) hFa (by omega) (by omega) (fun z => z) h8e hTt.2.2.2.2.1
        have hr3 : x_kd h3 rd = 5 ∧ x_fr h3 501 rd = some w ∧ x_fr h3 500 rd = some bk := ⟨(hF3.kd hrd.1).trans hrd.2.1, (hF3.fr hrd.1 (by omega)).trans hrd.2.2, (hF3.fr hrd.1 (by omega)).trans hrb⟩
        have hk3 : x_kd h3 (x_sz h) = 6 := (hFa.kd (by omega)).trans hk2
        have f0 : x_fi h3 600 (x_sz h) = C (a + 1) := (hF13.fi s3.1 (by omega)).trans s4.1
        have f1 : x_fi h3 601 (x_sz h) = nI a := (hF13.fi s3.1 (by omega)).trans s4.2.1
        have f5 : x_fi h3 605 (x_sz h) = -5 := (hF13.fi s3.1 (by omega)).trans s4.2.2.2
        have f6 : x_fr h3 606 (x_sz h) = none := (hF13.fr s3.1 (by omega)).trans s5
        have hle3 := hF3.le
        have he2n := hT3.2.2.2.2.1
        have hb3 : y_bk C h3 bk rs R es E := hb.F hF3 (fun f q z => by omega)
        refine x_callV (a := rd) (av := []) (rest := []) (r := (some (x_r (some (x_sz h1))))) (h1 := h2) dX5_readRule_98 sX5_readRule_78 (by first | (simp only [x_kd_sI, x_kd_sR, x_kd_sA]; exact hr3.1) | exact hr3.1 | exact hr1.1) rfl rfl (Nat.le_of_ble_eq_true rfl) (by first | exact hle3 | exact s1.le | exact ⟨Nat.le_trans s1.le.1 hFt.le.1, Nat.le_trans s1.le.2 hFt.le.2⟩ | exact ⟨Nat.le_trans hle3.1 hF4.le.1, Nat.le_trans hle3.2 hF4.le.2⟩) (hct) ?_
        show x_E _ _ _ _ 101 _ [x_r (some (x_sz h1))] _
        refine x_astore (i := 5) (lv' := [(0, x_r (some rd)), (1, x_i (nI a)), (2, x_i (C (a + 1))), (3, x_r (some (x_sz h))), (4, x_i (nI tt)), (5, x_r (some (x_sz h1)))]) dX5_readRule_101 (by decide) rfl ?_
        refine x_aload (i := 5) (o := some (x_sz h1)) dX5_readRule_103 rfl ?_
        refine x_ifnonnull (o := some (x_sz h1)) (tgt := 110) dX5_readRule_105 (by decide) (fun _ _ => ?_) (fun c => absurd c (by simp))
        refine x_aload_n (i := 3) (o := some (x_sz h)) dX5_readRule_110 rfl rfl ?_
        refine x_aload (i := 5) (o := some (x_sz h1)) dX5_readRule_111 rfl ?_
        refine x_callV (a := x_sz h) (av := [x_r (some (x_sz h1))]) (rest := []) (r := none) (h1 := h3) dX5_readRule_113 sX5_readRule_82 (by first | (simp only [x_kd_sI, x_kd_sR, x_kd_sA]; exact hk3) | exact hk3 | exact hk2) rfl rfl (Nat.le_of_ble_eq_true rfl) ⟨Nat.le_trans s1.le.1 hFt.le.1, Nat.le_trans s1.le.2 hFt.le.2⟩ (hadd) ?_
        show x_E _ _ _ _ 116 _ [] _
        refine x_E.eq (h2 := x_sI h3 802 w (nI e2)) ?_ rfl rfl rfl (x_sI_id h8e).symm
        refine x_aload_n (i := 0) (o := some rd) dX5_readRule_116 rfl rfl ?_
        refine x_getRv (v := some w) dX5_readRule_117 fX5_readRule_18 (i := 501) rfl rfl (by first | (simp only [x_kd_sI, x_kd_sR, x_kd_sA]; exact hr3.1) | exact hr3.1 | exact hr1.1) ((by first | (simp only [x_fr_sI]; exact hr3.2.1) | exact hr3.2.1)) ?_
        refine x_gets (v := x_r (some (ad 4))) dX5_readRule_120 fX5_readRule_86 (fun U hU => ((hG U hU).2.2.1 4 (by decide)).1) ?_
        by_cases q6 : C e2 = -6
        · skip
          have hbq6 := hT3.2.2.2.2.2.2.c q6 (by decide)
          refine x_callV (a := w) (av := [x_r (some (ad 4))]) (rest := []) (r := (some (x_i 1))) (h1 := x_sI h3 802 w (nI (e2 + 1))) dX5_readRule_123 sX5_readRule_34 (by first | (simp only [x_kd_sI, x_kd_sR, x_kd_sA]; exact hT3.1.1) | exact hT3.1.1) rfl rfl (Nat.le_of_ble_eq_true rfl) (by first | exact hle3 | exact s1.le | exact ⟨Nat.le_trans s1.le.1 hFt.le.1, Nat.le_trans s1.le.2 hFt.le.2⟩ | exact ⟨Nat.le_trans hle3.1 hF4.le.1, Nat.le_trans hle3.2 hF4.le.2⟩) (d_take_t hG hT3 (k := 4) (by decide) q6) ?_
          show x_E _ _ _ _ 126 _ [x_i 1] _
          refine x_if_eq (tgt := 139) dX5_readRule_126 (by decide) (fun c => absurd c (by decide)) (fun _ => ?_)
          refine x_aload_n (i := 0) (o := some rd) dX5_readRule_129 rfl rfl ?_
          refine x_getRv (v := some bk) dX5_readRule_130 fX5_readRule_12 (i := 500) rfl rfl (by first | (simp only [x_kd_sI, x_kd_sR, x_kd_sA]; exact hr3.1) | exact hr3.1 | exact hr1.1) ((by first | (simp only [x_fr_sI]; exact hr3.2.2) | exact hr3.2.2)) ?_
          refine x_aload_n (i := 3) (o := some (x_sz h)) dX5_readRule_133 rfl rfl ?_
          have eits : z_its C (a, E.length - 1) = L ++ [b] := by
            show q_its C 1501 1501 (a + 3) = _
            rw [hits, show q_its C 1501 (f + 1) b = b :: (if C (q_item C 1501 b).2 = -5 then q_its C 1501 f ((q_item C 1501 b).2 + 1) else []) from rfl, heq, if_neg (by rw [q6]; decide)]
          obtain ⟨_, h4, ⟨rfl, hz4, hF4, hb4⟩, har⟩ := c_addRuleL G (a := a) (r := x_sz h) (ts := ts ++ [x_sz h1]) (hb3.F (h1 := x_sI h3 802 w (nI (e2 + 1))) ((y_F.rf (P := fun f _ => f = 802) (R := fun _ => False)).I (fun _ => rfl)) (fun f q z => by omega)) (by omega) ⟨by show x_sz h < x_sz h3; omega, hk3⟩ (fun x hx => hb.2.2.2.2.2.2.2.1.2.1.2 x hx) (by rw [x_fi_sI, if_neg (by omega)]; exact f0) (by rw [x_fi_sI, if_neg (by omega)]; exact f1) (by rw [x_fi_sI, if_neg (by omega), eits, List.length_append, ← s8.1]; exact hz3.2.2) f6 h73 (by rw [eits]; exact his3.F ((y_F.rf (P := fun f _ => f = 802) (R := fun _ => False)).I (fun _ => rfl)) (fun f q z => by omega))
          refine x_callV (a := bk) (av := [x_r (some (x_sz h))]) (rest := []) (r := none) (h1 := h4) dX5_readRule_134 sX5_readRule_89 (by first | (simp only [x_kd_sI, x_kd_sR, x_kd_sA]; exact hb3.1.2) | exact hb3.1.2) rfl rfl (Nat.le_of_ble_eq_true rfl) (by first | exact hle3 | exact s1.le | exact ⟨Nat.le_trans s1.le.1 hFt.le.1, Nat.le_trans s1.le.2 hFt.le.2⟩ | exact ⟨Nat.le_trans hle3.1 hF4.le.1, Nat.le_trans hle3.2 hF4.le.2⟩) (har) ?_
          show x_E _ _ _ _ 137 _ [] _
          refine x_iconst (v := 1) dX5_readRule_137 (by decide) ?_
          refine x_ireturn dX5_readRule_138 rfl (rfl) (by first | exact hle3 | exact s1.le | exact ⟨Nat.le_trans s1.le.1 hFt.le.1, Nat.le_trans s1.le.2 hFt.le.2⟩ | exact ⟨Nat.le_trans hle3.1 hF4.le.1, Nat.le_trans hle3.2 hF4.le.2⟩) ?_
          have eq : q_items C 1501 (f + 1) b = (true, e2 + 1) := by
            rw [q_items_s, heq]
            show q_aft C 1501 f e2 = _
            unfold q_aft
            rw [if_neg (by rw [q6]; decide), if_pos q6]
          unfold y_rr
          rw [hqr, hqs, eq]
          have hFF : y_F h h4 (fun f q => (f = 802 ∧ q = w) ∨ ((f = 100 ∨ f = 101 ∨ f = 102) ∧ q = bk) ∨ (f = 606 ∧ q ∈ rs)) (fun _ => False) := (hF3.I (fun _ => ⟨rfl, rfl⟩)).tr hF4 (fun _ _ z => Or.inl z) (fun f q hq z => by
            rcases z with z | z | z
            · exact Or.inr (Or.inl z)
            · omega
            · exact Or.inr (Or.inr z)) (fun _ z => z) (fun _ _ z => z)
          have h8f : x_fi h4 802 w = nI (e2 + 1) := by
            rw [hF4.fi (by show w < x_sz h3; omega) (by omega), x_fi_sI, if_pos ⟨rfl, rfl⟩]
          have hz4a : x_sz h4 = x_sz h3 := hz4.1
          have hz4b : x_us h4 = x_us h3 := hz4.2
          refine ⟨hFF, hT.F hw hFF (by omega) (by omega) (fun z => z) h8f (by omega), ?_, ?_, Or.inl ⟨rfl, rfl, by omega, ?_, hb4⟩⟩
          · show a + 2 * (x_sz h4 - x_sz h) ≤ e2 + 1
            omega
          · omega
          · rw [hF4.fi (by show x_sz h < x_sz h3; omega) (by omega), x_fi_sI, if_neg (by omega)]
            exact f5
        · skip
          refine x_callV (a := w) (av := [x_r (some (ad 4))]) (rest := []) (r := (some (x_i 0))) (h1 := x_sI h3 802 w (nI e2)) dX5_readRule_123 sX5_readRule_34 (by first | (simp only [x_kd_sI, x_kd_sR, x_kd_sA]; exact hT3.1.1) | exact hT3.1.1) rfl rfl (Nat.le_of_ble_eq_true rfl) (by first | exact hle3 | exact s1.le | exact ⟨Nat.le_trans s1.le.1 hFt.le.1, Nat.le_trans s1.le.2 hFt.le.2⟩ | exact ⟨Nat.le_trans hle3.1 hF4.le.1, Nat.le_trans hle3.2 hF4.le.2⟩) (d_take_f hG hT3 (k := 4) (b := e2) (by omega) (by decide) q6) ?_
          show x_E _ _ _ _ 126 _ [x_i 0] _
          refine x_if_eq (tgt := 139) dX5_readRule_126 (by decide) (fun _ => ?_) (fun c => absurd (by decide) c)
          refine x_aload_n (i := 0) (o := some rd) dX5_readRule_139 rfl rfl ?_
          refine x_getRv (v := some w) dX5_readRule_140 fX5_readRule_18 (i := 501) rfl rfl (by first | (simp only [x_kd_sI, x_kd_sR, x_kd_sA]; exact hr3.1) | exact hr3.1 | exact hr1.1) ((by first | (simp only [x_fr_sI]; exact hr3.2.1) | exact hr3.2.1)) ?_
          refine x_gets (v := x_r (some (ad 3))) dX5_readRule_143 fX5_readRule_93 (fun U hU => ((hG U hU).2.2.1 3 (by decide)).1) ?_
          by_cases q5 : C e2 = -5
          · skip
            have hbq5 := hT3.2.2.2.2.2.2.c q5 (by decide)
            refine x_callV (a := w) (av := [x_r (some (ad 3))]) (rest := []) (r := (some (x_i 1))) (h1 := x_sI h3 802 w (nI (e2 + 1))) dX5_readRule_146 sX5_readRule_34 (by first | (simp only [x_kd_sI, x_kd_sR, x_kd_sA]; exact hT3.1.1) | exact hT3.1.1) rfl rfl (Nat.le_of_ble_eq_true rfl) (by first | exact hle3 | exact s1.le | exact ⟨Nat.le_trans s1.le.1 hFt.le.1, Nat.le_trans s1.le.2 hFt.le.2⟩ | exact ⟨Nat.le_trans hle3.1 hF4.le.1, Nat.le_trans hle3.2 hF4.le.2⟩) (d_take_t hG hT3 (k := 3) (by decide) q5) ?_
            show x_E _ _ _ _ 149 _ [x_i 1] _
            refine x_if_ne (tgt := 154) dX5_readRule_149 (by decide) (fun _ => ?_) (fun c => absurd c (by decide))
            refine x_iinc (i := 4) (x := nI tt) (v := nI (tt + 1)) (lv' := [(0, x_r (some rd)), (1, x_i (nI a)), (2, x_i (C (a + 1))), (3, x_r (some (x_sz h))), (4, x_i (nI (tt + 1))), (5, x_r (some (x_sz h1)))]) dX5_readRule_154 rfl (nI_1 tt) (by decide) rfl ?_
            refine x_goto (tgt := 89) dX5_readRule_157 (by decide) ?_
            show x_E _ _ _ _ 89 _ _ _
            have eq : q_items C 1501 (f + 1) b = q_items C 1501 f (e2 + 1) := by
              rw [q_items_s, heq]
              show q_aft C 1501 f e2 = _
              unfold q_aft
              rw [if_pos q5]
            refine x_drop [0, 1, 2, 3, 4] rfl ?_
            refine ih (e2 + 1) (tt + 1) (ts ++ [x_sz h1]) (L ++ [b]) _ (by omega) (by omega) (by omega) (hqs.trans eq) ?_ ?_ ?_
            · rw [hits, show q_its C 1501 (f + 1) b = b :: (if C (q_item C 1501 b).2 = -5 then q_its C 1501 f ((q_item C 1501 b).2 + 1) else []) from rfl, heq, if_pos q5, List.append_assoc]
              rfl
            · refine ⟨hF3.I (fun _ => ⟨rfl, rfl⟩), hT3.to (by omega), ⟨by show x_sz h < x_sz h3; omega, hk3⟩, ⟨?_, ?_, ?_, ?_⟩, f6, h73, h83, his3.F ((y_F.rf (P := fun f _ => f = 802) (R := fun _ => False)).I (fun _ => rfl)) (fun f q z => by omega), ?_, ?_⟩
              · rw [x_fi_sI, if_neg (by omega)]; exact f0
              · rw [x_fi_sI, if_neg (by omega)]; exact f1
              · rw [x_fi_sI, if_neg (by omega), List.length_append]; exact hz3.2.2
              · rw [x_fi_sI, if_neg (by omega)]; exact f5
              · show a + 1 + 2 * (x_sz h3 - x_sz h) ≤ e2 + 1
                omega
              · show x_us h3 - x_us h ≤ 9 * (x_sz h3 - x_sz h)
                omega
            · intro t ht
              rcases List.mem_append.mp ht with ht | ht
              · exact hgt t ht
              · cases List.mem_singleton.mp ht
                exact s3.1
          · skip
            refine x_callV (a := w) (av := [x_r (some (ad 3))]) (rest := []) (r := (some (x_i 0))) (h1 := x_sI h3 802 w (nI e2)) dX5_readRule_146 sX5_readRule_34 (by first | (simp only [x_kd_sI, x_kd_sR, x_kd_sA]; exact hT3.1.1) | exact hT3.1.1) rfl rfl (Nat.le_of_ble_eq_true rfl) (by first | exact hle3 | exact s1.le | exact ⟨Nat.le_trans s1.le.1 hFt.le.1, Nat.le_trans s1.le.2 hFt.le.2⟩ | exact ⟨Nat.le_trans hle3.1 hF4.le.1, Nat.le_trans hle3.2 hF4.le.2⟩) (d_take_f hG hT3 (k := 3) (b := e2) (by omega) (by decide) q5) ?_
            show x_E _ _ _ _ 149 _ [x_i 0] _
            refine x_if_ne (tgt := 154) dX5_readRule_149 (by decide) (fun c => absurd c (by decide)) (fun _ => ?_)
            refine x_iconst (v := 0) dX5_readRule_152 (by decide) ?_
            refine x_ireturn dX5_readRule_153 rfl (rfl) (by first | exact hle3 | exact s1.le | exact ⟨Nat.le_trans s1.le.1 hFt.le.1, Nat.le_trans s1.le.2 hFt.le.2⟩ | exact ⟨Nat.le_trans hle3.1 hF4.le.1, Nat.le_trans hle3.2 hF4.le.2⟩) ?_
            have eq : q_items C 1501 (f + 1) b = (false, e2) := by
              rw [q_items_s, heq]
              show q_aft C 1501 f e2 = _
              unfold q_aft
              rw [if_neg q5, if_neg q6]
            unfold y_rr
            rw [hqr, hqs, eq]
            refine ⟨(hF3.I (fun _ => ⟨rfl, rfl⟩)).mono (fun _ _ z => Or.inl z) (fun _ z => z), hT3.to (by omega), ?_, ?_, Or.inr ⟨rfl, rfl⟩⟩
            · show a + 2 * (x_sz h3 - x_sz h) ≤ e2
              omega
            · show x_us h3 - x_us h ≤ 9 * (x_sz h3 - x_sz h)
              omega
      · skip
        refine x_callV (a := rd) (av := []) (rest := []) (r := (some (x_r none))) (h1 := h2) dX5_readRule_98 sX5_readRule_78 (by first | (simp only [x_kd_sI, x_kd_sR, x_kd_sA]; exact hr3.1) | exact hr3.1 | exact hr1.1) rfl rfl (Nat.le_of_ble_eq_true rfl) (by first | exact hle3 | exact s1.le | exact ⟨Nat.le_trans s1.le.1 hFt.le.1, Nat.le_trans s1.le.2 hFt.le.2⟩ | exact ⟨Nat.le_trans hle3.1 hF4.le.1, Nat.le_trans hle3.2 hF4.le.2⟩) (hct) ?_
        show x_E _ _ _ _ 101 _ [x_r none] _
        refine x_astore (i := 5) (lv' := [(0, x_r (some rd)), (1, x_i (nI a)), (2, x_i (C (a + 1))), (3, x_r (some (x_sz h))), (4, x_i (nI tt)), (5, x_r none)]) dX5_readRule_101 (by decide) rfl ?_
        refine x_aload (i := 5) (o := none) dX5_readRule_103 rfl ?_
        refine x_ifnonnull (o := none) (tgt := 110) dX5_readRule_105 (by decide) (fun _ c => absurd c (by simp)) (fun _ => ?_)
        refine x_iconst (v := 0) dX5_readRule_108 (by decide) ?_
        refine x_ireturn dX5_readRule_109 rfl (rfl) (by first | exact hle3 | exact s1.le | exact ⟨Nat.le_trans s1.le.1 hFt.le.1, Nat.le_trans s1.le.2 hFt.le.2⟩ | exact ⟨Nat.le_trans hle3.1 hF4.le.1, Nat.le_trans hle3.2 hF4.le.2⟩) ?_
        have eq : q_items C 1501 (f + 1) b = (false, (q_item C 1501 b).2) := by
          rw [q_items_s]
          cases hq : q_item C 1501 b with
          | mk u v =>
            rw [hq] at eq1
            dsimp only at eq1
            subst eq1
            rfl
        unfold y_rr
        rw [hqr, hqs, eq]
        have := s1.le
        have := hFt.le
        refine ⟨s1.tr hFt (fun _ _ z => Or.inl z) (fun _ _ _ z => Or.inl z) (fun _ z => z) (fun _ _ z => z), hTt, ?_, ?_, Or.inr ⟨rfl, rfl⟩⟩
        · show a + 2 * (x_sz h2 - x_sz h) ≤ (q_item C 1501 b).2
          omega
        · omega
