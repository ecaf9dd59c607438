/-! THE CLASS: Reader: readSum -/
def y_sr (h h' : x_H) (P : Nat → Nat → Prop) : Prop := x_sz h' = x_sz h ∧ x_us h' = x_us h ∧ x_kd h' = x_kd h ∧ x_ln h' = x_ln h ∧ x_rw h' = x_rw h ∧ x_rl h' = x_rl h ∧ x_fl h' = x_fl h ∧ x_fi h' = x_fi h ∧ ∀ f q, ¬ P f q → x_fr h' f q = x_fr h f q
theorem y_sr.rf {h : x_H} {P : Nat → Nat → Prop} : y_sr h h P := ⟨rfl, rfl, rfl, rfl, rfl, rfl, rfl, rfl, fun _ _ _ => rfl⟩
theorem y_sr.Rf {h h1 : x_H} {P : Nat → Nat → Prop} (k : y_sr h h1 P) {f q : Nat} {v : Option Nat} (hp : P f q) : y_sr h (x_sR h1 f q v) P := by
  obtain ⟨k1, k2, k3, k4, k5, k6, k7, k8, k9⟩ := k
  refine ⟨k1, k2, k3, k4, k5, k6, k7, k8, fun j b z => ?_⟩
  rw [x_fr_sR, if_neg (fun y => z (by rw [y.1, y.2]; exact hp))]
  exact k9 j b z
theorem y_sr.F {h h1 : x_H} {P : Nat → Nat → Prop} {R : Nat → Prop} (k : y_sr h h1 P) : y_F h h1 P R := by
  obtain ⟨k1, k2, k3, k4, k5, k6, k7, k8, k9⟩ := k
  exact ⟨by omega, by omega, fun q _ => ⟨by rw [k3], by rw [k4]⟩, fun i q _ z => ⟨by rw [k8], k9 i q z, by rw [k7]⟩, fun q _ _ => ⟨by rw [k5], by rw [k6]⟩⟩
theorem y_sr.T {h h1 : x_H} {P : Nat → Nat → Prop} (k : y_sr h h1 P) {w n a : Nat} {C : Nat → Int32} (hT : c_T h w n a C) (hp : ¬ P 800 w) : c_T h1 w n a C := by
  obtain ⟨k1, k2, k3, k4, k5, k6, k7, k8, k9⟩ := k
  unfold c_T c_W
  rw [k3, k4, k5, k8, k9 800 w hp]
  exact hT
/-- a term is put behind the others -/
theorem c_addTermL (G : x_G) {C : Nat → Int32} {h : x_H} {i t a : Nat} {ts L : List Nat} (hk : x_kd h i = 4) (h5 : x_fr h 405 i = ts.head?) (h6 : x_fr h 406 i = ts.getLast?) (hs : y_ts C h ts L) (ht : y_tm C h t a) (hn : x_fr h 705 t = none) (hlt : t < x_sz h) (hgt : ∀ x ∈ ts, x < t) : x_Ex G mX3_addTerm h [x_r (some i), x_r (some t)] (fun r h3 => r = none ∧ y_sr h h3 (fun f q => ((f = 405 ∨ f = 406) ∧ q = i) ∨ (f = 705 ∧ q ∈ ts)) ∧ y_ts C h3 (ts ++ [t]) (L ++ [a]) ∧ x_fr h3 405 i = (ts ++ [t]).head? ∧ x_fr h3 406 i = (ts ++ [t]).getLast?) := by
  obtain ⟨s1, s2, s3, s4⟩ := hs
  have fin : ∀ h3, y_sr h h3 (fun f q => ((f = 405 ∨ f = 406) ∧ q = i) ∨ (f = 705 ∧ q ∈ ts)) → (∀ x, ts.getLast? = some x → x_fr h3 705 x = some t) → (∀ x ∈ ts, ¬ ts.getLast? = some x → x_fr h3 705 x = x_fr h 705 x) → y_ts C h3 (ts ++ [t]) (L ++ [a]) := by
    intro h3 k g1 g2
    have e7 : ∀ x b, y_tm C h x b → y_tm C h3 x b := by
      intro x b m
      unfold y_tm
      rw [k.2.2.1, k.2.2.2.2.2.2.2.1]
      exact m
    refine ⟨by rw [List.length_append, List.length_append, s1]; rfl, ⟨List.pairwise_append.mpr ⟨s2.1, List.pairwise_singleton _ _, fun x hx y hy => ?_⟩, fun x hx => ?_⟩, y_lk_add s3 s2.1 ?_ g2 g1, fun j x b hj hb => ?_⟩
    · cases List.mem_singleton.mp hy
      exact hgt x hx
    · rw [k.1]
      rcases List.mem_append.mp hx with hx | hx
      · exact s2.2 x hx
      · cases List.mem_singleton.mp hx
        exact hlt
    · rw [k.2.2.2.2.2.2.2.2 705 t (fun z => by
        rcases z with z | z
        · omega
        · exact absurd (hgt t z.2) (Nat.lt_irrefl _))]
      exact hn
    · rcases Nat.lt_trichotomy j ts.length with hl | hl | hl
      · rw [List.getElem?_append_left hl] at hj
        rw [List.getElem?_append_left (by omega)] at hb
        exact e7 x b (s4 j x b hj hb)
      · rw [List.getElem?_append_right (by omega), show j - ts.length = 0 by omega] at hj
        rw [List.getElem?_append_right (by omega), show j - L.length = 0 by omega] at hb
        cases hj
        cases hb
        exact e7 t a ht
      · rw [List.getElem?_eq_none (by simp; omega)] at hj
        cases hj
  rcases List.eq_nil_or_concat ts with rfl | ⟨l0, l, rfl⟩
  · refine ⟨_, _, ⟨rfl, ((y_sr.rf.Rf (Or.inl ⟨Or.inl rfl, rfl⟩)).Rf (Or.inl ⟨Or.inr rfl, rfl⟩)), fin _ ((y_sr.rf.Rf (Or.inl ⟨Or.inl rfl, rfl⟩)).Rf (Or.inl ⟨Or.inr rfl, rfl⟩)) (fun x hx => by simp at hx) (fun x hx => by simp at hx), ?_, ?_⟩, c_addTerm_0 G hk h6⟩
    · rw [x_fr_sR, if_neg (by omega), x_fr_sR, if_pos ⟨rfl, rfl⟩]
      rfl
    · rw [x_fr_sR, if_pos ⟨rfl, rfl⟩]
      rfl
  · rw [List.concat_eq_append] at *
    have hm : l ∈ l0 ++ [l] := by simp
    have hl6 : x_fr h 406 i = some l := by rw [h6]; simp
    have hkl : x_kd h l = 7 := by
      obtain ⟨b, hb⟩ : ∃ b, L[l0.length]? = some b := ⟨_, List.getElem?_eq_getElem (by rw [← s1]; simp)⟩
      exact (s4 l0.length l b (by simp) hb).1
    have hil : ¬ i = l := fun z => by rw [z, hkl] at hk; exact absurd hk (by decide)
    refine ⟨_, _, ⟨rfl, ((y_sr.rf.Rf (Or.inr ⟨rfl, hm⟩)).Rf (Or.inl ⟨Or.inr rfl, rfl⟩)), fin _ ((y_sr.rf.Rf (Or.inr ⟨rfl, hm⟩)).Rf (Or.inl ⟨Or.inr rfl, rfl⟩)) (fun x hx => ?_) (fun x hx hx2 => ?_), ?_, ?_⟩, c_addTerm_1 G hk hl6 hkl⟩
    · have : x = l := by simpa using hx.symm
      subst this
      rw [x_fr_sR, if_neg (by omega), x_fr_sR, if_pos ⟨rfl, rfl⟩]
    · rw [x_fr_sR, if_neg (by omega), x_fr_sR, if_neg (fun z => hx2 (by rw [z.2]; simp))]
    · rw [x_fr_sR, if_neg (by omega), x_fr_sR, if_neg (by omega), h5]
      cases l0 <;> rfl
    · rw [x_fr_sR, if_pos ⟨rfl, rfl⟩]
      simp
theorem q_more_loop {C : Nat → Int32} {f b : Nat} (h2 : ¬ C b = -12) (h3 : ¬ C b = -13) : q_more C (f + 1) b = q_sum C (f + 1) b := by
  unfold q_more
  split
  · rfl
  · split
    · rfl
    · rename_i h4 h5
      have e : q_term C b = (false, b) := by unfold q_term; rw [if_neg h4, if_neg h5]
      rw [q_sum_s, e]
      unfold q_cmp
      rw [if_neg h2, if_neg h3]
theorem q_term_pm {C : Nat → Int32} {b e : Nat} (h : q_term C b = (true, e)) : C b = -14 ∨ C b = -15 := (z_tk_of h).1.1
/-- a sum is being read -/
def y_sl (h h1 : x_H) (w n p b : Nat) (C : Nat → Int32) (ts L : List Nat) : Prop := y_F h h1 (fun i q => i = 802 ∧ q = w) (fun _ => False) ∧ c_T h1 w n b C ∧ (x_sz h < x_sz h1 ∧ x_kd h1 (x_sz h) = 4) ∧ x_fi h1 400 (x_sz h) = 2 ∧ x_fr h1 404 (x_sz h) = none ∧ x_fr h1 405 (x_sz h) = ts.head? ∧ x_fr h1 406 (x_sz h) = ts.getLast? ∧ y_ts C h1 ts L ∧ p + 1 + 2 * (x_sz h1 - x_sz h) ≤ b + 2 ∧ x_us h1 - x_us h ≤ 9 * (x_sz h1 - x_sz h)
set_option maxHeartbeats 4000000 in
set_option maxRecDepth 100000 in
theorem l_readSum {G : x_G} {ad st vl : Nat → Nat} {kt : Nat × Option Nat} (hG : x_GS G ad st vl kt) {h : x_H} {w n p rd : Nat} {C : Nat → Int32} (hw : w + 1 < x_sz h) (hrd : rd < x_sz h ∧ x_kd h rd = 5 ∧ x_fr h 501 rd = some w) (hp11 : C p = -11) : ∀ (f b tt : Nat) (ts L : List Nat) (h1 : x_H), n - b < f → tt + p + 1 ≤ b → b ≤ n → q_sum C 1501 (p + 1) = q_sum C f b → z_tms C 1501 (p + 1) = L ++ z_tms C f b → z_cp C 1501 (p + 1) = z_cp C f b → y_sl h h1 w n p b C ts L → (∀ t ∈ ts, x_sz h < t) → x_E G mX5_readSum (x_D G mX5_readSum h (fun r h' => y_ri h h' w n (p + 1) 2 (q_sum C 1501 (p + 1)) p C r)) h 12 [(0, x_r (some rd)), (1, x_r (some (x_sz h))), (2, x_i (nI tt))] [] h1 := by
  intro f
  induction f with
  | zero =>
    intro b tt ts L h1 hf
    omega
  | succ f ih =>
    intro b tt ts L h1 hf htt hbn hqs htms hcp hS hgt
    obtain ⟨s1, s2, s3, s4, s5, s6, s7, s8, s9, s10⟩ := hS
    have h15 := s2.2.2.2.1
    have hr1 : x_kd h1 rd = 5 ∧ x_fr h1 501 rd = some w := ⟨(s1.kd hrd.1).trans hrd.2.1, (s1.fr hrd.1 (by omega)).trans hrd.2.2⟩
    refine x_iload_n (i := 2) (x := nI tt) dX5_readSum_12 rfl rfl ?_
    refine x_sipush (v := 1500) dX5_readSum_13 (by decide) ?_
    refine x_icmp_ge (tgt := 103) dX5_readSum_16 (by decide) (fun c16 => ?_) (fun c16 => ?_)
    · skip
      exact absurd ((nI_leI (a := 1500) (by omega) (by omega)).mp c16) (by omega)
    · skip
      refine x_aload_n (i := 0) (o := some rd) dX5_readSum_19 rfl rfl ?_
      obtain ⟨rr, h2, ⟨hFt, hTt, hzt, hut, hc⟩, hct⟩ := c_readTerm hG s2 (by omega) ⟨Nat.lt_of_lt_of_le hrd.1 s1.1, hr1.1, hr1.2⟩
      rcases hc with hc | ⟨eq1, rfl⟩
      · skip
        obtain ⟨eq1, rfl, hsz2, htm, hn5⟩ := hc
        obtain ⟨e2, heq⟩ : ∃ e2, q_term C b = (true, e2) := ⟨(q_term C b).2, by rw [← eq1]⟩
        rw [heq] at hTt hzt
        dsimp only at hTt hzt
        have ee2 := (z_tk_of heq).2
        have hpm := q_term_pm heq
        have hk2 : x_kd h2 (x_sz h) = 4 := (hFt.kd s3.1).trans s3.2
        obtain ⟨_, h3, ⟨rfl, hsr, hts3, h53, h63⟩, hadd⟩ := c_addTermL G (h := h2) (i := x_sz h) (t := x_sz h1) (a := b) hk2 ((hFt.fr s3.1 (by omega)).trans s6) ((hFt.fr s3.1 (by omega)).trans s7) (s8.F hFt (fun t _ f g1 g2 => by omega)) htm hn5 (by omega) (fun x hx => s8.2.1.2 x hx)
        have hT3 : c_T h3 w n e2 C := hsr.T hTt (by omega)
        have hF3 : y_F h h3 (fun i q => i = 802 ∧ q = w) (fun _ => False) := (s1.tr hFt (fun _ _ z => z) (fun _ _ _ z => z) (fun _ z => z) (fun _ _ z => z)).tr (hsr.F (R := fun _ => False)) (fun _ _ z => z) (fun f q hq z => by
          rcases z with z | z
          · omega
          · exact absurd (hgt q z.2) (by omega)) (fun _ z => z) (fun _ _ z => z)
        have hr3 : x_kd h3 rd = 5 ∧ x_fr h3 501 rd = some w := ⟨(hF3.kd hrd.1).trans hrd.2.1, (hF3.fr hrd.1 (by omega)).trans hrd.2.2⟩
        have hk3 : x_kd h3 (x_sz h) = 4 := by rw [hsr.2.2.1]; exact hk2
        have h43 : x_fi h3 400 (x_sz h) = 2 := by rw [hsr.2.2.2.2.2.2.2.1, hFt.fi s3.1 (by omega)]; exact s4
        have h44 : x_fr h3 404 (x_sz h) = none := by rw [hsr.2.2.2.2.2.2.2.2 404 (x_sz h) (by omega), hFt.fr s3.1 (by omega)]; exact s5
        have hsz3 : x_sz h3 = x_sz h1 + 1 := hsr.1.trans hsz2
        have hus3 : x_us h3 = x_us h2 := hsr.2.1
        have hle3 := hF3.le
        have h83 := hT3.2.2.1
        have he2n := hT3.2.2.2.2.1
        refine x_callV (a := rd) (av := []) (rest := []) (r := (some (x_r (some (x_sz h1))))) (h1 := h2) dX5_readSum_20 sX5_readSum_127 (by first | exact hr1.1 | exact hr3.1 | (simp only [x_kd_sI]; exact hr3.1)) rfl rfl (Nat.le_of_ble_eq_true rfl) (by first | exact hle3 | exact s1.le | exact ⟨Nat.le_trans s1.le.1 hFt.le.1, Nat.le_trans s1.le.2 hFt.le.2⟩) (hct) ?_
        show x_E _ _ _ _ 23 _ [x_r (some (x_sz h1))] _
        refine x_astore_n (i := 3) (lv' := [(0, x_r (some rd)), (1, x_r (some (x_sz h))), (2, x_i (nI tt)), (3, x_r (some (x_sz h1)))]) dX5_readSum_23 rfl (by decide) rfl ?_
        refine x_aload_n (i := 3) (o := some (x_sz h1)) dX5_readSum_24 rfl rfl ?_
        refine x_ifnonnull (o := some (x_sz h1)) (tgt := 30) dX5_readSum_25 (by decide) (fun _ _ => ?_) (fun c => absurd c (by simp))
        refine x_aload_n (i := 1) (o := some (x_sz h)) dX5_readSum_30 rfl rfl ?_
        refine x_aload_n (i := 3) (o := some (x_sz h1)) dX5_readSum_31 rfl rfl ?_
        refine x_callV (a := x_sz h) (av := [x_r (some (x_sz h1))]) (rest := []) (r := none) (h1 := h3) dX5_readSum_32 sX5_readSum_131 (by first | exact hk3 | exact hk2 | (simp only [x_kd_sI]; exact hk3)) rfl rfl (Nat.le_of_ble_eq_true rfl) ⟨Nat.le_trans s1.le.1 hFt.le.1, Nat.le_trans s1.le.2 hFt.le.2⟩ (hadd) ?_
        show x_E _ _ _ _ 35 _ [] _
        refine x_E.eq (h2 := x_sI h3 802 w (nI e2)) ?_ rfl rfl rfl (x_sI_id h83).symm
        refine x_aload_n (i := 1) (o := some (x_sz h)) dX5_readSum_35 rfl rfl ?_
        refine x_aload_n (i := 0) (o := some rd) dX5_readSum_36 rfl rfl ?_
        refine x_getRv (v := some w) dX5_readSum_37 fX5_readSum_18 (i := 501) rfl rfl (by first | exact hr1.1 | exact hr3.1 | (simp only [x_kd_sI]; exact hr3.1)) ((by first | exact hr3.2 | (simp only [x_fr_sI]; exact hr3.2))) ?_
        refine x_gets (v := x_r (some (ad 11))) dX5_readSum_40 fX5_readSum_135 (fun U hU => ((hG U hU).2.2.1 11 (by decide)).1) ?_
        by_cases q13 : C e2 = -13
        · skip
          have hbq13 := hT3.2.2.2.2.2.2.c q13 (by decide)
          refine x_callV (a := w) (av := [x_r (some (ad 11))]) (rest := [x_r (some (x_sz h))]) (r := (some (x_i 1))) (h1 := x_sI h3 802 w (nI (e2 + 1))) dX5_readSum_43 sX5_readSum_34 (by first | exact hT3.1.1 | (simp only [x_kd_sI]; exact hT3.1.1)) rfl rfl (Nat.le_of_ble_eq_true rfl) (by first | exact hle3 | exact s1.le | exact ⟨Nat.le_trans s1.le.1 hFt.le.1, Nat.le_trans s1.le.2 hFt.le.2⟩) (d_take_t hG hT3 (k := 11) (by decide) q13) ?_
          show x_E _ _ _ _ 46 _ [x_i 1, x_r (some (x_sz h))] _
          refine x_putI (i := 402) dX5_readSum_46 pX5_readSum_117 rfl rfl (by first | exact hk3 | exact hk2 | (simp only [x_kd_sI]; exact hk3)) (rfl) (by rfl) ?_
          rw [show x_sI (x_sI h3 802 w (nI (e2 + 1))) 402 (x_sz h) 1 = x_sI (x_sI h3 402 (x_sz h) 1) 802 w (nI (e2 + 1)) from x_sI_cm (by decide)]
          refine x_aload_n (i := 1) (o := some (x_sz h)) dX5_readSum_49 rfl rfl ?_
          refine x_getIv (v := 1) dX5_readSum_50 fX5_readSum_117 (i := 402) rfl rfl (by first | exact hk3 | exact hk2 | (simp only [x_kd_sI]; exact hk3)) (by simp [x_fi_sI]) ?_
          refine x_if_ne (tgt := 69) dX5_readSum_53 (by decide) (fun _ => ?_) (fun c => absurd c (by decide))
          refine x_aload_n (i := 1) (o := some (x_sz h)) dX5_readSum_69 rfl rfl ?_
          refine x_aload_n (i := 0) (o := some rd) dX5_readSum_70 rfl rfl ?_
          refine x_getRv (v := some w) dX5_readSum_71 fX5_readSum_18 (i := 501) rfl rfl (by first | exact hr1.1 | exact hr3.1 | (simp only [x_kd_sI]; exact hr3.1)) ((by first | exact hr3.2 | (simp only [x_fr_sI]; exact hr3.2))) ?_
          refine x_iconst (v := 0) dX5_readSum_74 (by decide) ?_
          refine x_ldc (v := 999999999) dX5_readSum_75 kX5_readSum_48 ?_
          by_cases qn : q_n C 0 999999999 (e2 + 1)
          · skip
            have hbqn := hT3.2.2.2.2.2.2.n qn
            refine x_callV (a := w) (av := [x_i 0, x_i 999999999]) (rest := [x_r (some (x_sz h))]) (r := (some (x_i (C (e2 + 1))))) (h1 := x_sI (x_sI h3 402 (x_sz h) 1) 802 w (nI (e2 + 2))) dX5_readSum_77 sX5_readSum_49 (by first | exact hT3.1.1 | (simp only [x_kd_sI]; exact hT3.1.1)) rfl rfl (Nat.le_of_ble_eq_true rfl) (by first | exact hle3 | exact s1.le | exact ⟨Nat.le_trans s1.le.1 hFt.le.1, Nat.le_trans s1.le.2 hFt.le.2⟩) (d_num_t G (hT3.I (by omega)) qn) ?_
            show x_E _ _ _ _ 80 _ [x_i (C (e2 + 1)), x_r (some (x_sz h))] _
            refine x_putI (i := 403) dX5_readSum_80 pX5_readSum_124 rfl rfl (by first | exact hk3 | exact hk2 | (simp only [x_kd_sI]; exact hk3)) (rfl) (by rfl) ?_
            rw [show x_sI (x_sI (x_sI h3 402 (x_sz h) 1) 802 w (nI (e2 + 2))) 403 (x_sz h) (C (e2 + 1)) = x_sI (x_sI (x_sI h3 402 (x_sz h) 1) 403 (x_sz h) (C (e2 + 1))) 802 w (nI (e2 + 2)) from x_sI_cm (by decide)]
            refine x_aload_n (i := 1) (o := some (x_sz h)) dX5_readSum_83 rfl rfl ?_
            refine x_getIv (v := C (e2 + 1)) dX5_readSum_84 fX5_readSum_124 (i := 403) rfl rfl (by first | exact hk3 | exact hk2 | (simp only [x_kd_sI]; exact hk3)) (by simp [x_fi_sI]) ?_
            refine x_iconst (v := (-1)) dX5_readSum_87 (by decide) ?_
            refine x_icmp_ne (tgt := 95) dX5_readSum_88 (by decide) (fun c88 => ?_) (fun c88 => ?_)
            · skip
              refine x_aload_n (i := 1) (o := some (x_sz h)) dX5_readSum_95 rfl rfl ?_
              refine x_areturn dX5_readSum_96 rfl (by first | exact hle3 | exact s1.le | exact ⟨Nat.le_trans s1.le.1 hFt.le.1, Nat.le_trans s1.le.2 hFt.le.2⟩) ?_
              have ne : ¬ C e2 = -14 ∧ ¬ C e2 = -15 := by rw [q13]; decide
              have eq : q_sum C (f + 1) b = (true, e2 + 2) := by
                rw [q_sum_s, heq]
                show q_more C f e2 = _
                unfold q_more
                rw [if_neg ne.1, if_neg ne.2, q_cmp, if_neg (by rw [q13]; decide), if_pos q13, if_pos qn]
              rw [eq] at hqs
              rw [hqs]
              refine ⟨((hF3.I (i := 402) (fun z => absurd z (Nat.lt_irrefl _))).I (i := 403) (fun z => absurd z (Nat.lt_irrefl _))).I (fun _ => ⟨rfl, rfl⟩), ((hT3.I (by omega)).I (by omega)).to (b := e2 + 2) (by omega), ?_, ?_, ?_⟩
              · show p + 1 + 2 * (x_sz h3 - x_sz h) ≤ e2 + 2 + 2
                omega
              · show x_us h3 - x_us h ≤ 9 * (x_sz h3 - x_sz h)
                omega
              · have ecp : z_cp C 1501 (p + 1) = e2 := by
                  rw [hcp, show z_cp C (f + 1) b = z_cp C f (z_te C b) from if_pos hpm, ← ee2]
                  cases f with
                  | zero => rfl
                  | succ f => exact if_neg (fun z => by rcases z with z | z; exact ne.1 z; exact ne.2 z)
                have etm : z_tms C 1501 (p + 1) = L ++ [b] := by
                  rw [htms, show z_tms C (f + 1) b = b :: z_tms C f (z_te C b) from if_pos hpm, ← ee2]
                  congr 2
                  cases f with
                  | zero => rfl
                  | succ f => exact if_neg (fun z => by rcases z with z | z; exact ne.1 z; exact ne.2 z)
                refine Or.inl ⟨rfl, rfl, by show x_sz h < x_sz h3; omega, ⟨hk3, ?_, fun z => ?_, fun z => ?_, fun _ => ⟨?_, ?_, ts ++ [x_sz h1], ?_, ?_⟩⟩, ?_⟩
                · rw [show z_ik C p = 2 from by unfold z_ik; rw [if_neg (by rw [hp11]; decide), if_neg (by rw [hp11]; decide)]]
                  simp [x_fi_sI]
                  exact h43
                · rw [hp11] at z; exact absurd z (by decide)
                · rw [hp11] at z; exact absurd z (by decide)
                · rw [ecp, if_pos q13]
                  simp [x_fi_sI]
                · rw [ecp]
                  simp [x_fi_sI]
                · rw [etm]
                  exact hts3.F (((y_F.rf (P := fun f _ => f = 402 ∨ f = 403 ∨ f = 802) (R := fun _ => False)).I (fun _ => Or.inl rfl)).I (fun _ => Or.inr (Or.inl rfl)) |>.I (fun _ => Or.inr (Or.inr rfl))) (fun t _ f g1 g2 => by omega)
                · exact h53
                · exact h44
            · skip
              exact absurd c88 (z_neg1 qn.1)
          · skip
            refine x_callV (a := w) (av := [x_i 0, x_i 999999999]) (rest := [x_r (some (x_sz h))]) (r := (some (x_i ((-1))))) (h1 := x_sI (x_sI h3 402 (x_sz h) 1) 802 w (nI (e2 + 1))) dX5_readSum_77 sX5_readSum_49 (by first | exact hT3.1.1 | (simp only [x_kd_sI]; exact hT3.1.1)) rfl rfl (Nat.le_of_ble_eq_true rfl) (by first | exact hle3 | exact s1.le | exact ⟨Nat.le_trans s1.le.1 hFt.le.1, Nat.le_trans s1.le.2 hFt.le.2⟩) (d_num_f G (hT3.I (by omega)) (b := e2 + 1) (by omega) (by decide) qn) ?_
            show x_E _ _ _ _ 80 _ [x_i ((-1)), x_r (some (x_sz h))] _
            refine x_putI (i := 403) dX5_readSum_80 pX5_readSum_124 rfl rfl (by first | exact hk3 | exact hk2 | (simp only [x_kd_sI]; exact hk3)) (rfl) (by rfl) ?_
            rw [show x_sI (x_sI (x_sI h3 402 (x_sz h) 1) 802 w (nI (e2 + 1))) 403 (x_sz h) ((-1)) = x_sI (x_sI (x_sI h3 402 (x_sz h) 1) 403 (x_sz h) ((-1))) 802 w (nI (e2 + 1)) from x_sI_cm (by decide)]
            refine x_aload_n (i := 1) (o := some (x_sz h)) dX5_readSum_83 rfl rfl ?_
            refine x_getIv (v := (-1)) dX5_readSum_84 fX5_readSum_124 (i := 403) rfl rfl (by first | exact hk3 | exact hk2 | (simp only [x_kd_sI]; exact hk3)) (by simp [x_fi_sI]) ?_
            refine x_iconst (v := (-1)) dX5_readSum_87 (by decide) ?_
            refine x_icmp_ne (tgt := 95) dX5_readSum_88 (by decide) (fun c => absurd c (by decide)) (fun _ => ?_)
            refine x_null dX5_readSum_91 ?_
            refine x_goto (tgt := 96) dX5_readSum_92 (by decide) ?_
            refine x_areturn dX5_readSum_96 rfl (by first | exact hle3 | exact s1.le | exact ⟨Nat.le_trans s1.le.1 hFt.le.1, Nat.le_trans s1.le.2 hFt.le.2⟩) ?_
            have ne : ¬ C e2 = -14 ∧ ¬ C e2 = -15 := by rw [q13]; decide
            have eq : q_sum C (f + 1) b = (false, e2 + 1) := by
              rw [q_sum_s, heq]
              show q_more C f e2 = _
              unfold q_more
              rw [if_neg ne.1, if_neg ne.2, q_cmp, if_neg (by rw [q13]; decide), if_pos q13, if_neg qn]
            rw [eq] at hqs
            rw [hqs]
            refine ⟨((hF3.I (i := 402) (fun z => absurd z (Nat.lt_irrefl _))).I (i := 403) (fun z => absurd z (Nat.lt_irrefl _))).I (fun _ => ⟨rfl, rfl⟩), ((hT3.I (by omega)).I (by omega)).to (b := e2 + 1) (by omega), ?_, ?_, ?_⟩
            · show p + 1 + 2 * (x_sz h3 - x_sz h) ≤ e2 + 1 + 2
              omega
            · show x_us h3 - x_us h ≤ 9 * (x_sz h3 - x_sz h)
              omega
            · exact Or.inr ⟨rfl, rfl⟩
        · skip
          refine x_callV (a := w) (av := [x_r (some (ad 11))]) (rest := [x_r (some (x_sz h))]) (r := (some (x_i 0))) (h1 := x_sI h3 802 w (nI e2)) dX5_readSum_43 sX5_readSum_34 (by first | exact hT3.1.1 | (simp only [x_kd_sI]; exact hT3.1.1)) rfl rfl (Nat.le_of_ble_eq_true rfl) (by first | exact hle3 | exact s1.le | exact ⟨Nat.le_trans s1.le.1 hFt.le.1, Nat.le_trans s1.le.2 hFt.le.2⟩) (d_take_f hG hT3 (k := 11) (b := e2) (by omega) (by decide) q13) ?_
          show x_E _ _ _ _ 46 _ [x_i 0, x_r (some (x_sz h))] _
          refine x_putI (i := 402) dX5_readSum_46 pX5_readSum_117 rfl rfl (by first | exact hk3 | exact hk2 | (simp only [x_kd_sI]; exact hk3)) (rfl) (by rfl) ?_
          rw [show x_sI (x_sI h3 802 w (nI e2)) 402 (x_sz h) 0 = x_sI (x_sI h3 402 (x_sz h) 0) 802 w (nI e2) from x_sI_cm (by decide)]
          refine x_aload_n (i := 1) (o := some (x_sz h)) dX5_readSum_49 rfl rfl ?_
          refine x_getIv (v := 0) dX5_readSum_50 fX5_readSum_117 (i := 402) rfl rfl (by first | exact hk3 | exact hk2 | (simp only [x_kd_sI]; exact hk3)) (by simp [x_fi_sI]) ?_
          refine x_if_ne (tgt := 69) dX5_readSum_53 (by decide) (fun c => absurd c (by decide)) (fun _ => ?_)
          refine x_aload_n (i := 0) (o := some rd) dX5_readSum_56 rfl rfl ?_
          refine x_getRv (v := some w) dX5_readSum_57 fX5_readSum_18 (i := 501) rfl rfl (by first | exact hr1.1 | exact hr3.1 | (simp only [x_kd_sI]; exact hr3.1)) ((by first | exact hr3.2 | (simp only [x_fr_sI]; exact hr3.2))) ?_
          refine x_gets (v := x_r (some (ad 10))) dX5_readSum_60 fX5_readSum_138 (fun U hU => ((hG U hU).2.2.1 10 (by decide)).1) ?_
          by_cases q12 : C e2 = -12
          · skip
            have hbq12 := hT3.2.2.2.2.2.2.c q12 (by decide)
            refine x_callV (a := w) (av := [x_r (some (ad 10))]) (rest := []) (r := (some (x_i 1))) (h1 := x_sI (x_sI h3 402 (x_sz h) 0) 802 w (nI (e2 + 1))) dX5_readSum_63 sX5_readSum_34 (by first | exact hT3.1.1 | (simp only [x_kd_sI]; exact hT3.1.1)) rfl rfl (Nat.le_of_ble_eq_true rfl) (by first | exact hle3 | exact s1.le | exact ⟨Nat.le_trans s1.le.1 hFt.le.1, Nat.le_trans s1.le.2 hFt.le.2⟩) (d_take_t hG (hT3.I (by omega)) (k := 10) (by decide) q12) ?_
            show x_E _ _ _ _ 66 _ [x_i 1] _
            refine x_if_eq (tgt := 97) dX5_readSum_66 (by decide) (fun c => absurd c (by decide)) (fun _ => ?_)
            refine x_aload_n (i := 1) (o := some (x_sz h)) dX5_readSum_69 rfl rfl ?_
            refine x_aload_n (i := 0) (o := some rd) dX5_readSum_70 rfl rfl ?_
            refine x_getRv (v := some w) dX5_readSum_71 fX5_readSum_18 (i := 501) rfl rfl (by first | exact hr1.1 | exact hr3.1 | (simp only [x_kd_sI]; exact hr3.1)) ((by first | exact hr3.2 | (simp only [x_fr_sI]; exact hr3.2))) ?_
            refine x_iconst (v := 0) dX5_readSum_74 (by decide) ?_
            refine x_ldc (v := 999999999) dX5_readSum_75 kX5_readSum_48 ?_
            by_cases qn : q_n C 0 999999999 (e2 + 1)
            · skip
              have hbqn := hT3.2.2.2.2.2.2.n qn
              refine x_callV (a := w) (av := [x_i 0, x_i 999999999]) (rest := [x_r (some (x_sz h))]) (r := (some (x_i (C (e2 + 1))))) (h1 := x_sI (x_sI h3 402 (x_sz h) 0) 802 w (nI (e2 + 2))) dX5_readSum_77 sX5_readSum_49 (by first | exact hT3.1.1 | (simp only [x_kd_sI]; exact hT3.1.1)) rfl rfl (Nat.le_of_ble_eq_true rfl) (by first | exact hle3 | exact s1.le | exact ⟨Nat.le_trans s1.le.1 hFt.le.1, Nat.le_trans s1.le.2 hFt.le.2⟩) (d_num_t G (hT3.I (by omega)) qn) ?_
              show x_E _ _ _ _ 80 _ [x_i (C (e2 + 1)), x_r (some (x_sz h))] _
              refine x_putI (i := 403) dX5_readSum_80 pX5_readSum_124 rfl rfl (by first | exact hk3 | exact hk2 | (simp only [x_kd_sI]; exact hk3)) (rfl) (by rfl) ?_
              rw [show x_sI (x_sI (x_sI h3 402 (x_sz h) 0) 802 w (nI (e2 + 2))) 403 (x_sz h) (C (e2 + 1)) = x_sI (x_sI (x_sI h3 402 (x_sz h) 0) 403 (x_sz h) (C (e2 + 1))) 802 w (nI (e2 + 2)) from x_sI_cm (by decide)]
              refine x_aload_n (i := 1) (o := some (x_sz h)) dX5_readSum_83 rfl rfl ?_
              refine x_getIv (v := C (e2 + 1)) dX5_readSum_84 fX5_readSum_124 (i := 403) rfl rfl (by first | exact hk3 | exact hk2 | (simp only [x_kd_sI]; exact hk3)) (by simp [x_fi_sI]) ?_
              refine x_iconst (v := (-1)) dX5_readSum_87 (by decide) ?_
              refine x_icmp_ne (tgt := 95) dX5_readSum_88 (by decide) (fun c88 => ?_) (fun c88 => ?_)
              · skip
                refine x_aload_n (i := 1) (o := some (x_sz h)) dX5_readSum_95 rfl rfl ?_
                refine x_areturn dX5_readSum_96 rfl (by first | exact hle3 | exact s1.le | exact ⟨Nat.le_trans s1.le.1 hFt.le.1, Nat.le_trans s1.le.2 hFt.le.2⟩) ?_
                have ne : ¬ C e2 = -14 ∧ ¬ C e2 = -15 := by rw [q12]; decide
                have eq : q_sum C (f + 1) b = (true, e2 + 2) := by
                  rw [q_sum_s, heq]
                  show q_more C f e2 = _
                  unfold q_more
                  rw [if_neg ne.1, if_neg ne.2, q_cmp, if_pos q12, if_pos qn]
                rw [eq] at hqs
                rw [hqs]
                refine ⟨((hF3.I (i := 402) (fun z => absurd z (Nat.lt_irrefl _))).I (i := 403) (fun z => absurd z (Nat.lt_irrefl _))).I (fun _ => ⟨rfl, rfl⟩), ((hT3.I (by omega)).I (by omega)).to (b := e2 + 2) (by omega), ?_, ?_, ?_⟩
                · show p + 1 + 2 * (x_sz h3 - x_sz h) ≤ e2 + 2 + 2
                  omega
                · show x_us h3 - x_us h ≤ 9 * (x_sz h3 - x_sz h)
                  omega
                · have ecp : z_cp C 1501 (p + 1) = e2 := by
                    rw [hcp, show z_cp C (f + 1) b = z_cp C f (z_te C b) from if_pos hpm, ← ee2]
                    cases f with
                    | zero => rfl
                    | succ f => exact if_neg (fun z => by rcases z with z | z; exact ne.1 z; exact ne.2 z)
                  have etm : z_tms C 1501 (p + 1) = L ++ [b] := by
                    rw [htms, show z_tms C (f + 1) b = b :: z_tms C f (z_te C b) from if_pos hpm, ← ee2]
                    congr 2
                    cases f with
                    | zero => rfl
                    | succ f => exact if_neg (fun z => by rcases z with z | z; exact ne.1 z; exact ne.2 z)
                  refine Or.inl ⟨rfl, rfl, by show x_sz h < x_sz h3; omega, ⟨hk3, ?_, fun z => ?_, fun z => ?_, fun _ => ⟨?_, ?_, ts ++ [x_sz h1], ?_, ?_⟩⟩, ?_⟩
                  · rw [show z_ik C p = 2 from by unfold z_ik; rw [if_neg (by rw [hp11]; decide), if_neg (by rw [hp11]; decide)]]
                    simp [x_fi_sI]
                    exact h43
                  · rw [hp11] at z; exact absurd z (by decide)
                  · rw [hp11] at z; exact absurd z (by decide)
                  · rw [ecp, if_neg (by rw [q12]; decide)]
                    simp [x_fi_sI]
                  · rw [ecp]
                    simp [x_fi_sI]
                  · rw [etm]
                    exact hts3.F (((y_F.rf (P := fun f _ => f = 402 ∨ f = 403 ∨ f = 802) (R := fun _ => False)).I (fun _ => Or.inl rfl)).I (fun _ => Or.inr (Or.inl rfl)) |>.I (fun _ => Or.inr (Or.inr rfl))) (fun t _ f g1 g2 => by omega)
                  · exact h53
                  · exact h44
              · skip
                exact absurd c88 (z_neg1 qn.1)
            · skip
              refine x_callV (a := w) (av := [x_i 0, x_i 999999999]) (rest := [x_r (some (x_sz h))]) (r := (some (x_i ((-1))))) (h1 := x_sI (x_sI h3 402 (x_sz h) 0) 802 w (nI (e2 + 1))) dX5_readSum_77 sX5_readSum_49 (by first | exact hT3.1.1 | (simp only [x_kd_sI]; exact hT3.1.1)) rfl rfl (Nat.le_of_ble_eq_true rfl) (by first | exact hle3 | exact s1.le | exact ⟨Nat.le_trans s1.le.1 hFt.le.1, Nat.le_trans s1.le.2 hFt.le.2⟩) (d_num_f G (hT3.I (by omega)) (b := e2 + 1) (by omega) (by decide) qn) ?_
              show x_E _ _ _ _ 80 _ [x_i ((-1)), x_r (some (x_sz h))] _
              refine x_putI (i := 403) dX5_readSum_80 pX5_readSum_124 rfl rfl (by first | exact hk3 | exact hk2 | (simp only [x_kd_sI]; exact hk3)) (rfl) (by rfl) ?_
              rw [show x_sI (x_sI (x_sI h3 402 (x_sz h) 0) 802 w (nI (e2 + 1))) 403 (x_sz h) ((-1)) = x_sI (x_sI (x_sI h3 402 (x_sz h) 0) 403 (x_sz h) ((-1))) 802 w (nI (e2 + 1)) from x_sI_cm (by decide)]
              refine x_aload_n (i := 1) (o := some (x_sz h)) dX5_readSum_83 rfl rfl ?_
              refine x_getIv (v := (-1)) dX5_readSum_84 fX5_readSum_124 (i := 403) rfl rfl (by first | exact hk3 | exact hk2 | (simp only [x_kd_sI]; exact hk3)) (by simp [x_fi_sI]) ?_
              refine x_iconst (v := (-1)) dX5_readSum_87 (by decide) ?_
              refine x_icmp_ne (tgt := 95) dX5_readSum_88 (by decide) (fun c => absurd c (by decide)) (fun _ => ?_)
              refine x_null dX5_readSum_91 ?_
              refine x_goto (tgt := 96) dX5_readSum_92 (by decide) ?_
              refine x_areturn dX5_readSum_96 rfl (by first | exact hle3 | exact s1.le | exact ⟨Nat.le_trans s1.le.1 hFt.le.1, Nat.le_trans s1.le.2 hFt.le.2⟩) ?_
              have ne : ¬ C e2 = -14 ∧ ¬ C e2 = -15 := by rw [q12]; decide
              have eq : q_sum C (f + 1) b = (false, e2 + 1) := by
                rw [q_sum_s, heq]
                show q_more C f e2 = _
                unfold q_more
                rw [if_neg ne.1, if_neg ne.2, q_cmp, if_pos q12, if_neg qn]
              rw [eq] at hqs
              rw [hqs]
              refine ⟨((hF3.I (i := 402) (fun z => absurd z (Nat.lt_irrefl _))).I (i := 403) (fun z => absurd z (Nat.lt_irrefl _))).I (fun _ => ⟨rfl, rfl⟩), ((hT3.I (by omega)).I (by omega)).to (b := e2 + 1) (by omega), ?_, ?_, ?_⟩
              · show p + 1 + 2 * (x_sz h3 - x_sz h) ≤ e2 + 1 + 2
                omega
              · show x_us h3 - x_us h ≤ 9 * (x_sz h3 - x_sz h)
                omega
              · exact Or.inr ⟨rfl, rfl⟩
          · skip
            refine x_callV (a := w) (av := [x_r (some (ad 10))]) (rest := []) (r := (some (x_i 0))) (h1 := x_sI (x_sI h3 402 (x_sz h) 0) 802 w (nI e2)) dX5_readSum_63 sX5_readSum_34 (by first | exact hT3.1.1 | (simp only [x_kd_sI]; exact hT3.1.1)) rfl rfl (Nat.le_of_ble_eq_true rfl) (by first | exact hle3 | exact s1.le | exact ⟨Nat.le_trans s1.le.1 hFt.le.1, Nat.le_trans s1.le.2 hFt.le.2⟩) (d_take_f hG (hT3.I (by omega)) (k := 10) (b := e2) (by omega) (by decide) q12) ?_
            show x_E _ _ _ _ 66 _ [x_i 0] _
            refine x_if_eq (tgt := 97) dX5_readSum_66 (by decide) (fun _ => ?_) (fun c => absurd (by decide) c)
            refine x_iinc (i := 2) (x := nI tt) (v := nI (tt + 1)) (lv' := [(0, x_r (some rd)), (1, x_r (some (x_sz h))), (2, x_i (nI (tt + 1))), (3, x_r (some (x_sz h1)))]) dX5_readSum_97 rfl (nI_1 tt) (by decide) rfl ?_
            refine x_goto (tgt := 12) dX5_readSum_100 (by decide) ?_
            show x_E _ _ _ _ 12 _ _ _
            have hf1 : ∃ g, f = g + 1 := ⟨f - 1, by omega⟩
            obtain ⟨g, rfl⟩ := hf1
            refine x_drop [0, 1, 2] rfl ?_
            refine ih e2 (tt + 1) (ts ++ [x_sz h1]) (L ++ [b]) _ (by omega) (by omega) (by omega) ?_ ?_ ?_ ?_ ?_
            · rw [hqs, q_sum_s, heq]
              exact q_more_loop q12 q13
            · rw [htms, show z_tms C (g + 1 + 1) b = b :: z_tms C (g + 1) (z_te C b) from if_pos hpm, ← ee2, List.append_assoc]
              rfl
            · rw [hcp, show z_cp C (g + 1 + 1) b = z_cp C (g + 1) (z_te C b) from if_pos hpm, ← ee2]
            · refine ⟨(hF3.I (i := 402) (fun z => absurd z (Nat.lt_irrefl _))).I (fun _ => ⟨rfl, rfl⟩), (hT3.I (by omega)).to (by omega), ⟨by show x_sz h < x_sz h3; omega, hk3⟩, ?_, h44, h53, h63, hts3.F ((y_F.rf (P := fun f _ => f = 402 ∨ f = 802) (R := fun _ => False)).I (fun _ => Or.inl rfl) |>.I (fun _ => Or.inr rfl)) (fun t _ f g1 g2 => by omega), ?_, ?_⟩
              · simp [x_fi_sI]
                exact h43
              · show p + 1 + 2 * (x_sz h3 - x_sz h) ≤ e2 + 2
                omega
              · show x_us h3 - x_us h ≤ 9 * (x_sz h3 - x_sz h)
                omega
            · intro t ht
              rcases List.mem_append.mp ht with ht | ht
              · exact hgt t ht
              · cases List.mem_singleton.mp ht
                exact s3.1
      · skip
        refine x_callV (a := rd) (av := []) (rest := []) (r := (some (x_r none))) (h1 := h2) dX5_readSum_20 sX5_readSum_127 (by first | exact hr1.1 | exact hr3.1 | (simp only [x_kd_sI]; exact hr3.1)) rfl rfl (Nat.le_of_ble_eq_true rfl) (by first | exact hle3 | exact s1.le | exact ⟨Nat.le_trans s1.le.1 hFt.le.1, Nat.le_trans s1.le.2 hFt.le.2⟩) (hct) ?_
        show x_E _ _ _ _ 23 _ [x_r none] _
        refine x_astore_n (i := 3) (lv' := [(0, x_r (some rd)), (1, x_r (some (x_sz h))), (2, x_i (nI tt)), (3, x_r none)]) dX5_readSum_23 rfl (by decide) rfl ?_
        refine x_aload_n (i := 3) (o := none) dX5_readSum_24 rfl rfl ?_
        refine x_ifnonnull (o := none) (tgt := 30) dX5_readSum_25 (by decide) (fun _ c => absurd c (by simp)) (fun _ => ?_)
        refine x_null dX5_readSum_28 ?_
        refine x_areturn dX5_readSum_29 rfl (by first | exact hle3 | exact s1.le | exact ⟨Nat.le_trans s1.le.1 hFt.le.1, Nat.le_trans s1.le.2 hFt.le.2⟩) ?_
        have eq : q_sum C (f + 1) b = (false, (q_term C b).2) := by
          rw [q_sum_s]
          cases hq : q_term C b with
          | mk u v =>
            rw [hq] at eq1
            dsimp only at eq1
            subst eq1
            rfl
        rw [eq] at hqs
        rw [hqs]
        refine ⟨s1.tr hFt (fun _ _ z => z) (fun _ _ _ z => z) (fun _ z => z) (fun _ _ z => z), hTt, ?_, ?_, Or.inr ⟨rfl, rfl⟩⟩
        · have := s1.le
          have := hFt.le
          dsimp only
          omega
        · have := s1.le
          have := hFt.le
          omega
set_option maxHeartbeats 4000000 in
set_option maxRecDepth 100000 in
theorem c_readSum {G : x_G} {ad st vl : Nat → Nat} {kt : Nat × Option Nat} (hG : x_GS G ad st vl kt) {h : x_H} {w n p rd : Nat} {C : Nat → Int32} (hT : c_T h w n (p + 1) C) (hw : w + 1 < x_sz h) (hrd : rd < x_sz h ∧ x_kd h rd = 5 ∧ x_fr h 501 rd = some w) (hp11 : C p = -11) : x_Ex G mX5_readSum h [x_r (some rd)] (fun r h' => y_ri h h' w n (p + 1) 2 (q_sum C 1501 (p + 1)) p C r) := by
  have h15 := hT.2.2.2.1
  have han := hT.2.2.2.2.1
  refine x_enter mwX5_readSum (Nat.le_of_ble_eq_true rfl) ?_
  show x_E _ _ _ _ _ [(0, x_r (some rd))] _ _
  refine x_E.eq (h2 := x_sI h 802 w (nI (p + 1))) ?_ rfl rfl rfl (x_sI_id hT.2.2.1).symm
  refine x_new dX5_readSum_0 nX5_readSum_105 ⟨Nat.le_refl _, Nat.le_refl _⟩ ?_
  show x_E _ _ _ _ 3 _ [x_r (some (x_sz h))] _
  refine x_dup dX5_readSum_3 rfl ?_
  refine x_iconst (v := 2) dX5_readSum_4 (by decide) ?_
  refine x_iconst (v := (-1)) dX5_readSum_5 (by decide) ?_
  obtain ⟨_, g, ⟨rfl, hob⟩, hca⟩ := c_n_it G (h := x_nO (x_sI h 802 w (nI (p + 1))) 4 7) (t := x_sz h) x_nO_k 2 (-1)
  refine x_callI (a := x_sz h) (av := [x_i 2, x_i ((-1))]) (rest := [x_r (some (x_sz h))]) (r := none) (h1 := g) dX5_readSum_6 sX5_readSum_107 rfl rfl (Nat.le_of_ble_eq_true rfl) y_nO_F.le (hca) ?_
  show x_E _ _ _ _ 9 _ [x_r (some (x_sz h))] _
  refine x_astore_n (i := 1) (lv' := [(0, x_r (some rd)), (1, x_r (some (x_sz h)))]) dX5_readSum_9 rfl (by decide) rfl ?_
  refine x_iconst (v := 0) dX5_readSum_10 (by decide) ?_
  refine x_istore_n (i := 2) (lv' := [(0, x_r (some rd)), (1, x_r (some (x_sz h))), (2, x_i 0)]) dX5_readSum_11 rfl (by decide) rfl ?_
  show x_E _ _ _ _ 12 _ _ _
  have hFg : y_F h g (fun i q => i = 802 ∧ q = w) (fun _ => False) := y_nO_F.ob hob (Nat.le_refl _)
  have h8g : x_fi g 802 w = nI (p + 1) := (hob.2.2.2.2.2.2.2.1 802 w (by omega)).1.trans (x_nO_at (by omega))
  have hTg : c_T g w n (p + 1) C := hT.F hw hFg (by omega) (by omega) (fun z => z) h8g (by omega)
  have hfi := hob.2.2.2.2.2.2.2.2.1
  have hfr := hob.2.2.2.2.2.2.2.2.2
  have hsg : x_sz g = x_sz h + 1 := hob.1.trans rfl
  have hug : x_us g = x_us h + 7 := hob.2.1.trans rfl
  refine l_readSum hG hw hrd hp11 1501 (p + 1) 0 [] [] g (by omega) (by omega) (by omega) rfl rfl rfl ⟨hFg, hTg, ⟨by omega, (congrFun hob.2.2.1 _).trans x_nO_k⟩, hfi 400, hfr 404, hfr 405, hfr 406, ⟨rfl, ⟨List.Pairwise.nil, fun t ht => by cases ht⟩, fun j t hj => by simp at hj, fun j t a hj => by simp at hj⟩, ?_, ?_⟩ (fun t ht => by cases ht)
  · omega
  · omega
