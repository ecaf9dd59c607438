/-! THE CLASS: Reader: readTerm -/
theorem d_take_t {G : x_G} {ad st vl : Nat → Nat} {kt : Nat × Option Nat} (hG : x_GS G ad st vl kt) {h : x_H} {w n a : Nat} {C : Nat → Int32} (hT : c_T h w n a C) {k b : Nat} (hk : k < 17) (hc : C b = z_kc k) : x_Call G mX8_take (x_sI h 802 w (nI b)) [x_r (some w), x_r (some (ad k))] (some (x_i 1)) (x_sI h 802 w (nI (b + 1))) := by
  have hb : b < n := hT.2.2.2.2.2.2.lt (by rw [hc]; exact z_kc_ne hk)
  have k9 := c_take_t hG (hT.to (b := b) (by omega)) hk hc
  rw [x_sI_sI] at k9
  exact k9
theorem d_take_f {G : x_G} {ad st vl : Nat → Nat} {kt : Nat × Option Nat} (hG : x_GS G ad st vl kt) {h : x_H} {w n a : Nat} {C : Nat → Int32} (hT : c_T h w n a C) {k b : Nat} (hb : b ≤ n) (hk : k < 17) (hc : ¬ C b = z_kc k) : x_Call G mX8_take (x_sI h 802 w (nI b)) [x_r (some w), x_r (some (ad k))] (some (x_i 0)) (x_sI h 802 w (nI b)) := c_take_f hG (hT.to (b := b) hb) hk hc
theorem d_num_t (G : x_G) {h : x_H} {w n a : Nat} {C : Nat → Int32} (hT : c_T h w n a C) {lo hi : Int32} {b : Nat} (hc : q_n C lo hi b) : x_Call G mX8_takeNumber (x_sI h 802 w (nI b)) [x_r (some w), x_i lo, x_i hi] (some (x_i (C b))) (x_sI h 802 w (nI (b + 1))) := by
  have hb : b < n := hT.2.2.2.2.2.2.n hc
  have k9 := c_tnum_t G (hT.to (b := b) (by omega)) hc
  rw [x_sI_sI] at k9
  exact k9
theorem d_num_f (G : x_G) {h : x_H} {w n a : Nat} {C : Nat → Int32} (hT : c_T h w n a C) {lo hi : Int32} {b : Nat} (hb : b ≤ n) (h0 : 0 ≤ lo) (hc : ¬ q_n C lo hi b) : x_Call G mX8_takeNumber (x_sI h 802 w (nI b)) [x_r (some w), x_i lo, x_i hi] (some (x_i (-1))) (x_sI h 802 w (nI b)) := c_tnum_f G (hT.to (b := b) hb) h0 hc
theorem c_T.I {h : x_H} {w n a : Nat} {C : Nat → Int32} (hT : c_T h w n a C) {f q : Nat} {v : Int32} (hf : ¬ f = 801 ∧ ¬ f = 802) : c_T (x_sI h f q v) w n a C := by
  obtain ⟨h1, h2, h3, h4⟩ := hT
  refine ⟨h1, ?_, ?_, h4⟩
  · rw [x_fi_sI, if_neg (fun z => hf.1 z.1.symm)]
    exact h2
  · rw [x_fi_sI, if_neg (fun z => hf.2 z.1.symm)]
    exact h3
/-- what reading a term has left -/
def y_rt (h h' : x_H) (w n a : Nat) (C : Nat → Int32) (r : Option x_V) : Prop := y_F h h' (fun i q => i = 802 ∧ q = w) (fun _ => False) ∧ c_T h' w n (q_term C a).2 C ∧ a + 4 * (x_sz h' - x_sz h) ≤ (q_term C a).2 ∧ x_us h' - x_us h ≤ 9 * (x_sz h' - x_sz h) ∧ (((q_term C a).1 = true ∧ r = some (x_r (some (x_sz h))) ∧ x_sz h' = x_sz h + 1 ∧ y_tm C h' (x_sz h) a ∧ x_fr h' 705 (x_sz h) = none) ∨ ((q_term C a).1 = false ∧ r = some (x_r none)))
theorem x_sI_cm {h : x_H} {i j a b : Nat} {v u : Int32} (hij : ¬ i = j) : x_sI (x_sI h i a v) j b u = x_sI (x_sI h j b u) i a v := by
  have : x_u2 (x_u2 (x_fi h) i a v) j b u = x_u2 (x_u2 (x_fi h) j b u) i a v := by
    funext f c
    unfold x_u2
    by_cases h1 : f = i ∧ c = a
    · rw [if_neg (fun z => hij (h1.1.symm.trans z.1)), if_pos h1, if_pos h1]
    · by_cases h2 : f = j ∧ c = b
      · rw [if_pos h2, if_neg h1, if_pos h2]
      · rw [if_neg h2, if_neg h1, if_neg h1, if_neg h2]
  show (x_sz h, x_us h, x_kd h, x_u2 (x_u2 (x_fi h) i a v) j b u, x_fr h, x_fl h, x_ln h, x_rw h, x_rl h) = _
  rw [this]
  rfl
set_option maxHeartbeats 4000000 in
set_option maxRecDepth 100000 in
theorem l_rterm {G : x_G} {ad st vl : Nat → Nat} {kt : Nat × Option Nat} (hG : x_GS G ad st vl kt) {h g : x_H} {w n a rd : Nat} {C : Nat → Int32} (hTg : c_T g w n (a + 4) C) (hrd2 : x_kd g rd = 5 ∧ x_fr g 501 rd = some w) (hFg : y_F h g (fun i q => i = 802 ∧ q = w) (fun _ => False)) (hsg : x_sz g = x_sz h + 1) (hug : x_us g = x_us h + 6) (ht7 : x_kd g (x_sz h) = 7) (hmi : x_fi g 700 (x_sz h) = (if z_mi C a = true then 1 else 0)) (hwe : x_fi g 701 (x_sz h) = C (a + 1)) (hpa : x_fi g 702 (x_sz h) = C (a + 3)) (hc0 : x_fi g 703 (x_sz h) = 0) (hd1 : x_fi g 704 (x_sz h) = 1) (hnx : x_fr g 705 (x_sz h) = none) (hqt : q_term C a = q_cut C (a + 4)) (mi : Int32) : x_E G mX5_readTerm (x_D G mX5_readTerm h (fun r h' => y_rt h h' w n a C r)) h 92 [(0, x_r (some rd)), (1, x_i mi), (2, x_i (C (a + 1))), (3, x_i (C (a + 3))), (4, x_r (some (x_sz h)))] [] (x_sI g 802 w (nI (a + 4))) := by
  have h15 := hTg.2.2.2.1
  have han := hTg.2.2.2.2.1
  have hleg := hFg.le
  refine x_aload_n (i := 0) (o := some rd) dX5_readTerm_92 rfl rfl ?_
  refine x_getRv (v := some w) dX5_readTerm_93 fX5_readTerm_18 (i := 501) rfl rfl (by first | exact hrd2.1 | (simp only [x_kd_sI]; exact hrd2.1)) ((by first | exact hrd2.2 | (simp only [x_fr_sI]; exact hrd2.2))) ?_
  refine x_gets (v := x_r (some (ad 15))) dX5_readTerm_96 fX5_readTerm_155 (fun U hU => ((hG U hU).2.2.1 15 (by decide)).1) ?_
  by_cases qc : C (a + 4) = -17
  · skip
    have hbqc := hTg.2.2.2.2.2.2.c qc (by decide)
    refine x_callV (a := w) (av := [x_r (some (ad 15))]) (rest := []) (r := (some (x_i 1))) (h1 := x_sI g 802 w (nI (a + 5))) dX5_readTerm_99 sX5_readTerm_34 (by first | exact hTg.1.1 | (simp only [x_kd_sI]; exact hTg.1.1)) rfl rfl (Nat.le_of_ble_eq_true rfl) (by first | exact hleg | exact ⟨hleg.1, hleg.2⟩) (d_take_t hG hTg (k := 15) (by decide) qc) ?_
    show x_E _ _ _ _ 102 _ [x_i 1] _
    refine x_if_eq (tgt := 120) dX5_readTerm_102 (by decide) (fun c => absurd c (by decide)) (fun _ => ?_)
    refine x_aload (i := 4) (o := some (x_sz h)) dX5_readTerm_105 rfl ?_
    refine x_aload_n (i := 0) (o := some rd) dX5_readTerm_107 rfl rfl ?_
    refine x_getRv (v := some w) dX5_readTerm_108 fX5_readTerm_18 (i := 501) rfl rfl (by first | exact hrd2.1 | (simp only [x_kd_sI]; exact hrd2.1)) ((by first | exact hrd2.2 | (simp only [x_fr_sI]; exact hrd2.2))) ?_
    refine x_iconst (v := 0) dX5_readTerm_111 (by decide) ?_
    refine x_ldc (v := 999999999) dX5_readTerm_112 kX5_readTerm_48 ?_
    by_cases qn : q_n C 0 999999999 (a + 5)
    · skip
      have hbqn := hTg.2.2.2.2.2.2.n qn
      refine x_callV (a := w) (av := [x_i 0, x_i 999999999]) (rest := [x_r (some (x_sz h))]) (r := (some (x_i (C (a + 5))))) (h1 := x_sI g 802 w (nI (a + 6))) dX5_readTerm_114 sX5_readTerm_49 (by first | exact hTg.1.1 | (simp only [x_kd_sI]; exact hTg.1.1)) rfl rfl (Nat.le_of_ble_eq_true rfl) (by first | exact hleg | exact ⟨hleg.1, hleg.2⟩) (d_num_t G hTg qn) ?_
      show x_E _ _ _ _ 117 _ [x_i (C (a + 5)), x_r (some (x_sz h))] _
      refine x_putI (i := 703) dX5_readTerm_117 pX5_readTerm_158 rfl rfl (by first | exact ht7 | (simp only [x_kd_sI]; exact ht7)) (rfl) (by rfl) ?_
      refine x_aload (i := 4) (o := some (x_sz h)) dX5_readTerm_120 rfl ?_
      refine x_getIv (v := C (a + 5)) dX5_readTerm_122 fX5_readTerm_158 (i := 703) rfl rfl (by first | exact ht7 | (simp only [x_kd_sI]; exact ht7)) (by simp [x_fi_sI]) ?_
      refine x_iconst (v := (-1)) dX5_readTerm_125 (by decide) ?_
      refine x_icmp_eq (tgt := 158) dX5_readTerm_126 (by decide) (fun c126 => ?_) (fun c126 => ?_)
      · skip
        exact absurd c126 (z_neg1 qn.1)
      · skip
        refine x_aload_n (i := 0) (o := some rd) dX5_readTerm_129 rfl rfl ?_
        refine x_getRv (v := some w) dX5_readTerm_130 fX5_readTerm_18 (i := 501) rfl rfl (by first | exact hrd2.1 | (simp only [x_kd_sI]; exact hrd2.1)) ((by first | exact hrd2.2 | (simp only [x_fr_sI]; exact hrd2.2))) ?_
        refine x_gets (v := x_r (some (ad 16))) dX5_readTerm_133 fX5_readTerm_161 (fun U hU => ((hG U hU).2.2.1 16 (by decide)).1) ?_
        by_cases qb : C (a + 6) = -18
        · skip
          have hbqb := hTg.2.2.2.2.2.2.c qb (by decide)
          refine x_callV (a := w) (av := [x_r (some (ad 16))]) (rest := []) (r := (some (x_i 1))) (h1 := x_sI (x_sI g 802 w (nI (a + 7))) 703 (x_sz h) (C (a + 5))) dX5_readTerm_136 sX5_readTerm_34 (by first | exact hTg.1.1 | (simp only [x_kd_sI]; exact hTg.1.1)) rfl rfl (Nat.le_of_ble_eq_true rfl) (by first | exact hleg | exact ⟨hleg.1, hleg.2⟩) (by have k := d_take_t hG (hTg.I (f := 703) (q := x_sz h) (v := C (a + 5)) (by omega)) (k := 16) (b := a + 6) (by decide) qb; simp only [x_sI_cm (h := g) (i := 703) (j := 802) (by decide)] at k; exact k) ?_
          show x_E _ _ _ _ 139 _ [x_i 1] _
          refine x_if_eq (tgt := 158) dX5_readTerm_139 (by decide) (fun c => absurd c (by decide)) (fun _ => ?_)
          refine x_aload (i := 4) (o := some (x_sz h)) dX5_readTerm_142 rfl ?_
          refine x_aload_n (i := 0) (o := some rd) dX5_readTerm_144 rfl rfl ?_
          refine x_getRv (v := some w) dX5_readTerm_145 fX5_readTerm_18 (i := 501) rfl rfl (by first | exact hrd2.1 | (simp only [x_kd_sI]; exact hrd2.1)) ((by first | exact hrd2.2 | (simp only [x_fr_sI]; exact hrd2.2))) ?_
          refine x_iconst (v := 0) dX5_readTerm_148 (by decide) ?_
          refine x_sipush (v := 999) dX5_readTerm_149 (by decide) ?_
          by_cases qm : q_n C 0 999 (a + 7)
          · skip
            have hbqm := hTg.2.2.2.2.2.2.n qm
            refine x_callV (a := w) (av := [x_i 0, x_i 999]) (rest := [x_r (some (x_sz h))]) (r := (some (x_i (C (a + 7))))) (h1 := x_sI (x_sI g 802 w (nI (a + 8))) 703 (x_sz h) (C (a + 5))) dX5_readTerm_152 sX5_readTerm_49 (by first | exact hTg.1.1 | (simp only [x_kd_sI]; exact hTg.1.1)) rfl rfl (Nat.le_of_ble_eq_true rfl) (by first | exact hleg | exact ⟨hleg.1, hleg.2⟩) (by have k := d_num_t G (hTg.I (f := 703) (q := x_sz h) (v := C (a + 5)) (by omega)) (b := a + 7) qm; simp only [x_sI_cm (h := g) (i := 703) (j := 802) (by decide)] at k; exact k) ?_
            show x_E _ _ _ _ 155 _ [x_i (C (a + 7)), x_r (some (x_sz h))] _
            refine x_putI (i := 704) dX5_readTerm_155 pX5_readTerm_164 rfl rfl (by first | exact ht7 | (simp only [x_kd_sI]; exact ht7)) (rfl) (by rfl) ?_
            refine x_aload (i := 4) (o := some (x_sz h)) dX5_readTerm_158 rfl ?_
            refine x_getIv (v := C (a + 5)) dX5_readTerm_160 fX5_readTerm_158 (i := 703) rfl rfl (by first | exact ht7 | (simp only [x_kd_sI]; exact ht7)) (by simp [x_fi_sI]) ?_
            refine x_iconst (v := (-1)) dX5_readTerm_163 (by decide) ?_
            refine x_icmp_eq (tgt := 176) dX5_readTerm_164 (by decide) (fun c164 => ?_) (fun c164 => ?_)
            · skip
              exact absurd c164 (z_neg1 qn.1)
            · skip
              refine x_aload (i := 4) (o := some (x_sz h)) dX5_readTerm_167 rfl ?_
              refine x_getIv (v := C (a + 7)) dX5_readTerm_169 fX5_readTerm_164 (i := 704) rfl rfl (by first | exact ht7 | (simp only [x_kd_sI]; exact ht7)) (by simp [x_fi_sI]) ?_
              refine x_iconst (v := (-1)) dX5_readTerm_172 (by decide) ?_
              refine x_icmp_ne (tgt := 180) dX5_readTerm_173 (by decide) (fun c173 => ?_) (fun c173 => ?_)
              · skip
                refine x_aload (i := 4) (o := some (x_sz h)) dX5_readTerm_180 rfl ?_
                refine x_areturn dX5_readTerm_182 rfl (by first | exact hleg | exact ⟨hleg.1, hleg.2⟩) ?_
                have eq : q_cut C (a + 4) = (true, a + 8) := by
                  rw [q_cut, if_pos qc, if_pos qn, q_by, if_pos qb, if_pos qm]
                rw [eq] at hqt
                refine ⟨((hFg.I (fun _ => ⟨rfl, rfl⟩)).I (fun z => absurd z (Nat.lt_irrefl _))).I (fun z => absurd z (Nat.lt_irrefl _)), by rw [hqt]; exact ((hTg.to (b := a + 8) (by omega)).I (by omega)).I (by omega), ?_, ?_, ?_⟩
                · rw [hqt]
                  show a + 4 * (x_sz g - x_sz h) ≤ _
                  dsimp only
                  omega
                · show x_us g - x_us h ≤ 9 * (x_sz g - x_sz h)
                  omega
                · refine Or.inl ⟨by rw [hqt], rfl, hsg, ⟨ht7, ?_, ?_, ?_, ?_, ?_⟩, ?_⟩
                  · simp [x_fi_sI]; exact hmi
                  · simp [x_fi_sI]; exact hwe
                  · simp [x_fi_sI]; exact hpa
                  · rw [show z_cu C a = C (a + 5) from if_pos qc]
                    simp [x_fi_sI]
                  · rw [show z_bq C a = C (a + 7) from by unfold z_bq z_a5; rw [if_pos qc]; exact if_pos qb]
                    simp [x_fi_sI]
                  · exact hnx
              · skip
                exact absurd c173 (z_neg1 qm.1)
          · skip
            refine x_callV (a := w) (av := [x_i 0, x_i 999]) (rest := [x_r (some (x_sz h))]) (r := (some (x_i ((-1))))) (h1 := x_sI (x_sI g 802 w (nI (a + 7))) 703 (x_sz h) (C (a + 5))) dX5_readTerm_152 sX5_readTerm_49 (by first | exact hTg.1.1 | (simp only [x_kd_sI]; exact hTg.1.1)) rfl rfl (Nat.le_of_ble_eq_true rfl) (by first | exact hleg | exact ⟨hleg.1, hleg.2⟩) (by have k := d_num_f G (hTg.I (f := 703) (q := x_sz h) (v := C (a + 5)) (by omega)) (b := a + 7) (by omega) (by decide) qm; simp only [x_sI_cm (h := g) (i := 703) (j := 802) (by decide)] at k; exact k) ?_
            show x_E _ _ _ _ 155 _ [x_i ((-1)), x_r (some (x_sz h))] _
            refine x_putI (i := 704) dX5_readTerm_155 pX5_readTerm_164 rfl rfl (by first | exact ht7 | (simp only [x_kd_sI]; exact ht7)) (rfl) (by rfl) ?_
            refine x_aload (i := 4) (o := some (x_sz h)) dX5_readTerm_158 rfl ?_
            refine x_getIv (v := C (a + 5)) dX5_readTerm_160 fX5_readTerm_158 (i := 703) rfl rfl (by first | exact ht7 | (simp only [x_kd_sI]; exact ht7)) (by simp [x_fi_sI]) ?_
            refine x_iconst (v := (-1)) dX5_readTerm_163 (by decide) ?_
            refine x_icmp_eq (tgt := 176) dX5_readTerm_164 (by decide) (fun c164 => ?_) (fun c164 => ?_)
            · skip
              exact absurd c164 (z_neg1 qn.1)
            · skip
              refine x_aload (i := 4) (o := some (x_sz h)) dX5_readTerm_167 rfl ?_
              refine x_getIv (v := (-1)) dX5_readTerm_169 fX5_readTerm_164 (i := 704) rfl rfl (by first | exact ht7 | (simp only [x_kd_sI]; exact ht7)) (by simp [x_fi_sI]) ?_
              refine x_iconst (v := (-1)) dX5_readTerm_172 (by decide) ?_
              refine x_icmp_ne (tgt := 180) dX5_readTerm_173 (by decide) (fun c => absurd c (by decide)) (fun _ => ?_)
              refine x_null dX5_readTerm_176 ?_
              refine x_goto (tgt := 182) dX5_readTerm_177 (by decide) ?_
              refine x_areturn dX5_readTerm_182 rfl (by first | exact hleg | exact ⟨hleg.1, hleg.2⟩) ?_
              have eq : q_cut C (a + 4) = (false, a + 7) := by
                rw [q_cut, if_pos qc, if_pos qn, q_by, if_pos qb, if_neg qm]
              rw [eq] at hqt
              refine ⟨((hFg.I (fun _ => ⟨rfl, rfl⟩)).I (fun z => absurd z (Nat.lt_irrefl _))).I (fun z => absurd z (Nat.lt_irrefl _)), by rw [hqt]; exact ((hTg.to (b := a + 7) (by omega)).I (by omega)).I (by omega), ?_, ?_, ?_⟩
              · rw [hqt]
                show a + 4 * (x_sz g - x_sz h) ≤ _
                dsimp only
                omega
              · show x_us g - x_us h ≤ 9 * (x_sz g - x_sz h)
                omega
              · exact Or.inr ⟨by rw [hqt], rfl⟩
        · skip
          refine x_callV (a := w) (av := [x_r (some (ad 16))]) (rest := []) (r := (some (x_i 0))) (h1 := x_sI (x_sI g 802 w (nI (a + 6))) 703 (x_sz h) (C (a + 5))) dX5_readTerm_136 sX5_readTerm_34 (by first | exact hTg.1.1 | (simp only [x_kd_sI]; exact hTg.1.1)) rfl rfl (Nat.le_of_ble_eq_true rfl) (by first | exact hleg | exact ⟨hleg.1, hleg.2⟩) (by have k := d_take_f hG (hTg.I (f := 703) (q := x_sz h) (v := C (a + 5)) (by omega)) (k := 16) (b := a + 6) (by omega) (by decide) qb; simp only [x_sI_cm (h := g) (i := 703) (j := 802) (by decide)] at k; exact k) ?_
          show x_E _ _ _ _ 139 _ [x_i 0] _
          refine x_if_eq (tgt := 158) dX5_readTerm_139 (by decide) (fun _ => ?_) (fun c => absurd (by decide) c)
          refine x_aload (i := 4) (o := some (x_sz h)) dX5_readTerm_158 rfl ?_
          refine x_getIv (v := C (a + 5)) dX5_readTerm_160 fX5_readTerm_158 (i := 703) rfl rfl (by first | exact ht7 | (simp only [x_kd_sI]; exact ht7)) (by simp [x_fi_sI]) ?_
          refine x_iconst (v := (-1)) dX5_readTerm_163 (by decide) ?_
          refine x_icmp_eq (tgt := 176) dX5_readTerm_164 (by decide) (fun c164 => ?_) (fun c164 => ?_)
          · skip
            exact absurd c164 (z_neg1 qn.1)
          · skip
            refine x_aload (i := 4) (o := some (x_sz h)) dX5_readTerm_167 rfl ?_
            refine x_getIv (v := 1) dX5_readTerm_169 fX5_readTerm_164 (i := 704) rfl rfl (by first | exact ht7 | (simp only [x_kd_sI]; exact ht7)) (by simp [x_fi_sI]; exact hd1) ?_
            refine x_iconst (v := (-1)) dX5_readTerm_172 (by decide) ?_
            refine x_icmp_ne (tgt := 180) dX5_readTerm_173 (by decide) (fun _ => ?_) (fun c => absurd c (by decide))
            refine x_aload (i := 4) (o := some (x_sz h)) dX5_readTerm_180 rfl ?_
            refine x_areturn dX5_readTerm_182 rfl (by first | exact hleg | exact ⟨hleg.1, hleg.2⟩) ?_
            have eq : q_cut C (a + 4) = (true, a + 6) := by
              rw [q_cut, if_pos qc, if_pos qn, q_by, if_neg qb]
            rw [eq] at hqt
            refine ⟨(hFg.I (fun _ => ⟨rfl, rfl⟩)).I (fun z => absurd z (Nat.lt_irrefl _)), by rw [hqt]; exact (hTg.to (b := a + 6) (by omega)).I (by omega), ?_, ?_, ?_⟩
            · rw [hqt]
              show a + 4 * (x_sz g - x_sz h) ≤ _
              dsimp only
              omega
            · show x_us g - x_us h ≤ 9 * (x_sz g - x_sz h)
              omega
            · refine Or.inl ⟨by rw [hqt], rfl, hsg, ⟨ht7, ?_, ?_, ?_, ?_, ?_⟩, ?_⟩
              · simp [x_fi_sI]; exact hmi
              · simp [x_fi_sI]; exact hwe
              · simp [x_fi_sI]; exact hpa
              · rw [show z_cu C a = C (a + 5) from if_pos qc]
                simp [x_fi_sI]
              · rw [show z_bq C a = 1 from by unfold z_bq z_a5; rw [if_pos qc]; exact if_neg qb]
                simp [x_fi_sI]
                exact hd1
              · exact hnx
    · skip
      refine x_callV (a := w) (av := [x_i 0, x_i 999999999]) (rest := [x_r (some (x_sz h))]) (r := (some (x_i ((-1))))) (h1 := x_sI g 802 w (nI (a + 5))) dX5_readTerm_114 sX5_readTerm_49 (by first | exact hTg.1.1 | (simp only [x_kd_sI]; exact hTg.1.1)) rfl rfl (Nat.le_of_ble_eq_true rfl) (by first | exact hleg | exact ⟨hleg.1, hleg.2⟩) (d_num_f G hTg (b := a + 5) (by omega) (by decide) qn) ?_
      show x_E _ _ _ _ 117 _ [x_i ((-1)), x_r (some (x_sz h))] _
      refine x_putI (i := 703) dX5_readTerm_117 pX5_readTerm_158 rfl rfl (by first | exact ht7 | (simp only [x_kd_sI]; exact ht7)) (rfl) (by rfl) ?_
      refine x_aload (i := 4) (o := some (x_sz h)) dX5_readTerm_120 rfl ?_
      refine x_getIv (v := (-1)) dX5_readTerm_122 fX5_readTerm_158 (i := 703) rfl rfl (by first | exact ht7 | (simp only [x_kd_sI]; exact ht7)) (by simp [x_fi_sI]) ?_
      refine x_iconst (v := (-1)) dX5_readTerm_125 (by decide) ?_
      refine x_icmp_eq (tgt := 158) dX5_readTerm_126 (by decide) (fun _ => ?_) (fun c => absurd (by decide) c)
      refine x_aload (i := 4) (o := some (x_sz h)) dX5_readTerm_158 rfl ?_
      refine x_getIv (v := (-1)) dX5_readTerm_160 fX5_readTerm_158 (i := 703) rfl rfl (by first | exact ht7 | (simp only [x_kd_sI]; exact ht7)) (by simp [x_fi_sI]) ?_
      refine x_iconst (v := (-1)) dX5_readTerm_163 (by decide) ?_
      refine x_icmp_eq (tgt := 176) dX5_readTerm_164 (by decide) (fun _ => ?_) (fun c => absurd (by decide) c)
      refine x_null dX5_readTerm_176 ?_
      refine x_goto (tgt := 182) dX5_readTerm_177 (by decide) ?_
      refine x_areturn dX5_readTerm_182 rfl (by first | exact hleg | exact ⟨hleg.1, hleg.2⟩) ?_
      have eq : q_cut C (a + 4) = (false, a + 5) := by
        rw [q_cut, if_pos qc, if_neg qn]
      rw [eq] at hqt
      refine ⟨(hFg.I (fun _ => ⟨rfl, rfl⟩)).I (fun z => absurd z (Nat.lt_irrefl _)), by rw [hqt]; exact (hTg.to (b := a + 5) (by omega)).I (by omega), ?_, ?_, ?_⟩
      · rw [hqt]
        show a + 4 * (x_sz g - x_sz h) ≤ _
        dsimp only
        omega
      · show x_us g - x_us h ≤ 9 * (x_sz g - x_sz h)
        omega
      · exact Or.inr ⟨by rw [hqt], rfl⟩
  · skip
    refine x_callV (a := w) (av := [x_r (some (ad 15))]) (rest := []) (r := (some (x_i 0))) (h1 := x_sI g 802 w (nI (a + 4))) dX5_readTerm_99 sX5_readTerm_34 (by first | exact hTg.1.1 | (simp only [x_kd_sI]; exact hTg.1.1)) rfl rfl (Nat.le_of_ble_eq_true rfl) (by first | exact hleg | exact ⟨hleg.1, hleg.2⟩) (d_take_f hG hTg (k := 15) (b := a + 4) (by omega) (by decide) qc) ?_
    show x_E _ _ _ _ 102 _ [x_i 0] _
    refine x_if_eq (tgt := 120) dX5_readTerm_102 (by decide) (fun _ => ?_) (fun c => absurd (by decide) c)
    refine x_aload (i := 4) (o := some (x_sz h)) dX5_readTerm_120 rfl ?_
    refine x_getIv (v := 0) dX5_readTerm_122 fX5_readTerm_158 (i := 703) rfl rfl (by first | exact ht7 | (simp only [x_kd_sI]; exact ht7)) (by simp only [x_fi_sI]; simp; exact hc0) ?_
    refine x_iconst (v := (-1)) dX5_readTerm_125 (by decide) ?_
    refine x_icmp_eq (tgt := 158) dX5_readTerm_126 (by decide) (fun c => absurd c (by decide)) (fun _ => ?_)
    refine x_aload_n (i := 0) (o := some rd) dX5_readTerm_129 rfl rfl ?_
    refine x_getRv (v := some w) dX5_readTerm_130 fX5_readTerm_18 (i := 501) rfl rfl (by first | exact hrd2.1 | (simp only [x_kd_sI]; exact hrd2.1)) ((by first | exact hrd2.2 | (simp only [x_fr_sI]; exact hrd2.2))) ?_
    refine x_gets (v := x_r (some (ad 16))) dX5_readTerm_133 fX5_readTerm_161 (fun U hU => ((hG U hU).2.2.1 16 (by decide)).1) ?_
    by_cases qb : C (a + 4) = -18
    · skip
      have hbqb := hTg.2.2.2.2.2.2.c qb (by decide)
      refine x_callV (a := w) (av := [x_r (some (ad 16))]) (rest := []) (r := (some (x_i 1))) (h1 := x_sI g 802 w (nI (a + 5))) dX5_readTerm_136 sX5_readTerm_34 (by first | exact hTg.1.1 | (simp only [x_kd_sI]; exact hTg.1.1)) rfl rfl (Nat.le_of_ble_eq_true rfl) (by first | exact hleg | exact ⟨hleg.1, hleg.2⟩) (d_take_t hG hTg (k := 16) (b := a + 4) (by decide) qb) ?_
      show x_E _ _ _ _ 139 _ [x_i 1] _
      refine x_if_eq (tgt := 158) dX5_readTerm_139 (by decide) (fun c => absurd c (by decide)) (fun _ => ?_)
      refine x_aload (i := 4) (o := some (x_sz h)) dX5_readTerm_142 rfl ?_
      refine x_aload_n (i := 0) (o := some rd) dX5_readTerm_144 rfl rfl ?_
      refine x_getRv (v := some w) dX5_readTerm_145 fX5_readTerm_18 (i := 501) rfl rfl (by first | exact hrd2.1 | (simp only [x_kd_sI]; exact hrd2.1)) ((by first | exact hrd2.2 | (simp only [x_fr_sI]; exact hrd2.2))) ?_
      refine x_iconst (v := 0) dX5_readTerm_148 (by decide) ?_
      refine x_sipush (v := 999) dX5_readTerm_149 (by decide) ?_
      by_cases qm : q_n C 0 999 (a + 5)
      · skip
        have hbqm := hTg.2.2.2.2.2.2.n qm
        refine x_callV (a := w) (av := [x_i 0, x_i 999]) (rest := [x_r (some (x_sz h))]) (r := (some (x_i (C (a + 5))))) (h1 := x_sI g 802 w (nI (a + 6))) dX5_readTerm_152 sX5_readTerm_49 (by first | exact hTg.1.1 | (simp only [x_kd_sI]; exact hTg.1.1)) rfl rfl (Nat.le_of_ble_eq_true rfl) (by first | exact hleg | exact ⟨hleg.1, hleg.2⟩) (d_num_t G hTg (b := a + 5) qm) ?_
        show x_E _ _ _ _ 155 _ [x_i (C (a + 5)), x_r (some (x_sz h))] _
        refine x_putI (i := 704) dX5_readTerm_155 pX5_readTerm_164 rfl rfl (by first | exact ht7 | (simp only [x_kd_sI]; exact ht7)) (rfl) (by rfl) ?_
        refine x_aload (i := 4) (o := some (x_sz h)) dX5_readTerm_158 rfl ?_
        refine x_getIv (v := 0) dX5_readTerm_160 fX5_readTerm_158 (i := 703) rfl rfl (by first | exact ht7 | (simp only [x_kd_sI]; exact ht7)) (by simp only [x_fi_sI]; simp; exact hc0) ?_
        refine x_iconst (v := (-1)) dX5_readTerm_163 (by decide) ?_
        refine x_icmp_eq (tgt := 176) dX5_readTerm_164 (by decide) (fun c => absurd c (by decide)) (fun _ => ?_)
        refine x_aload (i := 4) (o := some (x_sz h)) dX5_readTerm_167 rfl ?_
        refine x_getIv (v := C (a + 5)) dX5_readTerm_169 fX5_readTerm_164 (i := 704) rfl rfl (by first | exact ht7 | (simp only [x_kd_sI]; exact ht7)) (by simp [x_fi_sI]) ?_
        refine x_iconst (v := (-1)) dX5_readTerm_172 (by decide) ?_
        refine x_icmp_ne (tgt := 180) dX5_readTerm_173 (by decide) (fun c173 => ?_) (fun c173 => ?_)
        · skip
          refine x_aload (i := 4) (o := some (x_sz h)) dX5_readTerm_180 rfl ?_
          refine x_areturn dX5_readTerm_182 rfl (by first | exact hleg | exact ⟨hleg.1, hleg.2⟩) ?_
          have eq : q_cut C (a + 4) = (true, a + 6) := by
            rw [q_cut, if_neg qc, q_by, if_pos qb, if_pos qm]
          rw [eq] at hqt
          refine ⟨(hFg.I (fun _ => ⟨rfl, rfl⟩)).I (fun z => absurd z (Nat.lt_irrefl _)), by rw [hqt]; exact (hTg.to (b := a + 6) (by omega)).I (by omega), ?_, ?_, ?_⟩
          · rw [hqt]
            show a + 4 * (x_sz g - x_sz h) ≤ _
            dsimp only
            omega
          · show x_us g - x_us h ≤ 9 * (x_sz g - x_sz h)
            omega
          · refine Or.inl ⟨by rw [hqt], rfl, hsg, ⟨ht7, ?_, ?_, ?_, ?_, ?_⟩, ?_⟩
            · simp [x_fi_sI]; exact hmi
            · simp [x_fi_sI]; exact hwe
            · simp [x_fi_sI]; exact hpa
            · rw [show z_cu C a = 0 from if_neg qc]
              simp [x_fi_sI]
              exact hc0
            · rw [show z_bq C a = C (a + 5) from by unfold z_bq z_a5; rw [if_neg qc]; exact if_pos qb]
              simp [x_fi_sI]
            · exact hnx
        · skip
          exact absurd c173 (z_neg1 qm.1)
      · skip
        refine x_callV (a := w) (av := [x_i 0, x_i 999]) (rest := [x_r (some (x_sz h))]) (r := (some (x_i ((-1))))) (h1 := x_sI g 802 w (nI (a + 5))) dX5_readTerm_152 sX5_readTerm_49 (by first | exact hTg.1.1 | (simp only [x_kd_sI]; exact hTg.1.1)) rfl rfl (Nat.le_of_ble_eq_true rfl) (by first | exact hleg | exact ⟨hleg.1, hleg.2⟩) (d_num_f G hTg (b := a + 5) (by omega) (by decide) qm) ?_
        show x_E _ _ _ _ 155 _ [x_i ((-1)), x_r (some (x_sz h))] _
        refine x_putI (i := 704) dX5_readTerm_155 pX5_readTerm_164 rfl rfl (by first | exact ht7 | (simp only [x_kd_sI]; exact ht7)) (rfl) (by rfl) ?_
        refine x_aload (i := 4) (o := some (x_sz h)) dX5_readTerm_158 rfl ?_
        refine x_getIv (v := 0) dX5_readTerm_160 fX5_readTerm_158 (i := 703) rfl rfl (by first | exact ht7 | (simp only [x_kd_sI]; exact ht7)) (by simp only [x_fi_sI]; simp; exact hc0) ?_
        refine x_iconst (v := (-1)) dX5_readTerm_163 (by decide) ?_
        refine x_icmp_eq (tgt := 176) dX5_readTerm_164 (by decide) (fun c => absurd c (by decide)) (fun _ => ?_)
        refine x_aload (i := 4) (o := some (x_sz h)) dX5_readTerm_167 rfl ?_
        refine x_getIv (v := (-1)) dX5_readTerm_169 fX5_readTerm_164 (i := 704) rfl rfl (by first | exact ht7 | (simp only [x_kd_sI]; exact ht7)) (by simp [x_fi_sI]) ?_
        refine x_iconst (v := (-1)) dX5_readTerm_172 (by decide) ?_
        refine x_icmp_ne (tgt := 180) dX5_readTerm_173 (by decide) (fun c => absurd c (by decide)) (fun _ => ?_)
        refine x_null dX5_readTerm_176 ?_
        refine x_goto (tgt := 182) dX5_readTerm_177 (by decide) ?_
        refine x_areturn dX5_readTerm_182 rfl (by first | exact hleg | exact ⟨hleg.1, hleg.2⟩) ?_
        have eq : q_cut C (a + 4) = (false, a + 5) := by
          rw [q_cut, if_neg qc, q_by, if_pos qb, if_neg qm]
        rw [eq] at hqt
        refine ⟨(hFg.I (fun _ => ⟨rfl, rfl⟩)).I (fun z => absurd z (Nat.lt_irrefl _)), by rw [hqt]; exact (hTg.to (b := a + 5) (by omega)).I (by omega), ?_, ?_, ?_⟩
        · rw [hqt]
          show a + 4 * (x_sz g - x_sz h) ≤ _
          dsimp only
          omega
        · show x_us g - x_us h ≤ 9 * (x_sz g - x_sz h)
          omega
        · exact Or.inr ⟨by rw [hqt], rfl⟩
    · skip
      refine x_callV (a := w) (av := [x_r (some (ad 16))]) (rest := []) (r := (some (x_i 0))) (h1 := x_sI g 802 w (nI (a + 4))) dX5_readTerm_136 sX5_readTerm_34 (by first | exact hTg.1.1 | (simp only [x_kd_sI]; exact hTg.1.1)) rfl rfl (Nat.le_of_ble_eq_true rfl) (by first | exact hleg | exact ⟨hleg.1, hleg.2⟩) (d_take_f hG hTg (k := 16) (b := a + 4) (by omega) (by decide) qb) ?_
      show x_E _ _ _ _ 139 _ [x_i 0] _
      refine x_if_eq (tgt := 158) dX5_readTerm_139 (by decide) (fun _ => ?_) (fun c => absurd (by decide) c)
      refine x_aload (i := 4) (o := some (x_sz h)) dX5_readTerm_158 rfl ?_
      refine x_getIv (v := 0) dX5_readTerm_160 fX5_readTerm_158 (i := 703) rfl rfl (by first | exact ht7 | (simp only [x_kd_sI]; exact ht7)) (by simp only [x_fi_sI]; simp; exact hc0) ?_
      refine x_iconst (v := (-1)) dX5_readTerm_163 (by decide) ?_
      refine x_icmp_eq (tgt := 176) dX5_readTerm_164 (by decide) (fun c => absurd c (by decide)) (fun _ => ?_)
      refine x_aload (i := 4) (o := some (x_sz h)) dX5_readTerm_167 rfl ?_
      refine x_getIv (v := 1) dX5_readTerm_169 fX5_readTerm_164 (i := 704) rfl rfl (by first | exact ht7 | (simp only [x_kd_sI]; exact ht7)) (by simp [x_fi_sI]; exact hd1) ?_
      refine x_iconst (v := (-1)) dX5_readTerm_172 (by decide) ?_
      refine x_icmp_ne (tgt := 180) dX5_readTerm_173 (by decide) (fun _ => ?_) (fun c => absurd c (by decide))
      refine x_aload (i := 4) (o := some (x_sz h)) dX5_readTerm_180 rfl ?_
      refine x_areturn dX5_readTerm_182 rfl (by first | exact hleg | exact ⟨hleg.1, hleg.2⟩) ?_
      have eq : q_cut C (a + 4) = (true, a + 4) := by
        rw [q_cut, if_neg qc, q_by, if_neg qb]
      rw [eq] at hqt
      refine ⟨hFg.I (fun _ => ⟨rfl, rfl⟩), by rw [hqt]; exact hTg.to (b := a + 4) (by omega), ?_, ?_, ?_⟩
      · rw [hqt]
        show a + 4 * (x_sz g - x_sz h) ≤ _
        dsimp only
        omega
      · show x_us g - x_us h ≤ 9 * (x_sz g - x_sz h)
        omega
      · refine Or.inl ⟨by rw [hqt], rfl, hsg, ⟨ht7, ?_, ?_, ?_, ?_, ?_⟩, ?_⟩
        · simp [x_fi_sI]; exact hmi
        · simp [x_fi_sI]; exact hwe
        · simp [x_fi_sI]; exact hpa
        · rw [show z_cu C a = 0 from if_neg qc]
          simp [x_fi_sI]
          exact hc0
        · rw [show z_bq C a = 1 from by unfold z_bq z_a5; rw [if_neg qc]; exact if_neg qb]
          simp [x_fi_sI]
          exact hd1
        · exact hnx
