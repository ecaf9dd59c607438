/-! THE CLASS: Facts -/
def f_P (h : x_H) (fa : Nat) : Prop := x_kd h fa = 3 ∧ (x_fr h 301 fa = some (fa + 1) ∧ x_kd h (fa + 1) = 23 ∧ x_ln h (fa + 1) = 16) ∧ (x_fr h 302 fa = some (fa + 2) ∧ x_kd h (fa + 2) = 23 ∧ x_ln h (fa + 2) = 16) ∧ (x_fr h 303 fa = some (fa + 3) ∧ x_kd h (fa + 3) = 22 ∧ x_ln h (fa + 3) = 16) ∧ (x_fr h 304 fa = some (fa + 4) ∧ x_kd h (fa + 4) = 20 ∧ x_ln h (fa + 4) = 8)
def f_X (h : x_H) (fa : Nat) (X : z_X) : Prop := (∀ p, p < 16 → x_rw h (fa + 3) p = (if X.1 p = true then 1 else 0) ∧ x_rl h (fa + 1) p = X.2.1 p ∧ x_rl h (fa + 2) p = X.2.2.1 p) ∧ (∀ t, t < 8 → x_rw h (fa + 4) t = X.2.2.2.1 t) ∧ x_fi h 300 fa = if X.2.2.2.2 = true then 1 else 0
set_option maxHeartbeats 4000000 in
set_option maxRecDepth 100000 in
theorem c_setSpan_t (G : x_G) {h : x_H} {fa : Nat} (hf : f_P h fa) {p : Nat} (h16 : p < 16) {lo hi : Int64} (h1 : 0 ≤ lo) (h2 : lo ≤ hi) (h3 : hi ≤ 1000000) : x_Call G mX2_setSpan h [x_r (some fa), x_i (nI p), x_l lo, x_l hi] (some (x_i 1)) (x_sA (x_sJ (x_sJ h (fa + 1) p lo) (fa + 2) p hi) (fa + 3) p 1) := by
  refine x_Ex.call (x_enter mwX2_setSpan (Nat.le_of_ble_eq_true rfl) ?_)
  show x_E _ _ _ _ _ [(0, x_r (some fa)), (1, x_i (nI p)), (2, x_l lo), (4, x_l hi)] _ _
  refine x_iload_n (i := 1) (x := nI p) dX2_setSpan_0 rfl rfl ?_
  refine x_if_lt (tgt := 32) dX2_setSpan_1 (by decide) (fun c1 => ?_) (fun c1 => ?_)
  · skip
    exact absurd c1 (nI_pos (by omega))
  · skip
    refine x_iload_n (i := 1) (x := nI p) dX2_setSpan_4 rfl rfl ?_
    refine x_bipush (v := 16) dX2_setSpan_5 (by decide) ?_
    refine x_icmp_ge (tgt := 32) dX2_setSpan_7 (by decide) (fun c7 => ?_) (fun c7 => ?_)
    · skip
      exact absurd ((nI_leI (a := 16) (by omega) (by omega)).mp c7) (by omega)
    · skip
      refine x_lload_n (i := 2) (x := lo) dX2_setSpan_10 rfl rfl ?_
      refine x_lconst (v := 0) dX2_setSpan_11 (by decide) ?_
      refine x_lcmp dX2_setSpan_12 ?_
      refine x_if_lt (tgt := 32) dX2_setSpan_13 (by decide) (fun c13 => ?_) (fun c13 => ?_)
      · skip
        exact absurd h1 (Int64.not_le.mpr ((lg_cmp_lt _ _).mp c13))
      · skip
        refine x_lload_n (i := 2) (x := lo) dX2_setSpan_16 rfl rfl ?_
        refine x_lload (i := 4) (x := hi) dX2_setSpan_17 rfl ?_
        refine x_lcmp dX2_setSpan_19 ?_
        refine x_if_gt (tgt := 32) dX2_setSpan_20 (by decide) (fun c20 => ?_) (fun c20 => ?_)
        · skip
          exact absurd h2 (Int64.not_le.mpr ((lg_cmp_gt _ _).mp c20))
        · skip
          refine x_lload (i := 4) (x := hi) dX2_setSpan_23 rfl ?_
          refine x_ldc2 (v := 1000000) dX2_setSpan_25 kX2_setSpan_36 ?_
          refine x_lcmp dX2_setSpan_28 ?_
          refine x_if_le (tgt := 34) dX2_setSpan_29 (by decide) (fun c29 => ?_) (fun c29 => ?_)
          · skip
            refine x_aload_n (i := 0) (o := some fa) dX2_setSpan_34 rfl rfl ?_
            refine x_getRv (v := some (fa + 1)) dX2_setSpan_35 fX2_setSpan_15 (i := 301) rfl rfl (by first | (simp only [x_kd_sI, x_kd_sA, x_kd_sJ]; exact hf.1) | exact hf.1) ((by first | (simp only [x_fr_sI, x_fr_sA, x_fr_sJ]; exact hf.2.1.1) | exact hf.2.1.1)) ?_
            refine x_iload_n (i := 1) (x := nI p) dX2_setSpan_38 rfl rfl ?_
            refine x_lload_n (i := 2) (x := lo) dX2_setSpan_39 rfl rfl ?_
            refine x_lastoreN (n := p) dX2_setSpan_40 (by first | (simp only [x_kd_sI, x_kd_sA, x_kd_sJ]; exact hf.2.1.2.1) | exact hf.2.1.2.1) (rfl) (by first | (rw [hf.2.1.2.2]; omega) | (simp only [x_ln_sI, x_ln_sA, x_ln_sJ]; rw [hf.2.1.2.2]; omega)) (by first | (rw [hf.2.1.2.2]; omega) | (simp only [x_ln_sI, x_ln_sA, x_ln_sJ]; rw [hf.2.1.2.2]; omega)) ?_
            refine x_aload_n (i := 0) (o := some fa) dX2_setSpan_41 rfl rfl ?_
            refine x_getRv (v := some (fa + 2)) dX2_setSpan_42 fX2_setSpan_19 (i := 302) rfl rfl (by first | (simp only [x_kd_sI, x_kd_sA, x_kd_sJ]; exact hf.1) | exact hf.1) ((by first | (simp only [x_fr_sI, x_fr_sA, x_fr_sJ]; exact hf.2.2.1.1) | exact hf.2.2.1.1)) ?_
            refine x_iload_n (i := 1) (x := nI p) dX2_setSpan_45 rfl rfl ?_
            refine x_lload (i := 4) (x := hi) dX2_setSpan_46 rfl ?_
            refine x_lastoreN (n := p) dX2_setSpan_48 (by first | (simp only [x_kd_sI, x_kd_sA, x_kd_sJ]; exact hf.2.2.1.2.1) | exact hf.2.2.1.2.1) (rfl) (by first | (rw [hf.2.2.1.2.2]; omega) | (simp only [x_ln_sI, x_ln_sA, x_ln_sJ]; rw [hf.2.2.1.2.2]; omega)) (by first | (rw [hf.2.2.1.2.2]; omega) | (simp only [x_ln_sI, x_ln_sA, x_ln_sJ]; rw [hf.2.2.1.2.2]; omega)) ?_
            refine x_aload_n (i := 0) (o := some fa) dX2_setSpan_49 rfl rfl ?_
            refine x_getRv (v := some (fa + 3)) dX2_setSpan_50 fX2_setSpan_22 (i := 303) rfl rfl (by first | (simp only [x_kd_sI, x_kd_sA, x_kd_sJ]; exact hf.1) | exact hf.1) ((by first | (simp only [x_fr_sI, x_fr_sA, x_fr_sJ]; exact hf.2.2.2.1.1) | exact hf.2.2.2.1.1)) ?_
            refine x_iload_n (i := 1) (x := nI p) dX2_setSpan_53 rfl rfl ?_
            refine x_iconst (v := 1) dX2_setSpan_54 (by decide) ?_
            refine x_zastoreN (n := p) (v := 1) dX2_setSpan_55 (by first | (simp only [x_kd_sI, x_kd_sA, x_kd_sJ]; exact hf.2.2.2.1.2.1) | exact hf.2.2.2.1.2.1) (rfl) (by first | (rw [hf.2.2.2.1.2.2]; omega) | (simp only [x_ln_sI, x_ln_sA, x_ln_sJ]; rw [hf.2.2.2.1.2.2]; omega)) (by first | (rw [hf.2.2.2.1.2.2]; omega) | (simp only [x_ln_sI, x_ln_sA, x_ln_sJ]; rw [hf.2.2.2.1.2.2]; omega)) (rfl) ?_
            refine x_iconst (v := 1) dX2_setSpan_56 (by decide) ?_
            refine x_ireturn dX2_setSpan_57 rfl (rfl) (by first | exact ⟨Nat.le_refl _, Nat.le_refl _⟩ | (simp only [x_sz_sI, x_sz_sA, x_sz_sJ, x_us_sI, x_us_sA, x_us_sJ]; exact ⟨Nat.le_refl _, Nat.le_refl _⟩)) ?_
            exact ⟨rfl, rfl⟩
          · skip
            exact absurd ((lg_cmp_le _ _).mpr h3) c29
theorem z_16 {x : Int32} (h : 15 < x) : 16 ≤ x := by
  rw [Int32.lt_iff_toInt_lt] at h
  rw [Int32.le_iff_toInt_le]
  have e1 : (15 : Int32).toInt = 15 := by decide
  have e2 : (16 : Int32).toInt = 16 := by decide
  omega
theorem z_8 {x : Int32} (h : 7 < x) : 8 ≤ x := by
  rw [Int32.lt_iff_toInt_lt] at h
  rw [Int32.le_iff_toInt_le]
  have e1 : (7 : Int32).toInt = 7 := by decide
  have e2 : (8 : Int32).toInt = 8 := by decide
  omega
theorem z_10 {x : Int32} (h : x < 10) : x ≤ 9 := by
  rw [Int32.lt_iff_toInt_lt] at h
  rw [Int32.le_iff_toInt_le]
  have e1 : (10 : Int32).toInt = 10 := by decide
  have e2 : (9 : Int32).toInt = 9 := by decide
  omega
set_option maxHeartbeats 4000000 in
set_option maxRecDepth 100000 in
theorem c_setSpan_f (G : x_G) {h : x_H} {fa : Nat} {p : Int32} {lo hi : Int64} (hn : ¬ (0 ≤ p ∧ p ≤ 15 ∧ 0 ≤ lo ∧ lo ≤ hi ∧ hi ≤ 1000000)) : x_Call G mX2_setSpan h [x_r (some fa), x_i p, x_l lo, x_l hi] (some (x_i 0)) h := by
  refine x_Ex.call (x_enter mwX2_setSpan (Nat.le_of_ble_eq_true rfl) ?_)
  show x_E _ _ _ _ _ [(0, x_r (some fa)), (1, x_i p), (2, x_l lo), (4, x_l hi)] _ _
  refine x_iload_n (i := 1) (x := p) dX2_setSpan_0 rfl rfl ?_
  refine x_if_lt (tgt := 32) dX2_setSpan_1 (by decide) (fun c1 => ?_) (fun c1 => ?_)
  · skip
    refine x_iconst (v := 0) dX2_setSpan_32 (by decide) ?_
    refine x_ireturn dX2_setSpan_33 rfl (rfl) ⟨Nat.le_refl _, Nat.le_refl _⟩ ?_
    exact ⟨rfl, rfl⟩
  · skip
    refine x_iload_n (i := 1) (x := p) dX2_setSpan_4 rfl rfl ?_
    refine x_bipush (v := 16) dX2_setSpan_5 (by decide) ?_
    refine x_icmp_ge (tgt := 32) dX2_setSpan_7 (by decide) (fun c7 => ?_) (fun c7 => ?_)
    · skip
      refine x_iconst (v := 0) dX2_setSpan_32 (by decide) ?_
      refine x_ireturn dX2_setSpan_33 rfl (rfl) ⟨Nat.le_refl _, Nat.le_refl _⟩ ?_
      exact ⟨rfl, rfl⟩
    · skip
      refine x_lload_n (i := 2) (x := lo) dX2_setSpan_10 rfl rfl ?_
      refine x_lconst (v := 0) dX2_setSpan_11 (by decide) ?_
      refine x_lcmp dX2_setSpan_12 ?_
      refine x_if_lt (tgt := 32) dX2_setSpan_13 (by decide) (fun c13 => ?_) (fun c13 => ?_)
      · skip
        refine x_iconst (v := 0) dX2_setSpan_32 (by decide) ?_
        refine x_ireturn dX2_setSpan_33 rfl (rfl) ⟨Nat.le_refl _, Nat.le_refl _⟩ ?_
        exact ⟨rfl, rfl⟩
      · skip
        refine x_lload_n (i := 2) (x := lo) dX2_setSpan_16 rfl rfl ?_
        refine x_lload (i := 4) (x := hi) dX2_setSpan_17 rfl ?_
        refine x_lcmp dX2_setSpan_19 ?_
        refine x_if_gt (tgt := 32) dX2_setSpan_20 (by decide) (fun c20 => ?_) (fun c20 => ?_)
        · skip
          refine x_iconst (v := 0) dX2_setSpan_32 (by decide) ?_
          refine x_ireturn dX2_setSpan_33 rfl (rfl) ⟨Nat.le_refl _, Nat.le_refl _⟩ ?_
          exact ⟨rfl, rfl⟩
        · skip
          refine x_lload (i := 4) (x := hi) dX2_setSpan_23 rfl ?_
          refine x_ldc2 (v := 1000000) dX2_setSpan_25 kX2_setSpan_36 ?_
          refine x_lcmp dX2_setSpan_28 ?_
          refine x_if_le (tgt := 34) dX2_setSpan_29 (by decide) (fun c29 => ?_) (fun c29 => ?_)
          · skip
            exact absurd ⟨Int32.not_lt.mp c1, Int32.not_lt.mp fun z => c7 (z_16 z), Int64.not_lt.mp fun z => c13 ((lg_cmp_lt _ _).mpr z), Int64.not_lt.mp fun z => c20 ((lg_cmp_gt _ _).mpr z), (lg_cmp_le _ _).mp c29⟩ hn
          · skip
            refine x_iconst (v := 0) dX2_setSpan_32 (by decide) ?_
            refine x_ireturn dX2_setSpan_33 rfl (rfl) ⟨Nat.le_refl _, Nat.le_refl _⟩ ?_
            exact ⟨rfl, rfl⟩
set_option maxHeartbeats 4000000 in
set_option maxRecDepth 100000 in
theorem c_setResult_t (G : x_G) {h : x_H} {fa : Nat} (hf : f_P h fa) {p : Nat} (h8 : p < 8) {v : Int32} (h1 : -1 ≤ v) (h2 : v ≤ 9) : x_Call G mX2_setResult h [x_r (some fa), x_i (nI p), x_i v] (some (x_i 1)) (x_sA h (fa + 4) p v) := by
  refine x_Ex.call (x_enter mwX2_setResult (Nat.le_of_ble_eq_true rfl) ?_)
  show x_E _ _ _ _ _ [(0, x_r (some fa)), (1, x_i (nI p)), (2, x_i v)] _ _
  refine x_iload_n (i := 1) (x := nI p) dX2_setResult_0 rfl rfl ?_
  refine x_if_lt (tgt := 21) dX2_setResult_1 (by decide) (fun c1 => ?_) (fun c1 => ?_)
  · skip
    exact absurd c1 (nI_pos (by omega))
  · skip
    refine x_iload_n (i := 1) (x := nI p) dX2_setResult_4 rfl rfl ?_
    refine x_bipush (v := 8) dX2_setResult_5 (by decide) ?_
    refine x_icmp_ge (tgt := 21) dX2_setResult_7 (by decide) (fun c7 => ?_) (fun c7 => ?_)
    · skip
      exact absurd ((nI_leI (a := 8) (by omega) (by omega)).mp c7) (by omega)
    · skip
      refine x_iload_n (i := 2) (x := v) dX2_setResult_10 rfl rfl ?_
      refine x_iconst (v := (-1)) dX2_setResult_11 (by decide) ?_
      refine x_icmp_lt (tgt := 21) dX2_setResult_12 (by decide) (fun c12 => ?_) (fun c12 => ?_)
      · skip
        exact absurd h1 (Int32.not_le.mpr c12)
      · skip
        refine x_iload_n (i := 2) (x := v) dX2_setResult_15 rfl rfl ?_
        refine x_bipush (v := 10) dX2_setResult_16 (by decide) ?_
        refine x_icmp_lt (tgt := 23) dX2_setResult_18 (by decide) (fun c18 => ?_) (fun c18 => ?_)
        · skip
          refine x_aload_n (i := 0) (o := some fa) dX2_setResult_23 rfl rfl ?_
          refine x_getRv (v := some (fa + 4)) dX2_setResult_24 fX2_setResult_26 (i := 304) rfl rfl (by first | (simp only [x_kd_sI, x_kd_sA, x_kd_sJ]; exact hf.1) | exact hf.1) ((by first | (simp only [x_fr_sI, x_fr_sA, x_fr_sJ]; exact hf.2.2.2.2.1) | exact hf.2.2.2.2.1)) ?_
          refine x_iload_n (i := 1) (x := nI p) dX2_setResult_27 rfl rfl ?_
          refine x_iload_n (i := 2) (x := v) dX2_setResult_28 rfl rfl ?_
          refine x_iastoreN (n := p) (v := v) dX2_setResult_29 (by first | (simp only [x_kd_sI, x_kd_sA, x_kd_sJ]; exact hf.2.2.2.2.2.1) | exact hf.2.2.2.2.2.1) (rfl) (by first | (rw [hf.2.2.2.2.2.2]; omega) | (simp only [x_ln_sI, x_ln_sA, x_ln_sJ]; rw [hf.2.2.2.2.2.2]; omega)) (by first | (rw [hf.2.2.2.2.2.2]; omega) | (simp only [x_ln_sI, x_ln_sA, x_ln_sJ]; rw [hf.2.2.2.2.2.2]; omega)) (rfl) ?_
          refine x_iconst (v := 1) dX2_setResult_30 (by decide) ?_
          refine x_ireturn dX2_setResult_31 rfl (rfl) (by first | exact ⟨Nat.le_refl _, Nat.le_refl _⟩ | (simp only [x_sz_sI, x_sz_sA, x_sz_sJ, x_us_sI, x_us_sA, x_us_sJ]; exact ⟨Nat.le_refl _, Nat.le_refl _⟩)) ?_
          exact ⟨rfl, rfl⟩
        · skip
          exact absurd (Int32.lt_of_le_of_lt h2 (by decide)) c18
set_option maxHeartbeats 4000000 in
set_option maxRecDepth 100000 in
theorem c_setResult_f (G : x_G) {h : x_H} {fa : Nat} {p v : Int32} (hn : ¬ (0 ≤ p ∧ p ≤ 7 ∧ -1 ≤ v ∧ v ≤ 9)) : x_Call G mX2_setResult h [x_r (some fa), x_i p, x_i v] (some (x_i 0)) h := by
  refine x_Ex.call (x_enter mwX2_setResult (Nat.le_of_ble_eq_true rfl) ?_)
  show x_E _ _ _ _ _ [(0, x_r (some fa)), (1, x_i p), (2, x_i v)] _ _
  refine x_iload_n (i := 1) (x := p) dX2_setResult_0 rfl rfl ?_
  refine x_if_lt (tgt := 21) dX2_setResult_1 (by decide) (fun c1 => ?_) (fun c1 => ?_)
  · skip
    refine x_iconst (v := 0) dX2_setResult_21 (by decide) ?_
    refine x_ireturn dX2_setResult_22 rfl (rfl) ⟨Nat.le_refl _, Nat.le_refl _⟩ ?_
    exact ⟨rfl, rfl⟩
  · skip
    refine x_iload_n (i := 1) (x := p) dX2_setResult_4 rfl rfl ?_
    refine x_bipush (v := 8) dX2_setResult_5 (by decide) ?_
    refine x_icmp_ge (tgt := 21) dX2_setResult_7 (by decide) (fun c7 => ?_) (fun c7 => ?_)
    · skip
      refine x_iconst (v := 0) dX2_setResult_21 (by decide) ?_
      refine x_ireturn dX2_setResult_22 rfl (rfl) ⟨Nat.le_refl _, Nat.le_refl _⟩ ?_
      exact ⟨rfl, rfl⟩
    · skip
      refine x_iload_n (i := 2) (x := v) dX2_setResult_10 rfl rfl ?_
      refine x_iconst (v := (-1)) dX2_setResult_11 (by decide) ?_
      refine x_icmp_lt (tgt := 21) dX2_setResult_12 (by decide) (fun c12 => ?_) (fun c12 => ?_)
      · skip
        refine x_iconst (v := 0) dX2_setResult_21 (by decide) ?_
        refine x_ireturn dX2_setResult_22 rfl (rfl) ⟨Nat.le_refl _, Nat.le_refl _⟩ ?_
        exact ⟨rfl, rfl⟩
      · skip
        refine x_iload_n (i := 2) (x := v) dX2_setResult_15 rfl rfl ?_
        refine x_bipush (v := 10) dX2_setResult_16 (by decide) ?_
        refine x_icmp_lt (tgt := 23) dX2_setResult_18 (by decide) (fun c18 => ?_) (fun c18 => ?_)
        · skip
          exact absurd ⟨Int32.not_lt.mp c1, Int32.not_lt.mp fun z => c7 (z_8 z), Int32.not_lt.mp c12, z_10 c18⟩ hn
        · skip
          refine x_iconst (v := 0) dX2_setResult_21 (by decide) ?_
          refine x_ireturn dX2_setResult_22 rfl (rfl) ⟨Nat.le_refl _, Nat.le_refl _⟩ ?_
          exact ⟨rfl, rfl⟩
set_option maxHeartbeats 4000000 in
set_option maxRecDepth 100000 in
theorem c_resultOf (G : x_G) {h : x_H} {fa : Nat} (hf : f_P h fa) {X : z_X} (hX : f_X h fa X) {t : Nat} (ht : t < 8) : x_Call G mX2_resultOf h [x_r (some fa), x_i (nI t)] (some (x_i (X.2.2.2.1 t))) h := by
  refine x_Ex.call (x_enter mwX2_resultOf (Nat.le_of_ble_eq_true rfl) ?_)
  show x_E _ _ _ _ _ [(0, x_r (some fa)), (1, x_i (nI t))] _ _
  refine x_iload_n (i := 1) (x := nI t) dX2_resultOf_0 rfl rfl ?_
  refine x_if_lt (tgt := 10) dX2_resultOf_1 (by decide) (fun c1 => ?_) (fun c1 => ?_)
  · skip
    exact absurd c1 (nI_pos (by omega))
  · skip
    refine x_iload_n (i := 1) (x := nI t) dX2_resultOf_4 rfl rfl ?_
    refine x_bipush (v := 8) dX2_resultOf_5 (by decide) ?_
    refine x_icmp_lt (tgt := 14) dX2_resultOf_7 (by decide) (fun c7 => ?_) (fun c7 => ?_)
    · skip
      refine x_aload_n (i := 0) (o := some fa) dX2_resultOf_14 rfl rfl ?_
      refine x_getRv (v := some (fa + 4)) dX2_resultOf_15 fX2_resultOf_26 (i := 304) rfl rfl (by first | (simp only [x_kd_sI, x_kd_sA, x_kd_sJ]; exact hf.1) | exact hf.1) ((by first | (simp only [x_fr_sI, x_fr_sA, x_fr_sJ]; exact hf.2.2.2.2.1) | exact hf.2.2.2.2.1)) ?_
      refine x_iload_n (i := 1) (x := nI t) dX2_resultOf_18 rfl rfl ?_
      refine x_ialoadN (n := t) (v := X.2.2.2.1 t) dX2_resultOf_19 (by first | (simp only [x_kd_sI, x_kd_sA, x_kd_sJ]; exact hf.2.2.2.2.2.1) | exact hf.2.2.2.2.2.1) (rfl) (by first | (rw [hf.2.2.2.2.2.2]; omega) | (simp only [x_ln_sI, x_ln_sA, x_ln_sJ]; rw [hf.2.2.2.2.2.2]; omega)) (by first | (rw [hf.2.2.2.2.2.2]; omega) | (simp only [x_ln_sI, x_ln_sA, x_ln_sJ]; rw [hf.2.2.2.2.2.2]; omega)) (hX.2.1 t ht) ?_
      refine x_ireturn dX2_resultOf_20 rfl (rfl) ⟨Nat.le_refl _, Nat.le_refl _⟩ ?_
      exact ⟨rfl, rfl⟩
    · skip
      exact absurd (nI_lt (b := 8) (by omega) (by omega)) c7
set_option maxHeartbeats 4000000 in
set_option maxRecDepth 100000 in
theorem c_hasSpan (G : x_G) {h : x_H} {fa : Nat} (hf : f_P h fa) {X : z_X} (hX : f_X h fa X) {p : Nat} (hp : p < 16) : x_Call G mX2_hasSpan h [x_r (some fa), x_i (nI p)] (some (x_i (if X.1 p = true then 1 else 0))) h := by
  refine x_Ex.call (x_enter mwX2_hasSpan (Nat.le_of_ble_eq_true rfl) ?_)
  show x_E _ _ _ _ _ [(0, x_r (some fa)), (1, x_i (nI p))] _ _
  refine x_iload_n (i := 1) (x := nI p) dX2_hasSpan_0 rfl rfl ?_
  refine x_if_lt (tgt := 23) dX2_hasSpan_1 (by decide) (fun c1 => ?_) (fun c1 => ?_)
  · skip
    exact absurd c1 (nI_pos (by omega))
  · skip
    refine x_iload_n (i := 1) (x := nI p) dX2_hasSpan_4 rfl rfl ?_
    refine x_bipush (v := 16) dX2_hasSpan_5 (by decide) ?_
    refine x_icmp_ge (tgt := 23) dX2_hasSpan_7 (by decide) (fun c7 => ?_) (fun c7 => ?_)
    · skip
      exact absurd ((nI_leI (a := 16) (by omega) (by omega)).mp c7) (by omega)
    · skip
      refine x_aload_n (i := 0) (o := some fa) dX2_hasSpan_10 rfl rfl ?_
      refine x_getRv (v := some (fa + 3)) dX2_hasSpan_11 fX2_hasSpan_22 (i := 303) rfl rfl (by first | (simp only [x_kd_sI, x_kd_sA, x_kd_sJ]; exact hf.1) | exact hf.1) ((by first | (simp only [x_fr_sI, x_fr_sA, x_fr_sJ]; exact hf.2.2.2.1.1) | exact hf.2.2.2.1.1)) ?_
      refine x_iload_n (i := 1) (x := nI p) dX2_hasSpan_14 rfl rfl ?_
      refine x_zaloadN (n := p) (v := if X.1 p = true then 1 else 0) dX2_hasSpan_15 (by first | (simp only [x_kd_sI, x_kd_sA, x_kd_sJ]; exact hf.2.2.2.1.2.1) | exact hf.2.2.2.1.2.1) (rfl) (by first | (rw [hf.2.2.2.1.2.2]; omega) | (simp only [x_ln_sI, x_ln_sA, x_ln_sJ]; rw [hf.2.2.2.1.2.2]; omega)) (by first | (rw [hf.2.2.2.1.2.2]; omega) | (simp only [x_ln_sI, x_ln_sA, x_ln_sJ]; rw [hf.2.2.2.1.2.2]; omega)) ((hX.1 p hp).1) ?_
      refine x_if_eq (tgt := 23) dX2_hasSpan_16 (by decide) (fun c16 => ?_) (fun c16 => ?_)
      · skip
        have e16 : ¬ X.1 p = true := fun z => by rw [if_pos z] at c16; exact absurd c16 (by decide)
        refine x_iconst (v := 0) dX2_hasSpan_23 (by decide) ?_
        refine x_ireturn dX2_hasSpan_24 rfl (rfl) ⟨Nat.le_refl _, Nat.le_refl _⟩ ?_
        exact ⟨by rw [if_neg e16], rfl⟩
      · skip
        have e16 : X.1 p = true := by
          apply Classical.byContradiction
          intro z
          rw [if_neg z] at c16
          exact c16 rfl
        refine x_iconst (v := 1) dX2_hasSpan_19 (by decide) ?_
        refine x_goto (tgt := 24) dX2_hasSpan_20 (by decide) ?_
        refine x_ireturn dX2_hasSpan_24 rfl (rfl) ⟨Nat.le_refl _, Nat.le_refl _⟩ ?_
        exact ⟨by rw [if_pos e16], rfl⟩
theorem f_P.F {h h1 : x_H} {fa : Nat} {P : Nat → Nat → Prop} {R : Nat → Prop} (hf : f_P h fa) (hF : x_F h h1 P R) : f_P h1 fa := by
  obtain ⟨f1, f2, f3, f4, f5, f6⟩ := hF
  unfold f_P
  rw [f3, f4, f5]
  exact hf
set_option maxHeartbeats 4000000 in
set_option maxRecDepth 100000 in
theorem l_forgetX (G : x_G) {h : x_H} {fa : Nat} (hf : f_P h fa) (Q : Option x_V → x_H → Prop) (hQ : ∀ h2, x_F h h2 (fun _ _ => False) (fun a => a = fa + 3 ∨ a = fa + 4) → (∀ t, t < 8 → x_rw h2 (fa + 4) t = -1) → (∀ p, p < 16 → x_rw h2 (fa + 3) p = 0) → Q none h2) : ∀ (n i : Nat) (h1 : x_H), i ≤ 16 → 16 - i = n → x_F h h1 (fun _ _ => False) (fun a => a = fa + 3 ∨ a = fa + 4) → (∀ p, p < i → x_rw h1 (fa + 3) p = 0) → x_E G mX2_forget (x_D G mX2_forget h Q) h 2 [(0, x_r (some fa)), (1, x_i (nI i))] [] h1 := by
  intro n
  induction n with
  | zero =>
    intro i h1 hi hn hF1 h16
    have ei : i = 16 := by omega
    subst ei
    have hf1 := hf.F hF1
    refine x_iload_n (i := 1) (x := nI 16) dX2_forget_2 rfl rfl ?_
    refine x_bipush (v := 16) dX2_forget_3 (by decide) ?_
    refine x_icmp_ge (tgt := 21) dX2_forget_5 (by decide) (fun c5 => ?_) (fun c5 => ?_)
    · skip
      refine x_aload_n (i := 0) (o := some fa) dX2_forget_21 rfl rfl ?_
      refine x_getRv (v := some (fa + 4)) dX2_forget_22 fX2_forget_26 (i := 304) rfl rfl (by first | (simp only [x_kd_sI, x_kd_sA, x_kd_sJ]; exact hf1.1) | exact hf1.1) ((by first | (simp only [x_fr_sI, x_fr_sA, x_fr_sJ]; exact hf1.2.2.2.2.1) | exact hf1.2.2.2.2.1)) ?_
      refine x_iconst (v := (-1)) dX2_forget_25 (by decide) ?_
      obtain ⟨_, h2, ⟨rfl, hF2, h8⟩, hca⟩ := c_fill G (h := h1) (a := fa + 4) hf1.2.2.2.2.2.1 (by rw [hf1.2.2.2.2.2.2]; omega) (-1)
      refine x_callS (av := [x_r (some (fa + 4)), x_i ((-1))]) (rest := []) (r := none) (h1 := h2) dX2_forget_26 sX2_forget_30 rfl rfl (Nat.le_of_ble_eq_true rfl) (by first | exact hF1.le | exact ⟨Nat.le_trans hF1.le.1 hF2.le.1, Nat.le_trans hF1.le.2 hF2.le.2⟩) (hca) ?_
      show x_E _ _ _ _ 29 _ [] _
      refine x_return dX2_forget_29 rfl (by first | exact hF1.le | exact ⟨Nat.le_trans hF1.le.1 hF2.le.1, Nat.le_trans hF1.le.2 hF2.le.2⟩) ?_
      have hF3 : x_F h h2 (fun _ _ => False) (fun a => a = fa + 3 ∨ a = fa + 4) := hF1.tr hF2 (fun _ _ z => z) (fun _ _ z => z) (fun _ z => z) (fun _ z => Or.inr z)
      exact hQ _ hF3 (fun t ht => h8 t (by rw [hf1.2.2.2.2.2.2]; exact ht)) (fun p hp => by rw [hF2.rw (by omega)]; exact h16 p hp)
    · skip
      exact absurd (by decide) c5
  | succ n ih =>
    intro i h1 hi hn hF1 h16
    have hf1 := hf.F hF1
    refine x_iload_n (i := 1) (x := nI i) dX2_forget_2 rfl rfl ?_
    refine x_bipush (v := 16) dX2_forget_3 (by decide) ?_
    refine x_icmp_ge (tgt := 21) dX2_forget_5 (by decide) (fun c5 => ?_) (fun c5 => ?_)
    · skip
      exact absurd ((nI_leI (a := 16) (by omega) (by omega)).mp c5) (by omega)
    · skip
      refine x_aload_n (i := 0) (o := some fa) dX2_forget_8 rfl rfl ?_
      refine x_getRv (v := some (fa + 3)) dX2_forget_9 fX2_forget_22 (i := 303) rfl rfl (by first | (simp only [x_kd_sI, x_kd_sA, x_kd_sJ]; exact hf1.1) | exact hf1.1) ((by first | (simp only [x_fr_sI, x_fr_sA, x_fr_sJ]; exact hf1.2.2.2.1.1) | exact hf1.2.2.2.1.1)) ?_
      refine x_iload_n (i := 1) (x := nI i) dX2_forget_12 rfl rfl ?_
      refine x_iconst (v := 0) dX2_forget_13 (by decide) ?_
      refine x_zastoreN (n := i) (v := 0) dX2_forget_14 (by first | (simp only [x_kd_sI, x_kd_sA, x_kd_sJ]; exact hf1.2.2.2.1.2.1) | exact hf1.2.2.2.1.2.1) (rfl) (by first | (rw [hf1.2.2.2.1.2.2]; omega) | (simp only [x_ln_sI, x_ln_sA, x_ln_sJ]; rw [hf1.2.2.2.1.2.2]; omega)) (by first | (rw [hf1.2.2.2.1.2.2]; omega) | (simp only [x_ln_sI, x_ln_sA, x_ln_sJ]; rw [hf1.2.2.2.1.2.2]; omega)) (rfl) ?_
      refine x_iinc (i := 1) (x := nI i) (v := nI (i + 1)) (lv' := [(0, x_r (some fa)), (1, x_i (nI (i + 1)))]) dX2_forget_15 rfl (nI_1 i) (by decide) rfl ?_
      refine x_goto (tgt := 2) dX2_forget_18 (by decide) ?_
      show x_E _ _ _ _ 2 _ _ _
      refine ih (i + 1) _ (by omega) (by omega) (hF1.A (Or.inl rfl)) (fun p hp16 => ?_)
      rw [x_rw_sA]
      split
      · rfl
      · exact h16 p (by omega)
set_option maxHeartbeats 4000000 in
set_option maxRecDepth 100000 in
theorem c_forgetX (G : x_G) {h : x_H} {fa : Nat} (hf : f_P h fa) : x_Ex G mX2_forget h [x_r (some fa)] (fun r h2 => r = none ∧ x_F h h2 (fun _ _ => False) (fun a => a = fa + 3 ∨ a = fa + 4) ∧ (∀ t, t < 8 → x_rw h2 (fa + 4) t = -1) ∧ ∀ p, p < 16 → x_rw h2 (fa + 3) p = 0) := by
  refine x_enter mwX2_forget (Nat.le_of_ble_eq_true rfl) ?_
  show x_E _ _ _ _ _ [(0, x_r (some fa))] _ _
  refine x_iconst (v := 0) dX2_forget_0 (by decide) ?_
  refine x_istore_n (i := 1) (lv' := [(0, x_r (some fa)), (1, x_i 0)]) dX2_forget_1 rfl (by decide) rfl ?_
  show x_E _ _ _ _ 2 _ _ _
  exact l_forgetX G hf _ (fun h2 a b c => ⟨rfl, a, b, c⟩) 16 0 h (by omega) rfl x_F.rf (fun _ z => absurd z (Nat.not_lt_zero _))
