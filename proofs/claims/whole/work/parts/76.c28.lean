/-! THE CLASS: HazardRules: its object, and the plain calls -/
def k_P (h : x_H) (ca : Nat) : Prop := x_kd h ca = 9 ∧ (x_fr h 900 ca = some (ca + 1) ∧ x_kd h (ca + 1) = 21 ∧ x_ln h (ca + 1) = 3000) ∧ (x_fr h 902 ca = some (ca + 2) ∧ x_kd h (ca + 2) = 21 ∧ x_ln h (ca + 2) = 3000) ∧ x_fr h 904 ca = some (ca + 3) ∧ c_W h (ca + 3) ∧ x_fr h 905 ca = some (ca + 5) ∧ f_P h (ca + 5)
set_option maxHeartbeats 4000000 in
set_option maxRecDepth 100000 in
theorem c_unit_t (G : x_G) {h : x_H} {ca : Nat} (hk : k_P h ca) {n : Nat} (hn : x_fi h 901 ca = nI n) (h3 : n < 3000) {u : Int32} (hu : 0 ≤ u ∧ u ≤ 255) : x_Call G mX9_unit h [x_r (some ca), x_i u] (some (x_i 1)) (x_sI (x_sA h (ca + 1) n u.toInt8.toInt32) 901 ca (nI (n + 1))) := by
  refine x_Ex.call (x_enter mwX9_unit (Nat.le_of_ble_eq_true rfl) ?_)
  show x_E _ _ _ _ _ [(0, x_r (some ca)), (1, x_i u)] _ _
  refine x_iload_n (i := 1) (x := u) dX9_unit_0 rfl rfl ?_
  refine x_if_lt (tgt := 23) dX9_unit_1 (by decide) (fun c1 => ?_) (fun c1 => ?_)
  · skip
    exact absurd hu.1 (Int32.not_le.mpr c1)
  · skip
    refine x_iload_n (i := 1) (x := u) dX9_unit_4 rfl rfl ?_
    refine x_sipush (v := 255) dX9_unit_5 (by decide) ?_
    refine x_icmp_gt (tgt := 23) dX9_unit_8 (by decide) (fun c8 => ?_) (fun c8 => ?_)
    · skip
      exact absurd hu.2 (Int32.not_le.mpr c8)
    · skip
      refine x_aload_n (i := 0) (o := some ca) dX9_unit_11 rfl rfl ?_
      refine x_getIv (v := nI n) dX9_unit_12 fX9_unit_13 (i := 901) rfl rfl (by first | exact hk.1 | (simp only [x_kd_sI, x_kd_sA, x_kd_sJ, x_kd_sR, x_fr_sI, x_fr_sA, x_fr_sJ, x_ln_sI, x_ln_sA, x_ln_sJ]; exact hk.1)) (hn) ?_
      refine x_aload_n (i := 0) (o := some ca) dX9_unit_15 rfl rfl ?_
      refine x_getRv (v := some (ca + 1)) dX9_unit_16 fX9_unit_9 (i := 900) rfl rfl (by first | exact hk.1 | (simp only [x_kd_sI, x_kd_sA, x_kd_sJ, x_kd_sR, x_fr_sI, x_fr_sA, x_fr_sJ, x_ln_sI, x_ln_sA, x_ln_sJ]; exact hk.1)) ((by first | exact hk.2.1.1 | (simp only [x_kd_sI, x_kd_sA, x_kd_sJ, x_kd_sR, x_fr_sI, x_fr_sA, x_fr_sJ, x_ln_sI, x_ln_sA, x_ln_sJ]; exact hk.2.1.1))) ?_
      refine x_alen (kd := 21) (t0 := 1) dX9_unit_19 (by first | exact hk.2.1.2.1 | (simp only [x_kd_sI, x_kd_sA, x_kd_sJ, x_kd_sR, x_fr_sI, x_fr_sA, x_fr_sJ, x_ln_sI, x_ln_sA, x_ln_sJ]; exact hk.2.1.2.1)) (by omega) (by omega) rfl ?_
      rw [show nI (x_ln h (ca + 1)) = 3000 from by rw [hk.2.1.2.2]; rfl]
      refine x_icmp_lt (tgt := 25) dX9_unit_20 (by decide) (fun c20 => ?_) (fun c20 => ?_)
      · skip
        refine x_aload_n (i := 0) (o := some ca) dX9_unit_25 rfl rfl ?_
        refine x_getRv (v := some (ca + 1)) dX9_unit_26 fX9_unit_9 (i := 900) rfl rfl (by first | exact hk.1 | (simp only [x_kd_sI, x_kd_sA, x_kd_sJ, x_kd_sR, x_fr_sI, x_fr_sA, x_fr_sJ, x_ln_sI, x_ln_sA, x_ln_sJ]; exact hk.1)) ((by first | exact hk.2.1.1 | (simp only [x_kd_sI, x_kd_sA, x_kd_sJ, x_kd_sR, x_fr_sI, x_fr_sA, x_fr_sJ, x_ln_sI, x_ln_sA, x_ln_sJ]; exact hk.2.1.1))) ?_
        refine x_aload_n (i := 0) (o := some ca) dX9_unit_29 rfl rfl ?_
        refine x_getIv (v := nI n) dX9_unit_30 fX9_unit_13 (i := 901) rfl rfl (by first | exact hk.1 | (simp only [x_kd_sI, x_kd_sA, x_kd_sJ, x_kd_sR, x_fr_sI, x_fr_sA, x_fr_sJ, x_ln_sI, x_ln_sA, x_ln_sJ]; exact hk.1)) (hn) ?_
        refine x_iload_n (i := 1) (x := u) dX9_unit_33 rfl rfl ?_
        refine x_i2b dX9_unit_34 ?_
        refine x_bastoreN (n := n) (v := u.toInt8.toInt32) dX9_unit_35 (by first | exact hk.2.1.2.1 | (simp only [x_kd_sI, x_kd_sA, x_kd_sJ, x_kd_sR, x_fr_sI, x_fr_sA, x_fr_sJ, x_ln_sI, x_ln_sA, x_ln_sJ]; exact hk.2.1.2.1)) (rfl) (by first | (rw [hk.2.1.2.2]; omega) | (simp only [x_ln_sI, x_ln_sA, x_ln_sJ]; rw [hk.2.1.2.2]; omega)) (by first | (rw [hk.2.1.2.2]; omega) | (simp only [x_ln_sI, x_ln_sA, x_ln_sJ]; rw [hk.2.1.2.2]; omega)) (by show (.int (u.toInt8.toInt32.toInt8.toInt32) : Value) = _; simp) ?_
        refine x_aload_n (i := 0) (o := some ca) dX9_unit_36 rfl rfl ?_
        refine x_dup dX9_unit_37 rfl ?_
        refine x_getIv (v := nI n) dX9_unit_38 fX9_unit_13 (i := 901) rfl rfl (by first | exact hk.1 | (simp only [x_kd_sI, x_kd_sA, x_kd_sJ, x_kd_sR, x_fr_sI, x_fr_sA, x_fr_sJ, x_ln_sI, x_ln_sA, x_ln_sJ]; exact hk.1)) (hn) ?_
        refine x_iconst (v := 1) dX9_unit_41 (by decide) ?_
        refine x_iadd dX9_unit_42 ?_
        rw [show (nI n) + 1 = nI (n + 1) from nI_1 n]
        refine x_putI (i := 901) dX9_unit_43 pX9_unit_13 rfl rfl (by first | exact hk.1 | (simp only [x_kd_sI, x_kd_sA, x_kd_sJ, x_kd_sR, x_fr_sI, x_fr_sA, x_fr_sJ, x_ln_sI, x_ln_sA, x_ln_sJ]; exact hk.1)) (rfl) (by rfl) ?_
        refine x_iconst (v := 1) dX9_unit_46 (by decide) ?_
        refine x_ireturn dX9_unit_47 rfl (rfl) (by first | exact ⟨Nat.le_refl _, Nat.le_refl _⟩ | (simp only [x_sz_sI, x_sz_sA, x_sz_sJ, x_us_sI, x_us_sA, x_us_sJ]; exact ⟨Nat.le_refl _, Nat.le_refl _⟩)) ?_
        exact ⟨rfl, rfl⟩
      · skip
        exact absurd (nI_lt (b := 3000) h3 (by omega)) c20
set_option maxHeartbeats 4000000 in
set_option maxRecDepth 100000 in
theorem c_unit_f (G : x_G) {h : x_H} {ca : Nat} (hk : k_P h ca) {n : Nat} (hn : x_fi h 901 ca = nI n) (h3 : n ≤ 3000) {u : Int32} (hu : ¬ (0 ≤ u ∧ u ≤ 255 ∧ n < 3000)) : x_Call G mX9_unit h [x_r (some ca), x_i u] (some (x_i 0)) h := by
  refine x_Ex.call (x_enter mwX9_unit (Nat.le_of_ble_eq_true rfl) ?_)
  show x_E _ _ _ _ _ [(0, x_r (some ca)), (1, x_i u)] _ _
  refine x_iload_n (i := 1) (x := u) dX9_unit_0 rfl rfl ?_
  refine x_if_lt (tgt := 23) dX9_unit_1 (by decide) (fun c1 => ?_) (fun c1 => ?_)
  · skip
    refine x_iconst (v := 0) dX9_unit_23 (by decide) ?_
    refine x_ireturn dX9_unit_24 rfl (rfl) ⟨Nat.le_refl _, Nat.le_refl _⟩ ?_
    exact ⟨rfl, rfl⟩
  · skip
    refine x_iload_n (i := 1) (x := u) dX9_unit_4 rfl rfl ?_
    refine x_sipush (v := 255) dX9_unit_5 (by decide) ?_
    refine x_icmp_gt (tgt := 23) dX9_unit_8 (by decide) (fun c8 => ?_) (fun c8 => ?_)
    · skip
      refine x_iconst (v := 0) dX9_unit_23 (by decide) ?_
      refine x_ireturn dX9_unit_24 rfl (rfl) ⟨Nat.le_refl _, Nat.le_refl _⟩ ?_
      exact ⟨rfl, rfl⟩
    · skip
      refine x_aload_n (i := 0) (o := some ca) dX9_unit_11 rfl rfl ?_
      refine x_getIv (v := nI n) dX9_unit_12 fX9_unit_13 (i := 901) rfl rfl (by first | exact hk.1 | (simp only [x_kd_sI, x_kd_sA, x_kd_sJ, x_kd_sR, x_fr_sI, x_fr_sA, x_fr_sJ, x_ln_sI, x_ln_sA, x_ln_sJ]; exact hk.1)) (hn) ?_
      refine x_aload_n (i := 0) (o := some ca) dX9_unit_15 rfl rfl ?_
      refine x_getRv (v := some (ca + 1)) dX9_unit_16 fX9_unit_9 (i := 900) rfl rfl (by first | exact hk.1 | (simp only [x_kd_sI, x_kd_sA, x_kd_sJ, x_kd_sR, x_fr_sI, x_fr_sA, x_fr_sJ, x_ln_sI, x_ln_sA, x_ln_sJ]; exact hk.1)) ((by first | exact hk.2.1.1 | (simp only [x_kd_sI, x_kd_sA, x_kd_sJ, x_kd_sR, x_fr_sI, x_fr_sA, x_fr_sJ, x_ln_sI, x_ln_sA, x_ln_sJ]; exact hk.2.1.1))) ?_
      refine x_alen (kd := 21) (t0 := 1) dX9_unit_19 (by first | exact hk.2.1.2.1 | (simp only [x_kd_sI, x_kd_sA, x_kd_sJ, x_kd_sR, x_fr_sI, x_fr_sA, x_fr_sJ, x_ln_sI, x_ln_sA, x_ln_sJ]; exact hk.2.1.2.1)) (by omega) (by omega) rfl ?_
      rw [show nI (x_ln h (ca + 1)) = 3000 from by rw [hk.2.1.2.2]; rfl]
      refine x_icmp_lt (tgt := 25) dX9_unit_20 (by decide) (fun c20 => ?_) (fun c20 => ?_)
      · skip
        exact absurd ⟨Int32.not_lt.mp c1, Int32.not_lt.mp c8, (nI_ltI (b := 3000) (by omega) (by omega)).mp c20⟩ hu
      · skip
        refine x_iconst (v := 0) dX9_unit_23 (by decide) ?_
        refine x_ireturn dX9_unit_24 rfl (rfl) ⟨Nat.le_refl _, Nat.le_refl _⟩ ?_
        exact ⟨rfl, rfl⟩
set_option maxHeartbeats 4000000 in
set_option maxRecDepth 100000 in
theorem c_part_t (G : x_G) {h : x_H} {ca : Nat} (hk : k_P h ca) {p : Nat} (h16 : p < 16) {lo hi : Int64} (h1 : 0 ≤ lo) (h2 : lo ≤ hi) (h3 : hi ≤ 1000000) : x_Call G mX9_part h [x_r (some ca), x_i (nI p), x_l lo, x_l hi] (some (x_i 1)) (x_sA (x_sJ (x_sJ h (ca + 5 + 1) p lo) (ca + 5 + 2) p hi) (ca + 5 + 3) p 1) := by
  refine x_Ex.call (x_enter mwX9_part (Nat.le_of_ble_eq_true rfl) ?_)
  show x_E _ _ _ _ _ [(0, x_r (some ca)), (1, x_i (nI p)), (2, x_l lo), (4, x_l hi)] _ _
  refine x_aload_n (i := 0) (o := some ca) dX9_part_0 rfl rfl ?_
  refine x_getRv (v := some (ca + 5)) dX9_part_1 fX9_part_33 (i := 905) rfl rfl (by first | exact hk.1 | (simp only [x_kd_sI, x_kd_sA, x_kd_sJ, x_kd_sR, x_fr_sI, x_fr_sA, x_fr_sJ, x_ln_sI, x_ln_sA, x_ln_sJ]; exact hk.1)) ((by first | exact hk.2.2.2.2.2.1 | (simp only [x_kd_sI, x_kd_sA, x_kd_sJ, x_kd_sR, x_fr_sI, x_fr_sA, x_fr_sJ, x_ln_sI, x_ln_sA, x_ln_sJ]; exact hk.2.2.2.2.2.1))) ?_
  refine x_iload_n (i := 1) (x := nI p) dX9_part_4 rfl rfl ?_
  refine x_lload_n (i := 2) (x := lo) dX9_part_5 rfl rfl ?_
  refine x_lload (i := 4) (x := hi) dX9_part_6 rfl ?_
  refine x_callV (a := ca + 5) (av := [x_i (nI p), x_l lo, x_l hi]) (rest := []) (r := (some (x_i 1))) (h1 := x_sA (x_sJ (x_sJ h (ca + 5 + 1) p lo) (ca + 5 + 2) p hi) (ca + 5 + 3) p 1) dX9_part_8 sX9_part_71 (by first | exact hk.2.2.2.2.2.2.1 | (simp only [x_kd_sI, x_kd_sA, x_kd_sJ, x_kd_sR, x_fr_sI, x_fr_sA, x_fr_sJ, x_ln_sI, x_ln_sA, x_ln_sJ]; exact hk.2.2.2.2.2.2.1)) rfl rfl (Nat.le_of_ble_eq_true rfl) (by first | exact ⟨Nat.le_refl _, Nat.le_refl _⟩ | (simp only [x_sz_sI, x_sz_sA, x_sz_sJ, x_us_sI, x_us_sA, x_us_sJ]; exact ⟨Nat.le_refl _, Nat.le_refl _⟩)) (c_setSpan_t G hk.2.2.2.2.2.2 h16 h1 h2 h3) ?_
  show x_E _ _ _ _ 11 _ [x_i 1] _
  refine x_ireturn dX9_part_11 rfl (rfl) (by first | exact ⟨Nat.le_refl _, Nat.le_refl _⟩ | (simp only [x_sz_sI, x_sz_sA, x_sz_sJ, x_us_sI, x_us_sA, x_us_sJ]; exact ⟨Nat.le_refl _, Nat.le_refl _⟩)) ?_
  exact ⟨rfl, rfl⟩
set_option maxHeartbeats 4000000 in
set_option maxRecDepth 100000 in
theorem c_part_f (G : x_G) {h : x_H} {ca : Nat} (hk : k_P h ca) {p : Int32} {lo hi : Int64} (hn : ¬ (0 ≤ p ∧ p ≤ 15 ∧ 0 ≤ lo ∧ lo ≤ hi ∧ hi ≤ 1000000)) : x_Call G mX9_part h [x_r (some ca), x_i (p), x_l lo, x_l hi] (some (x_i 0)) (h) := by
  refine x_Ex.call (x_enter mwX9_part (Nat.le_of_ble_eq_true rfl) ?_)
  show x_E _ _ _ _ _ [(0, x_r (some ca)), (1, x_i p), (2, x_l lo), (4, x_l hi)] _ _
  refine x_aload_n (i := 0) (o := some ca) dX9_part_0 rfl rfl ?_
  refine x_getRv (v := some (ca + 5)) dX9_part_1 fX9_part_33 (i := 905) rfl rfl (by first | exact hk.1 | (simp only [x_kd_sI, x_kd_sA, x_kd_sJ, x_kd_sR, x_fr_sI, x_fr_sA, x_fr_sJ, x_ln_sI, x_ln_sA, x_ln_sJ]; exact hk.1)) ((by first | exact hk.2.2.2.2.2.1 | (simp only [x_kd_sI, x_kd_sA, x_kd_sJ, x_kd_sR, x_fr_sI, x_fr_sA, x_fr_sJ, x_ln_sI, x_ln_sA, x_ln_sJ]; exact hk.2.2.2.2.2.1))) ?_
  refine x_iload_n (i := 1) (x := p) dX9_part_4 rfl rfl ?_
  refine x_lload_n (i := 2) (x := lo) dX9_part_5 rfl rfl ?_
  refine x_lload (i := 4) (x := hi) dX9_part_6 rfl ?_
  refine x_callV (a := ca + 5) (av := [x_i p, x_l lo, x_l hi]) (rest := []) (r := (some (x_i 0))) (h1 := h) dX9_part_8 sX9_part_71 (by first | exact hk.2.2.2.2.2.2.1 | (simp only [x_kd_sI, x_kd_sA, x_kd_sJ, x_kd_sR, x_fr_sI, x_fr_sA, x_fr_sJ, x_ln_sI, x_ln_sA, x_ln_sJ]; exact hk.2.2.2.2.2.2.1)) rfl rfl (Nat.le_of_ble_eq_true rfl) (by first | exact ⟨Nat.le_refl _, Nat.le_refl _⟩ | (simp only [x_sz_sI, x_sz_sA, x_sz_sJ, x_us_sI, x_us_sA, x_us_sJ]; exact ⟨Nat.le_refl _, Nat.le_refl _⟩)) (c_setSpan_f G hn) ?_
  show x_E _ _ _ _ 11 _ [x_i 0] _
  refine x_ireturn dX9_part_11 rfl (rfl) (by first | exact ⟨Nat.le_refl _, Nat.le_refl _⟩ | (simp only [x_sz_sI, x_sz_sA, x_sz_sJ, x_us_sI, x_us_sA, x_us_sJ]; exact ⟨Nat.le_refl _, Nat.le_refl _⟩)) ?_
  exact ⟨rfl, rfl⟩
set_option maxHeartbeats 4000000 in
set_option maxRecDepth 100000 in
theorem c_test_t (G : x_G) {h : x_H} {ca : Nat} (hk : k_P h ca) {p : Nat} (h8 : p < 8) {v : Int32} (h1 : -1 ≤ v) (h2 : v ≤ 9) : x_Call G mX9_test h [x_r (some ca), x_i (nI p), x_i v] (some (x_i 1)) (x_sA h (ca + 5 + 4) p v) := by
  refine x_Ex.call (x_enter mwX9_test (Nat.le_of_ble_eq_true rfl) ?_)
  show x_E _ _ _ _ _ [(0, x_r (some ca)), (1, x_i (nI p)), (2, x_i v)] _ _
  refine x_aload_n (i := 0) (o := some ca) dX9_test_0 rfl rfl ?_
  refine x_getRv (v := some (ca + 5)) dX9_test_1 fX9_test_33 (i := 905) rfl rfl (by first | exact hk.1 | (simp only [x_kd_sI, x_kd_sA, x_kd_sJ, x_kd_sR, x_fr_sI, x_fr_sA, x_fr_sJ, x_ln_sI, x_ln_sA, x_ln_sJ]; exact hk.1)) ((by first | exact hk.2.2.2.2.2.1 | (simp only [x_kd_sI, x_kd_sA, x_kd_sJ, x_kd_sR, x_fr_sI, x_fr_sA, x_fr_sJ, x_ln_sI, x_ln_sA, x_ln_sJ]; exact hk.2.2.2.2.2.1))) ?_
  refine x_iload_n (i := 1) (x := nI p) dX9_test_4 rfl rfl ?_
  refine x_iload_n (i := 2) (x := v) dX9_test_5 rfl rfl ?_
  refine x_callV (a := ca + 5) (av := [x_i (nI p), x_i v]) (rest := []) (r := (some (x_i 1))) (h1 := x_sA h (ca + 5 + 4) p v) dX9_test_6 sX9_test_75 (by first | exact hk.2.2.2.2.2.2.1 | (simp only [x_kd_sI, x_kd_sA, x_kd_sJ, x_kd_sR, x_fr_sI, x_fr_sA, x_fr_sJ, x_ln_sI, x_ln_sA, x_ln_sJ]; exact hk.2.2.2.2.2.2.1)) rfl rfl (Nat.le_of_ble_eq_true rfl) (by first | exact ⟨Nat.le_refl _, Nat.le_refl _⟩ | (simp only [x_sz_sI, x_sz_sA, x_sz_sJ, x_us_sI, x_us_sA, x_us_sJ]; exact ⟨Nat.le_refl _, Nat.le_refl _⟩)) (c_setResult_t G hk.2.2.2.2.2.2 h8 h1 h2) ?_
  show x_E _ _ _ _ 9 _ [x_i 1] _
  refine x_ireturn dX9_test_9 rfl (rfl) (by first | exact ⟨Nat.le_refl _, Nat.le_refl _⟩ | (simp only [x_sz_sI, x_sz_sA, x_sz_sJ, x_us_sI, x_us_sA, x_us_sJ]; exact ⟨Nat.le_refl _, Nat.le_refl _⟩)) ?_
  exact ⟨rfl, rfl⟩
set_option maxHeartbeats 4000000 in
set_option maxRecDepth 100000 in
theorem c_test_f (G : x_G) {h : x_H} {ca : Nat} (hk : k_P h ca) {p v : Int32} (hn : ¬ (0 ≤ p ∧ p ≤ 7 ∧ -1 ≤ v ∧ v ≤ 9)) : x_Call G mX9_test h [x_r (some ca), x_i (p), x_i v] (some (x_i 0)) (h) := by
  refine x_Ex.call (x_enter mwX9_test (Nat.le_of_ble_eq_true rfl) ?_)
  show x_E _ _ _ _ _ [(0, x_r (some ca)), (1, x_i p), (2, x_i v)] _ _
  refine x_aload_n (i := 0) (o := some ca) dX9_test_0 rfl rfl ?_
  refine x_getRv (v := some (ca + 5)) dX9_test_1 fX9_test_33 (i := 905) rfl rfl (by first | exact hk.1 | (simp only [x_kd_sI, x_kd_sA, x_kd_sJ, x_kd_sR, x_fr_sI, x_fr_sA, x_fr_sJ, x_ln_sI, x_ln_sA, x_ln_sJ]; exact hk.1)) ((by first | exact hk.2.2.2.2.2.1 | (simp only [x_kd_sI, x_kd_sA, x_kd_sJ, x_kd_sR, x_fr_sI, x_fr_sA, x_fr_sJ, x_ln_sI, x_ln_sA, x_ln_sJ]; exact hk.2.2.2.2.2.1))) ?_
  refine x_iload_n (i := 1) (x := p) dX9_test_4 rfl rfl ?_
  refine x_iload_n (i := 2) (x := v) dX9_test_5 rfl rfl ?_
  refine x_callV (a := ca + 5) (av := [x_i p, x_i v]) (rest := []) (r := (some (x_i 0))) (h1 := h) dX9_test_6 sX9_test_75 (by first | exact hk.2.2.2.2.2.2.1 | (simp only [x_kd_sI, x_kd_sA, x_kd_sJ, x_kd_sR, x_fr_sI, x_fr_sA, x_fr_sJ, x_ln_sI, x_ln_sA, x_ln_sJ]; exact hk.2.2.2.2.2.2.1)) rfl rfl (Nat.le_of_ble_eq_true rfl) (by first | exact ⟨Nat.le_refl _, Nat.le_refl _⟩ | (simp only [x_sz_sI, x_sz_sA, x_sz_sJ, x_us_sI, x_us_sA, x_us_sJ]; exact ⟨Nat.le_refl _, Nat.le_refl _⟩)) (c_setResult_f G hn) ?_
  show x_E _ _ _ _ 9 _ [x_i 0] _
  refine x_ireturn dX9_test_9 rfl (rfl) (by first | exact ⟨Nat.le_refl _, Nat.le_refl _⟩ | (simp only [x_sz_sI, x_sz_sA, x_sz_sJ, x_us_sI, x_us_sA, x_us_sJ]; exact ⟨Nat.le_refl _, Nat.le_refl _⟩)) ?_
  exact ⟨rfl, rfl⟩
set_option maxHeartbeats 4000000 in
set_option maxRecDepth 100000 in
theorem c_clearX (G : x_G) {h : x_H} {ca : Nat} (hk : k_P h ca) : x_Ex G mX9_clearParts h [x_r (some ca)] (fun r h2 => r = none ∧ x_F h h2 (fun _ _ => False) (fun a => a = ca + 5 + 3 ∨ a = ca + 5 + 4) ∧ (∀ t, t < 8 → x_rw h2 (ca + 5 + 4) t = -1) ∧ ∀ p, p < 16 → x_rw h2 (ca + 5 + 3) p = 0) := by
  refine x_enter mwX9_clearParts (Nat.le_of_ble_eq_true rfl) ?_
  show x_E _ _ _ _ _ [(0, x_r (some ca))] _ _
  refine x_aload_n (i := 0) (o := some ca) dX9_clearParts_0 rfl rfl ?_
  refine x_getRv (v := some (ca + 5)) dX9_clearParts_1 fX9_clearParts_33 (i := 905) rfl rfl (by first | exact hk.1 | (simp only [x_kd_sI, x_kd_sA, x_kd_sJ, x_kd_sR, x_fr_sI, x_fr_sA, x_fr_sJ, x_ln_sI, x_ln_sA, x_ln_sJ]; exact hk.1)) ((by first | exact hk.2.2.2.2.2.1 | (simp only [x_kd_sI, x_kd_sA, x_kd_sJ, x_kd_sR, x_fr_sI, x_fr_sA, x_fr_sJ, x_ln_sI, x_ln_sA, x_ln_sJ]; exact hk.2.2.2.2.2.1))) ?_
  obtain ⟨_, h2, ⟨rfl, q1, q2, q3⟩, hca⟩ := c_forgetX G hk.2.2.2.2.2.2
  refine x_callV (a := ca + 5) (av := []) (rest := []) (r := none) (h1 := h2) dX9_clearParts_4 sX9_clearParts_79 (by first | exact hk.2.2.2.2.2.2.1 | (simp only [x_kd_sI, x_kd_sA, x_kd_sJ, x_kd_sR, x_fr_sI, x_fr_sA, x_fr_sJ, x_ln_sI, x_ln_sA, x_ln_sJ]; exact hk.2.2.2.2.2.2.1)) rfl rfl (Nat.le_of_ble_eq_true rfl) (by first | exact ⟨Nat.le_refl _, Nat.le_refl _⟩ | exact q1.le) (hca) ?_
  show x_E _ _ _ _ 7 _ [] _
  refine x_return dX9_clearParts_7 rfl (by first | exact ⟨Nat.le_refl _, Nat.le_refl _⟩ | exact q1.le) ?_
  exact ⟨rfl, q1, q2, q3⟩
set_option maxHeartbeats 4000000 in
set_option maxRecDepth 100000 in
theorem c_wayX (G : x_G) {h : x_H} {ca : Nat} (hk : k_P h ca) {s : Bool} (hs : x_fi h 300 (ca + 5) = if s = true then 1 else 0) (b : Bool) : x_Call G mX9_way h [x_r (some ca), x_i (if b = true then 1 else 0)] (some (x_i (if s = true then 1 else 0))) (x_sI h 300 (ca + 5) (if b = true then 1 else 0)) := by
  refine x_Ex.call (x_enter mwX9_way (Nat.le_of_ble_eq_true rfl) ?_)
  show x_E _ _ _ _ _ [(0, x_r (some ca)), (1, x_i (if b = true then 1 else 0))] _ _
  refine x_aload_n (i := 0) (o := some ca) dX9_way_0 rfl rfl ?_
  refine x_getRv (v := some (ca + 5)) dX9_way_1 fX9_way_33 (i := 905) rfl rfl (by first | exact hk.1 | (simp only [x_kd_sI, x_kd_sA, x_kd_sJ, x_kd_sR, x_fr_sI, x_fr_sA, x_fr_sJ, x_ln_sI, x_ln_sA, x_ln_sJ]; exact hk.1)) ((by first | exact hk.2.2.2.2.2.1 | (simp only [x_kd_sI, x_kd_sA, x_kd_sJ, x_kd_sR, x_fr_sI, x_fr_sA, x_fr_sJ, x_ln_sI, x_ln_sA, x_ln_sJ]; exact hk.2.2.2.2.2.1))) ?_
  refine x_getIv (v := if s = true then 1 else 0) dX9_way_4 fX9_way_82 (i := 300) rfl rfl (by first | exact hk.2.2.2.2.2.2.1 | (simp only [x_kd_sI, x_kd_sA, x_kd_sJ, x_kd_sR, x_fr_sI, x_fr_sA, x_fr_sJ, x_ln_sI, x_ln_sA, x_ln_sJ]; exact hk.2.2.2.2.2.2.1)) (hs) ?_
  refine x_istore_n (i := 2) (lv' := [(0, x_r (some ca)), (1, x_i (if b = true then 1 else 0)), (2, x_i (if s = true then 1 else 0))]) dX9_way_7 rfl (by decide) rfl ?_
  refine x_aload_n (i := 0) (o := some ca) dX9_way_8 rfl rfl ?_
  refine x_getRv (v := some (ca + 5)) dX9_way_9 fX9_way_33 (i := 905) rfl rfl (by first | exact hk.1 | (simp only [x_kd_sI, x_kd_sA, x_kd_sJ, x_kd_sR, x_fr_sI, x_fr_sA, x_fr_sJ, x_ln_sI, x_ln_sA, x_ln_sJ]; exact hk.1)) ((by first | exact hk.2.2.2.2.2.1 | (simp only [x_kd_sI, x_kd_sA, x_kd_sJ, x_kd_sR, x_fr_sI, x_fr_sA, x_fr_sJ, x_ln_sI, x_ln_sA, x_ln_sJ]; exact hk.2.2.2.2.2.1))) ?_
  refine x_iload_n (i := 1) (x := if b = true then 1 else 0) dX9_way_12 rfl rfl ?_
  refine x_putI (i := 300) dX9_way_13 pX9_way_82 rfl rfl (by first | exact hk.2.2.2.2.2.2.1 | (simp only [x_kd_sI, x_kd_sA, x_kd_sJ, x_kd_sR, x_fr_sI, x_fr_sA, x_fr_sJ, x_ln_sI, x_ln_sA, x_ln_sJ]; exact hk.2.2.2.2.2.2.1)) (by cases b <;> rfl) (by cases b <;> rfl) ?_
  refine x_iload_n (i := 2) (x := if s = true then 1 else 0) dX9_way_16 rfl rfl ?_
  refine x_ireturn dX9_way_17 rfl (by cases s <;> rfl) (by first | exact ⟨Nat.le_refl _, Nat.le_refl _⟩ | (simp only [x_sz_sI, x_sz_sA, x_sz_sJ, x_us_sI, x_us_sA, x_us_sJ]; exact ⟨Nat.le_refl _, Nat.le_refl _⟩)) ?_
  exact ⟨rfl, rfl⟩
set_option maxHeartbeats 4000000 in
set_option maxRecDepth 100000 in
theorem c_editionX (G : x_G) {C : Nat → Int32} {h : x_H} {bk : Nat} {rs : List Nat} {R : List (Nat × Nat)} {es : List Nat} {E : List Int32} (hb : y_bk C h bk rs R es E) {ca : Nat} (hk : k_P h ca) (hbk : x_fr h 906 ca = some bk) (hE : E.Pairwise (· < ·)) (day : Int64) : x_Call G mX9_edition h [x_r (some ca), x_l day] (some (x_i (z_ed E day E.length))) h := by
  refine x_Ex.call (x_enter mwX9_edition (Nat.le_of_ble_eq_true rfl) ?_)
  show x_E _ _ _ _ _ [(0, x_r (some ca)), (1, x_l day)] _ _
  refine x_aload_n (i := 0) (o := some ca) dX9_edition_0 rfl rfl ?_
  refine x_getRv (v := some bk) dX9_edition_1 fX9_edition_40 (i := 906) rfl rfl (by first | exact hk.1 | (simp only [x_kd_sI, x_kd_sA, x_kd_sJ, x_kd_sR, x_fr_sI, x_fr_sA, x_fr_sJ, x_ln_sI, x_ln_sA, x_ln_sJ]; exact hk.1)) (hbk) ?_
  refine x_lload_n (i := 1) (x := day) dX9_edition_4 rfl rfl ?_
  refine x_callV (a := bk) (av := [x_l day]) (rest := []) (r := (some (x_i (z_ed E day E.length)))) (h1 := h) dX9_edition_5 sX9_edition_67 hb.1.2 rfl rfl (Nat.le_of_ble_eq_true rfl) ⟨Nat.le_refl _, Nat.le_refl _⟩ (by have k := c_actingOn G hb day; rw [← z_lead_ed hE E.length (Nat.le_refl _) (z_lead_le day E)] at k; exact k) ?_
  show x_E _ _ _ _ 8 _ [x_i (z_ed E day E.length)] _
  refine x_ireturn dX9_edition_8 rfl (rfl) ⟨Nat.le_refl _, Nat.le_refl _⟩ ?_
  exact ⟨rfl, rfl⟩
set_option maxHeartbeats 4000000 in
set_option maxRecDepth 100000 in
theorem c_runX (G : x_G) {C : Nat → Int32} {h : x_H} {bk : Nat} {rs : List Nat} {R : List (Nat × Nat)} {es : List Nat} {E : List Int32} (hb : y_bk C h bk rs R es E) {ca : Nat} (hk : k_P h ca) (hbk : x_fr h 906 ca = some bk) (hE : E.Pairwise (· < ·)) (hR : ∀ q ∈ R, v_ru C q) {X : z_X} (hX : f_X h (ca + 5) X) (hfl : ca + 5 + 4 < x_sz h) (h60 : R.length ≤ 60) (day : Int64) : x_Ex G mX9_run h [x_r (some ca), x_l day] (fun r h' => r = some (x_i (z_ra C R (z_V X C R (z_ed E day E.length) R.length) (z_OO X C R (z_ed E day E.length) R.length))) ∧ y_lk2 h h' bk rs X C R (z_ed E day E.length)) := by
  refine x_enter mwX9_run (Nat.le_of_ble_eq_true rfl) ?_
  show x_E _ _ _ _ _ [(0, x_r (some ca)), (1, x_l day)] _ _
  refine x_aload_n (i := 0) (o := some ca) dX9_run_0 rfl rfl ?_
  refine x_getRv (v := some bk) dX9_run_1 fX9_run_40 (i := 906) rfl rfl (by first | exact hk.1 | (simp only [x_kd_sI, x_kd_sA, x_kd_sJ, x_kd_sR, x_fr_sI, x_fr_sA, x_fr_sJ, x_ln_sI, x_ln_sA, x_ln_sJ]; exact hk.1)) (hbk) ?_
  refine x_lload_n (i := 1) (x := day) dX9_run_4 rfl rfl ?_
  refine x_aload_n (i := 0) (o := some ca) dX9_run_5 rfl rfl ?_
  refine x_getRv (v := some (ca + 5)) dX9_run_6 fX9_run_33 (i := 905) rfl rfl (by first | exact hk.1 | (simp only [x_kd_sI, x_kd_sA, x_kd_sJ, x_kd_sR, x_fr_sI, x_fr_sA, x_fr_sJ, x_ln_sI, x_ln_sA, x_ln_sJ]; exact hk.1)) ((by first | exact hk.2.2.2.2.2.1 | (simp only [x_kd_sI, x_kd_sA, x_kd_sJ, x_kd_sR, x_fr_sI, x_fr_sA, x_fr_sJ, x_ln_sI, x_ln_sA, x_ln_sJ]; exact hk.2.2.2.2.2.1))) ?_
  obtain ⟨_, h2, ⟨rfl, hl⟩, hca⟩ := c_lookAt G hb hR hk.2.2.2.2.2.2 hX hfl h60 day (z_lead_ed hE E.length (Nat.le_refl _) (z_lead_le day E)).symm
  refine x_callV (a := bk) (av := [x_l day, x_r (some (ca + 5))]) (rest := []) (r := (some (x_i (z_ra C R (z_V X C R (z_ed E day E.length) R.length) (z_OO X C R (z_ed E day E.length) R.length))))) (h1 := h2) dX9_run_9 sX9_run_86 hb.1.2 rfl rfl (Nat.le_of_ble_eq_true rfl) (by first | exact ⟨Nat.le_refl _, Nat.le_refl _⟩ | exact hl.1.1.le) (hca) ?_
  show x_E _ _ _ _ 12 _ [x_i (z_ra C R (z_V X C R (z_ed E day E.length) R.length) (z_OO X C R (z_ed E day E.length) R.length))] _
  refine x_ireturn dX9_run_12 rfl (rfl) (by first | exact ⟨Nat.le_refl _, Nat.le_refl _⟩ | exact hl.1.1.le) ?_
  exact ⟨rfl, hl⟩
