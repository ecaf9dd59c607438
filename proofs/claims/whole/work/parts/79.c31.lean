/-! THE CLASS: HazardRules: keepByte, keepText -/
set_option maxHeartbeats 4000000 in
set_option maxRecDepth 100000 in
theorem c_keepByte (G : x_G) {h : x_H} {ca : Nat} (hk : k_P h ca) {n : Nat} (hn : x_fi h 903 ca = nI n) (h3 : n < 3000) {b : Int32} (hbb : b.toInt8.toInt32 = b) : x_Call G mX9_keepByte h [x_r (some ca), x_i b] none (x_sI (x_sA h (ca + 2) n b) 903 ca (nI (n + 1))) := by
  refine x_Ex.call (x_enter mwX9_keepByte (Nat.le_of_ble_eq_true rfl) ?_)
  show x_E _ _ _ _ _ [(0, x_r (some ca)), (1, x_i b)] _ _
  refine x_aload_n (i := 0) (o := some ca) dX9_keepByte_0 rfl rfl ?_
  refine x_getIv (v := nI n) dX9_keepByte_1 fX9_keepByte_20 (i := 903) rfl rfl (by first | exact hk.1 | (simp only [x_kd_sI, x_kd_sA, x_kd_sJ, x_kd_sR, x_fr_sI, x_fr_sA, x_fr_sJ, x_ln_sI, x_ln_sA, x_ln_sJ]; exact hk.1)) (hn) ?_
  refine x_if_lt (tgt := 39) dX9_keepByte_4 (by decide) (fun c4 => ?_) (fun c4 => ?_)
  · skip
    exact absurd c4 (nI_pos (by omega))
  · skip
    refine x_aload_n (i := 0) (o := some ca) dX9_keepByte_7 rfl rfl ?_
    refine x_getIv (v := nI n) dX9_keepByte_8 fX9_keepByte_20 (i := 903) rfl rfl (by first | exact hk.1 | (simp only [x_kd_sI, x_kd_sA, x_kd_sJ, x_kd_sR, x_fr_sI, x_fr_sA, x_fr_sJ, x_ln_sI, x_ln_sA, x_ln_sJ]; exact hk.1)) (hn) ?_
    refine x_aload_n (i := 0) (o := some ca) dX9_keepByte_11 rfl rfl ?_
    refine x_getRv (v := some (ca + 2)) dX9_keepByte_12 fX9_keepByte_17 (i := 902) rfl rfl (by first | exact hk.1 | (simp only [x_kd_sI, x_kd_sA, x_kd_sJ, x_kd_sR, x_fr_sI, x_fr_sA, x_fr_sJ, x_ln_sI, x_ln_sA, x_ln_sJ]; exact hk.1)) ((by first | exact hk.2.2.1.1 | (simp only [x_kd_sI, x_kd_sA, x_kd_sJ, x_kd_sR, x_fr_sI, x_fr_sA, x_fr_sJ, x_ln_sI, x_ln_sA, x_ln_sJ]; exact hk.2.2.1.1))) ?_
    refine x_alen (kd := 21) (t0 := 1) dX9_keepByte_15 (by first | exact hk.2.2.1.2.1 | (simp only [x_kd_sI, x_kd_sA, x_kd_sJ, x_kd_sR, x_fr_sI, x_fr_sA, x_fr_sJ, x_ln_sI, x_ln_sA, x_ln_sJ]; exact hk.2.2.1.2.1)) (by omega) (by omega) rfl ?_
    rw [show nI (x_ln h (ca + 2)) = 3000 from by rw [hk.2.2.1.2.2]; rfl]
    refine x_icmp_ge (tgt := 39) dX9_keepByte_16 (by decide) (fun c16 => ?_) (fun c16 => ?_)
    · skip
      exact absurd ((nI_leI (a := 3000) (by omega) (by omega)).mp c16) (by omega)
    · skip
      refine x_aload_n (i := 0) (o := some ca) dX9_keepByte_19 rfl rfl ?_
      refine x_getRv (v := some (ca + 2)) dX9_keepByte_20 fX9_keepByte_17 (i := 902) rfl rfl (by first | exact hk.1 | (simp only [x_kd_sI, x_kd_sA, x_kd_sJ, x_kd_sR, x_fr_sI, x_fr_sA, x_fr_sJ, x_ln_sI, x_ln_sA, x_ln_sJ]; exact hk.1)) ((by first | exact hk.2.2.1.1 | (simp only [x_kd_sI, x_kd_sA, x_kd_sJ, x_kd_sR, x_fr_sI, x_fr_sA, x_fr_sJ, x_ln_sI, x_ln_sA, x_ln_sJ]; exact hk.2.2.1.1))) ?_
      refine x_aload_n (i := 0) (o := some ca) dX9_keepByte_23 rfl rfl ?_
      refine x_getIv (v := nI n) dX9_keepByte_24 fX9_keepByte_20 (i := 903) rfl rfl (by first | exact hk.1 | (simp only [x_kd_sI, x_kd_sA, x_kd_sJ, x_kd_sR, x_fr_sI, x_fr_sA, x_fr_sJ, x_ln_sI, x_ln_sA, x_ln_sJ]; exact hk.1)) (hn) ?_
      refine x_iload_n (i := 1) (x := b) dX9_keepByte_27 rfl rfl ?_
      refine x_bastoreN (n := n) (v := b) dX9_keepByte_28 (by first | exact hk.2.2.1.2.1 | (simp only [x_kd_sI, x_kd_sA, x_kd_sJ, x_kd_sR, x_fr_sI, x_fr_sA, x_fr_sJ, x_ln_sI, x_ln_sA, x_ln_sJ]; exact hk.2.2.1.2.1)) (rfl) (by first | (rw [hk.2.2.1.2.2]; omega) | (simp only [x_ln_sI, x_ln_sA, x_ln_sJ]; rw [hk.2.2.1.2.2]; omega)) (by first | (rw [hk.2.2.1.2.2]; omega) | (simp only [x_ln_sI, x_ln_sA, x_ln_sJ]; rw [hk.2.2.1.2.2]; omega)) (by show (.int (b.toInt8.toInt32) : Value) = _; rw [hbb]) ?_
      refine x_aload_n (i := 0) (o := some ca) dX9_keepByte_29 rfl rfl ?_
      refine x_dup dX9_keepByte_30 rfl ?_
      refine x_getIv (v := nI n) dX9_keepByte_31 fX9_keepByte_20 (i := 903) rfl rfl (by first | exact hk.1 | (simp only [x_kd_sI, x_kd_sA, x_kd_sJ, x_kd_sR, x_fr_sI, x_fr_sA, x_fr_sJ, x_ln_sI, x_ln_sA, x_ln_sJ]; exact hk.1)) (hn) ?_
      refine x_iconst (v := 1) dX9_keepByte_34 (by decide) ?_
      refine x_iadd dX9_keepByte_35 ?_
      rw [show (nI n) + 1 = nI (n + 1) from nI_1 n]
      refine x_putI (i := 903) dX9_keepByte_36 pX9_keepByte_20 rfl rfl (by first | exact hk.1 | (simp only [x_kd_sI, x_kd_sA, x_kd_sJ, x_kd_sR, x_fr_sI, x_fr_sA, x_fr_sJ, x_ln_sI, x_ln_sA, x_ln_sJ]; exact hk.1)) (rfl) (by rfl) ?_
      refine x_return dX9_keepByte_39 rfl (by first | exact ⟨Nat.le_refl _, Nat.le_refl _⟩ | (simp only [x_sz_sI, x_sz_sA, x_sz_sJ, x_us_sI, x_us_sA, x_us_sJ]; exact ⟨Nat.le_refl _, Nat.le_refl _⟩)) ?_
      exact ⟨rfl, rfl⟩
/-- the kept bytes so far -/
def k_H (h h1 : x_H) (ca : Nat) (K : List Int32) : Prop := x_F h h1 (fun f a => f = 903 ∧ a = ca) (fun a => a = ca + 2) ∧ x_fi h1 903 ca = nI K.length ∧ ∀ (j : Nat) (x : Int32), K[j]? = some x → x_rw h1 (ca + 2) j = x
theorem k_H.b {h h1 : x_H} {ca : Nat} {K : List Int32} (k : k_H h h1 ca K) (b : Int32) : k_H h (x_sI (x_sA h1 (ca + 2) K.length b) 903 ca (nI (K.length + 1))) ca (K ++ [b]) := by
  obtain ⟨k1, k2, k3⟩ := k
  refine ⟨(k1.A rfl).I ⟨rfl, rfl⟩, ?_, fun j x hj => ?_⟩
  · rw [x_fi_sI, if_pos ⟨rfl, rfl⟩, List.length_append]
    rfl
  · rw [x_rw_sI, x_rw_sA]
    rcases Nat.lt_or_ge j K.length with z | z
    · rw [List.getElem?_append_left z] at hj
      rw [if_neg (by omega)]
      exact k3 j x hj
    · rw [List.getElem?_append_right z] at hj
      have hj0 : j = K.length := by
        have := (List.getElem?_eq_some_iff.mp hj).1
        simp at this
        omega
      subst hj0
      rw [Nat.sub_self] at hj
      rw [if_pos ⟨rfl, rfl⟩]
      exact (Option.some.inj hj)
theorem k_P.F {h h1 : x_H} {ca : Nat} {P : Nat → Nat → Prop} {R : Nat → Prop} (hk : k_P h ca) (hF : x_F h h1 P R) : k_P h1 ca := by
  obtain ⟨f1, f2, f3, f4, f5, f6⟩ := hF
  unfold k_P c_W f_P
  rw [f3, f4, f5]
  exact hk
theorem k_P.set {h : x_H} {ca i a j b : Nat} {u v : Int32} (hk : k_P h ca) : k_P (x_sI (x_sA h a j u) i b v) ca := hk
set_option maxHeartbeats 4000000 in
set_option maxRecDepth 100000 in
theorem l_keepText (G : x_G) {h : x_H} {ca : Nat} (hk : k_P h ca) {n : Nat} (hn : x_fi h 901 ca = nI n) (h3 : n ≤ 3000) (hT : ∀ i, (x_rw h (ca + 1) i).toInt8.toInt32 = x_rw h (ca + 1) i) (Q : Option x_V → x_H → Prop) (hQ : ∀ h1 K, (∃ p, k_s (x_rw h (ca + 1)) n n K p) → k_H h h1 ca K → Q none h1) : ∀ (f i : Nat) (K : List Int32) (p : Bool) (h1 : x_H), i ≤ n → n - i = f → k_s (x_rw h (ca + 1)) n i K p → k_H h h1 ca K → x_E G mX9_keepText (x_D G mX9_keepText h Q) h 9 [(0, x_r (some ca)), (1, x_i (if p = true then 1 else 0)), (2, x_i (nI i))] [] h1 := by
  intro f
  induction f with
  | zero =>
    intro i K p h1 hi hf hks hkH
    have ei : i = n := by omega
    subst ei
    have hk1 := hk.F hkH.1
    have hks : ∃ p, k_s (x_rw h (ca + 1)) i i K p := ⟨p, hks⟩
    refine x_iload_n (i := 2) (x := nI i) dX9_keepText_9 rfl rfl ?_
    refine x_aload_n (i := 0) (o := some ca) dX9_keepText_10 rfl rfl ?_
    refine x_getIv (v := nI i) dX9_keepText_11 fX9_keepText_13 (i := 901) rfl rfl (by first | exact hk1.1 | (simp only [x_kd_sI, x_kd_sA, x_kd_sJ, x_kd_sR, x_fr_sI, x_fr_sA, x_fr_sJ, x_ln_sI, x_ln_sA, x_ln_sJ]; exact hk1.1)) ((hkH.1.fi (by omega)).trans hn) ?_
    refine x_icmp_ge (tgt := 82) dX9_keepText_14 (by decide) (fun c14 => ?_) (fun c14 => ?_)
    · skip
      refine x_return dX9_keepText_82 rfl (by first | exact hkH.1.le | exact (hkH.b 32).1.le | exact (hkH.b _).1.le) ?_
      exact hQ h1 K hks hkH
    · skip
      exact absurd (Int32.le_refl _) c14
  | succ f ih =>
    intro i K p h1 hi hf hks hkH
    have hk1 := hk.F hkH.1
    have hk_rw : x_rw h1 (ca + 1) i = x_rw h (ca + 1) i := by rw [hkH.1.rw (by omega)]
    refine x_iload_n (i := 2) (x := nI i) dX9_keepText_9 rfl rfl ?_
    refine x_aload_n (i := 0) (o := some ca) dX9_keepText_10 rfl rfl ?_
    refine x_getIv (v := nI n) dX9_keepText_11 fX9_keepText_13 (i := 901) rfl rfl (by first | exact hk1.1 | (simp only [x_kd_sI, x_kd_sA, x_kd_sJ, x_kd_sR, x_fr_sI, x_fr_sA, x_fr_sJ, x_ln_sI, x_ln_sA, x_ln_sJ]; exact hk1.1)) ((hkH.1.fi (by omega)).trans hn) ?_
    refine x_icmp_ge (tgt := 82) dX9_keepText_14 (by decide) (fun c14 => ?_) (fun c14 => ?_)
    · skip
      exact absurd ((nI_leI (by omega) (by omega)).mp c14) (by omega)
    · skip
      refine x_iload_n (i := 2) (x := nI i) dX9_keepText_17 rfl rfl ?_
      refine x_aload_n (i := 0) (o := some ca) dX9_keepText_18 rfl rfl ?_
      refine x_getRv (v := some (ca + 1)) dX9_keepText_19 fX9_keepText_9 (i := 900) rfl rfl (by first | exact hk1.1 | (simp only [x_kd_sI, x_kd_sA, x_kd_sJ, x_kd_sR, x_fr_sI, x_fr_sA, x_fr_sJ, x_ln_sI, x_ln_sA, x_ln_sJ]; exact hk1.1)) ((by first | exact hk1.2.1.1 | (simp only [x_kd_sI, x_kd_sA, x_kd_sJ, x_kd_sR, x_fr_sI, x_fr_sA, x_fr_sJ, x_ln_sI, x_ln_sA, x_ln_sJ]; exact hk1.2.1.1))) ?_
      refine x_alen (kd := 21) (t0 := 1) dX9_keepText_22 (by first | exact hk1.2.1.2.1 | (simp only [x_kd_sI, x_kd_sA, x_kd_sJ, x_kd_sR, x_fr_sI, x_fr_sA, x_fr_sJ, x_ln_sI, x_ln_sA, x_ln_sJ]; exact hk1.2.1.2.1)) (by omega) (by omega) rfl ?_
      rw [show nI (x_ln h1 (ca + 1)) = 3000 from by rw [hk1.2.1.2.2]; rfl]
      refine x_icmp_ge (tgt := 82) dX9_keepText_23 (by decide) (fun c23 => ?_) (fun c23 => ?_)
      · skip
        exact absurd ((nI_leI (a := 3000) (by omega) (by omega)).mp c23) (by omega)
      · skip
        refine x_aload_n (i := 0) (o := some ca) dX9_keepText_26 rfl rfl ?_
        refine x_getRv (v := some (ca + 1)) dX9_keepText_27 fX9_keepText_9 (i := 900) rfl rfl (by first | exact hk1.1 | (simp only [x_kd_sI, x_kd_sA, x_kd_sJ, x_kd_sR, x_fr_sI, x_fr_sA, x_fr_sJ, x_ln_sI, x_ln_sA, x_ln_sJ]; exact hk1.1)) ((by first | exact hk1.2.1.1 | (simp only [x_kd_sI, x_kd_sA, x_kd_sJ, x_kd_sR, x_fr_sI, x_fr_sA, x_fr_sJ, x_ln_sI, x_ln_sA, x_ln_sJ]; exact hk1.2.1.1))) ?_
        refine x_iload_n (i := 2) (x := nI i) dX9_keepText_30 rfl rfl ?_
        refine x_baloadN (n := i) (v := x_rw h (ca + 1) i) dX9_keepText_31 (by first | exact hk1.2.1.2.1 | (simp only [x_kd_sI, x_kd_sA, x_kd_sJ, x_kd_sR, x_fr_sI, x_fr_sA, x_fr_sJ, x_ln_sI, x_ln_sA, x_ln_sJ]; exact hk1.2.1.2.1)) (rfl) (by first | (rw [hk1.2.1.2.2]; omega) | (simp only [x_ln_sI, x_ln_sA]; rw [hk1.2.1.2.2]; omega)) (by first | (rw [hk1.2.1.2.2]; omega) | (simp only [x_ln_sI, x_ln_sA]; rw [hk1.2.1.2.2]; omega)) (by first | (rw [hk_rw]) | (rw [x_rw_sI, x_rw_sA, if_neg (by omega), hk_rw])) ?_
        by_cases qg : z_gap (x_rw h (ca + 1) i) = true
        · skip
          refine x_callS (av := [x_i (x_rw h (ca + 1) i)]) (rest := []) (r := (some (x_i 1))) (h1 := h1) dX9_keepText_32 sX9_keepText_179 rfl rfl (Nat.le_of_ble_eq_true rfl) (by first | exact hkH.1.le | exact (hkH.b 32).1.le | exact (hkH.b _).1.le) (by have k := c_isGapX G h1 (x_rw h (ca + 1) i); rw [if_pos qg] at k; exact k) ?_
          show x_E _ _ _ _ 35 _ [x_i 1] _
          refine x_if_eq (tgt := 54) dX9_keepText_35 (by decide) (fun c => absurd c (by decide)) (fun _ => ?_)
          refine x_aload_n (i := 0) (o := some ca) dX9_keepText_38 rfl rfl ?_
          refine x_getIv (v := nI K.length) dX9_keepText_39 fX9_keepText_20 (i := 903) rfl rfl (by first | exact hk1.1 | (simp only [x_kd_sI, x_kd_sA, x_kd_sJ, x_kd_sR, x_fr_sI, x_fr_sA, x_fr_sJ, x_ln_sI, x_ln_sA, x_ln_sJ]; exact hk1.1)) (hkH.2.1) ?_
          refine x_if_le (tgt := 49) dX9_keepText_42 (by decide) (fun c42 => ?_) (fun c42 => ?_)
          · skip
            refine x_iconst (v := 0) dX9_keepText_49 (by decide) ?_
            refine x_istore_n (i := 1) (lv' := [(0, x_r (some ca)), (1, x_i 0), (2, x_i (nI i))]) dX9_keepText_50 rfl (by decide) rfl ?_
            refine x_goto (tgt := 76) dX9_keepText_51 (by decide) ?_
            refine x_iinc (i := 2) (x := nI i) (v := nI (i + 1)) (lv' := [(0, x_r (some ca)), (1, x_i 0), (2, x_i (nI (i + 1)))]) dX9_keepText_76 rfl (nI_1 i) (by decide) rfl ?_
            refine x_goto (tgt := 9) dX9_keepText_79 (by decide) ?_
            show x_E _ _ _ _ 9 _ _ _
            have e0 : decide (0 < K.length) = false := decide_eq_false (fun z => absurd (nI_lt z (by have := hks.r; omega)) (Int32.not_lt.mpr c42))
            have k2 := hks.g (by omega) qg
            rw [e0] at k2
            exact ih (i + 1) K false h1 (by omega) (by omega) k2 hkH
          · skip
            refine x_iconst (v := 1) dX9_keepText_45 (by decide) ?_
            refine x_goto (tgt := 50) dX9_keepText_46 (by decide) ?_
            refine x_istore_n (i := 1) (lv' := [(0, x_r (some ca)), (1, x_i 1), (2, x_i (nI i))]) dX9_keepText_50 rfl (by decide) rfl ?_
            refine x_goto (tgt := 76) dX9_keepText_51 (by decide) ?_
            refine x_iinc (i := 2) (x := nI i) (v := nI (i + 1)) (lv' := [(0, x_r (some ca)), (1, x_i 1), (2, x_i (nI (i + 1)))]) dX9_keepText_76 rfl (nI_1 i) (by decide) rfl ?_
            refine x_goto (tgt := 9) dX9_keepText_79 (by decide) ?_
            show x_E _ _ _ _ 9 _ _ _
            have e0 : decide (0 < K.length) = true := decide_eq_true (by
              rcases Nat.eq_zero_or_pos K.length with z | z
              · rw [z] at c42
                exact absurd (by decide) c42
              · exact z)
            have k2 := hks.g (by omega) qg
            rw [e0] at k2
            exact ih (i + 1) K true h1 (by omega) (by omega) k2 hkH
        · skip
          have qf : z_gap (x_rw h (ca + 1) i) = false := by
            cases hz : z_gap (x_rw h (ca + 1) i) with
            | false => rfl
            | true => exact absurd hz qg
          refine x_callS (av := [x_i (x_rw h (ca + 1) i)]) (rest := []) (r := (some (x_i 0))) (h1 := h1) dX9_keepText_32 sX9_keepText_179 rfl rfl (Nat.le_of_ble_eq_true rfl) (by first | exact hkH.1.le | exact (hkH.b 32).1.le | exact (hkH.b _).1.le) (by have k := c_isGapX G h1 (x_rw h (ca + 1) i); rw [if_neg qg] at k; exact k) ?_
          show x_E _ _ _ _ 35 _ [x_i 0] _
          refine x_if_eq (tgt := 54) dX9_keepText_35 (by decide) (fun _ => ?_) (fun c => absurd (by decide) c)
          refine x_iload_n (i := 1) (x := if p = true then 1 else 0) dX9_keepText_54 rfl rfl ?_
          refine x_if_eq (tgt := 66) dX9_keepText_55 (by decide) (fun c55 => ?_) (fun c55 => ?_)
          · skip
            have hp0 : ¬ p = true := fun z => by rw [if_pos z] at c55; exact absurd c55 (by decide)
            refine x_aload_n (i := 0) (o := some ca) dX9_keepText_66 rfl rfl ?_
            refine x_aload_n (i := 0) (o := some ca) dX9_keepText_67 rfl rfl ?_
            refine x_getRv (v := some (ca + 1)) dX9_keepText_68 fX9_keepText_9 (i := 900) rfl rfl (by first | exact hk1.1 | (simp only [x_kd_sI, x_kd_sA, x_kd_sJ, x_kd_sR, x_fr_sI, x_fr_sA, x_fr_sJ, x_ln_sI, x_ln_sA, x_ln_sJ]; exact hk1.1)) ((by first | exact hk1.2.1.1 | (simp only [x_kd_sI, x_kd_sA, x_kd_sJ, x_kd_sR, x_fr_sI, x_fr_sA, x_fr_sJ, x_ln_sI, x_ln_sA, x_ln_sJ]; exact hk1.2.1.1))) ?_
            refine x_iload_n (i := 2) (x := nI i) dX9_keepText_71 rfl rfl ?_
            refine x_baloadN (n := i) (v := x_rw h (ca + 1) i) dX9_keepText_72 (by first | exact hk1.2.1.2.1 | (simp only [x_kd_sI, x_kd_sA, x_kd_sJ, x_kd_sR, x_fr_sI, x_fr_sA, x_fr_sJ, x_ln_sI, x_ln_sA, x_ln_sJ]; exact hk1.2.1.2.1)) (rfl) (by first | (rw [hk1.2.1.2.2]; omega) | (simp only [x_ln_sI, x_ln_sA]; rw [hk1.2.1.2.2]; omega)) (by first | (rw [hk1.2.1.2.2]; omega) | (simp only [x_ln_sI, x_ln_sA]; rw [hk1.2.1.2.2]; omega)) (by first | (rw [hk_rw]) | (rw [x_rw_sI, x_rw_sA, if_neg (by omega), hk_rw])) ?_
            refine x_callV (a := ca) (av := [x_i (x_rw h (ca + 1) i)]) (rest := []) (r := none) (h1 := x_sI (x_sA h1 (ca + 2) K.length (x_rw h (ca + 1) i)) 903 ca (nI (K.length + 1))) dX9_keepText_73 sX9_keepText_183 (by first | exact hk1.1 | (simp only [x_kd_sI, x_kd_sA, x_kd_sJ, x_kd_sR, x_fr_sI, x_fr_sA, x_fr_sJ, x_ln_sI, x_ln_sA, x_ln_sJ]; exact hk1.1)) rfl rfl (Nat.le_of_ble_eq_true rfl) (by first | exact hkH.1.le | exact (hkH.b 32).1.le | exact (hkH.b _).1.le) (c_keepByte G hk1 hkH.2.1 (by have := hks.r; rw [if_neg hp0] at this; omega) (hT i)) ?_
            show x_E _ _ _ _ 76 _ [] _
            refine x_iinc (i := 2) (x := nI i) (v := nI (i + 1)) (lv' := [(0, x_r (some ca)), (1, x_i (if p = true then 1 else 0)), (2, x_i (nI (i + 1)))]) dX9_keepText_76 rfl (nI_1 i) (by decide) rfl ?_
            refine x_goto (tgt := 9) dX9_keepText_79 (by decide) ?_
            show x_E _ _ _ _ 9 _ _ _
            have k2 := hks.b (by omega) qf
            rw [if_neg hp0, List.nil_append] at k2
            have hpf : p = false := by
              cases p with
              | false => rfl
              | true => exact absurd rfl hp0
            subst hpf
            exact ih (i + 1) (K ++ [x_rw h (ca + 1) i]) false _ (by omega) (by omega) k2 (hkH.b (x_rw h (ca + 1) i))
          · skip
            have hp1 : p = true := Classical.byContradiction fun z => by rw [if_neg z] at c55; exact c55 rfl
            refine x_aload_n (i := 0) (o := some ca) dX9_keepText_58 rfl rfl ?_
            refine x_bipush (v := 32) dX9_keepText_59 (by decide) ?_
            refine x_callV (a := ca) (av := [x_i 32]) (rest := []) (r := none) (h1 := x_sI (x_sA h1 (ca + 2) K.length 32) 903 ca (nI (K.length + 1))) dX9_keepText_61 sX9_keepText_183 (by first | exact hk1.1 | (simp only [x_kd_sI, x_kd_sA, x_kd_sJ, x_kd_sR, x_fr_sI, x_fr_sA, x_fr_sJ, x_ln_sI, x_ln_sA, x_ln_sJ]; exact hk1.1)) rfl rfl (Nat.le_of_ble_eq_true rfl) (by first | exact hkH.1.le | exact (hkH.b 32).1.le | exact (hkH.b _).1.le) (c_keepByte G hk1 hkH.2.1 (by have := hks.r; rw [if_pos hp1] at this; omega) (b := 32) (by decide)) ?_
            show x_E _ _ _ _ 64 _ [] _
            refine x_iconst (v := 0) dX9_keepText_64 (by decide) ?_
            refine x_istore_n (i := 1) (lv' := [(0, x_r (some ca)), (1, x_i 0), (2, x_i (nI i))]) dX9_keepText_65 rfl (by decide) rfl ?_
            refine x_aload_n (i := 0) (o := some ca) dX9_keepText_66 rfl rfl ?_
            refine x_aload_n (i := 0) (o := some ca) dX9_keepText_67 rfl rfl ?_
            refine x_getRv (v := some (ca + 1)) dX9_keepText_68 fX9_keepText_9 (i := 900) rfl rfl (by first | exact hk1.1 | (simp only [x_kd_sI, x_kd_sA, x_kd_sJ, x_kd_sR, x_fr_sI, x_fr_sA, x_fr_sJ, x_ln_sI, x_ln_sA, x_ln_sJ]; exact hk1.1)) ((by first | exact hk1.2.1.1 | (simp only [x_kd_sI, x_kd_sA, x_kd_sJ, x_kd_sR, x_fr_sI, x_fr_sA, x_fr_sJ, x_ln_sI, x_ln_sA, x_ln_sJ]; exact hk1.2.1.1))) ?_
            refine x_iload_n (i := 2) (x := nI i) dX9_keepText_71 rfl rfl ?_
            refine x_baloadN (n := i) (v := x_rw h (ca + 1) i) dX9_keepText_72 (by first | exact hk1.2.1.2.1 | (simp only [x_kd_sI, x_kd_sA, x_kd_sJ, x_kd_sR, x_fr_sI, x_fr_sA, x_fr_sJ, x_ln_sI, x_ln_sA, x_ln_sJ]; exact hk1.2.1.2.1)) (rfl) (by first | (rw [hk1.2.1.2.2]; omega) | (simp only [x_ln_sI, x_ln_sA]; rw [hk1.2.1.2.2]; omega)) (by first | (rw [hk1.2.1.2.2]; omega) | (simp only [x_ln_sI, x_ln_sA]; rw [hk1.2.1.2.2]; omega)) (by first | (rw [hk_rw]) | (rw [x_rw_sI, x_rw_sA, if_neg (by omega), hk_rw])) ?_
            refine x_callV (a := ca) (av := [x_i (x_rw h (ca + 1) i)]) (rest := []) (r := none) (h1 := x_sI (x_sA (x_sI (x_sA h1 (ca + 2) K.length 32) 903 ca (nI (K.length + 1))) (ca + 2) (K.length + 1) (x_rw h (ca + 1) i)) 903 ca (nI (K.length + 1 + 1))) dX9_keepText_73 sX9_keepText_183 (by first | exact hk1.1 | (simp only [x_kd_sI, x_kd_sA, x_kd_sJ, x_kd_sR, x_fr_sI, x_fr_sA, x_fr_sJ, x_ln_sI, x_ln_sA, x_ln_sJ]; exact hk1.1)) rfl rfl (Nat.le_of_ble_eq_true rfl) (by first | exact hkH.1.le | exact (hkH.b 32).1.le | exact (hkH.b _).1.le) (c_keepByte G (h := x_sI (x_sA h1 (ca + 2) K.length 32) 903 ca (nI (K.length + 1))) hk1 (by rw [x_fi_sI, if_pos ⟨rfl, rfl⟩]) (by have := hks.r; rw [if_pos hp1] at this; omega) (hT i)) ?_
            show x_E _ _ _ _ 76 _ [] _
            refine x_iinc (i := 2) (x := nI i) (v := nI (i + 1)) (lv' := [(0, x_r (some ca)), (1, x_i 0), (2, x_i (nI (i + 1)))]) dX9_keepText_76 rfl (nI_1 i) (by decide) rfl ?_
            refine x_goto (tgt := 9) dX9_keepText_79 (by decide) ?_
            show x_E _ _ _ _ 9 _ _ _
            have k2 := hks.b (by omega) qf
            rw [if_pos hp1, ← List.append_assoc] at k2
            have kk := (hkH.b 32).b (x_rw h (ca + 1) i)
            rw [List.length_append, List.length_singleton] at kk
            exact ih (i + 1) (K ++ [32] ++ [x_rw h (ca + 1) i]) false _ (by omega) (by omega) k2 kk
set_option maxHeartbeats 4000000 in
set_option maxRecDepth 100000 in
theorem c_keepText (G : x_G) {h : x_H} {ca : Nat} (hk : k_P h ca) {n : Nat} (hn : x_fi h 901 ca = nI n) (h3 : n ≤ 3000) (hT : ∀ i, (x_rw h (ca + 1) i).toInt8.toInt32 = x_rw h (ca + 1) i) : x_Ex G mX9_keepText h [x_r (some ca)] (fun r h1 => r = none ∧ k_H h h1 ca (z_tx (x_rw h (ca + 1)) (z_words (x_rw h (ca + 1)) n)) ∧ (z_tx (x_rw h (ca + 1)) (z_words (x_rw h (ca + 1)) n)).length ≤ n) := by
  refine x_enter mwX9_keepText (Nat.le_of_ble_eq_true rfl) ?_
  show x_E _ _ _ _ _ [(0, x_r (some ca))] _ _
  refine x_aload_n (i := 0) (o := some ca) dX9_keepText_0 rfl rfl ?_
  refine x_iconst (v := 0) dX9_keepText_1 (by decide) ?_
  refine x_putI (i := 903) dX9_keepText_2 pX9_keepText_20 rfl rfl (by first | exact hk.1 | (simp only [x_kd_sI, x_kd_sA, x_kd_sJ, x_kd_sR, x_fr_sI, x_fr_sA, x_fr_sJ, x_ln_sI, x_ln_sA, x_ln_sJ]; exact hk.1)) (rfl) (by rfl) ?_
  refine x_iconst (v := 0) dX9_keepText_5 (by decide) ?_
  refine x_istore_n (i := 1) (lv' := [(0, x_r (some ca)), (1, x_i 0)]) dX9_keepText_6 rfl (by decide) rfl ?_
  refine x_iconst (v := 0) dX9_keepText_7 (by decide) ?_
  refine x_istore_n (i := 2) (lv' := [(0, x_r (some ca)), (1, x_i 0), (2, x_i 0)]) dX9_keepText_8 rfl (by decide) rfl ?_
  show x_E _ _ _ _ 9 _ _ _
  exact l_keepText G hk hn h3 hT _ (fun h1 K a b => by obtain ⟨p, a⟩ := a; obtain ⟨e1, e2⟩ := a.e; subst e1; exact ⟨rfl, b, e2⟩) n 0 [] false _ (Nat.zero_le _) rfl (k_s_0 _ _) ⟨x_F.rf.I ⟨rfl, rfl⟩, by rw [x_fi_sI, if_pos ⟨rfl, rfl⟩]; rfl, fun j x hj => by cases hj⟩
