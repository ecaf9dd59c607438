/-! THE REFERENCE: a new object -/
/-- an object at m is being made: its arrays so far, behind it, in order (field, kind, length); its numbers f; what lies below is as it was -/
def w_I (h h1 : x_H) (m k : Nat) (L : List (Nat × Nat × Nat)) (f : Nat → Int32) : Prop := x_sz h1 = m + 1 + L.length ∧ x_us h1 = x_us h + (L.map (fun q => q.2.2)).sum ∧ x_kd h1 m = k ∧ (∀ i, x_fi h1 i m = f i) ∧ (∀ (j : Nat) (q : Nat × Nat × Nat), L[j]? = some q → x_fr h1 q.1 m = some (m + 1 + j) ∧ x_kd h1 (m + 1 + j) = q.2.1 ∧ x_ln h1 (m + 1 + j) = q.2.2 ∧ (∀ i, x_rw h1 (m + 1 + j) i = 0) ∧ ∀ i, x_rl h1 (m + 1 + j) i = 0) ∧ ∀ a, a < m → x_kd h1 a = x_kd h a ∧ (∀ i, x_fi h1 i a = x_fi h i a) ∧ (∀ i, x_fr h1 i a = x_fr h i a) ∧ (∀ i, x_fl h1 i a = x_fl h i a) ∧ x_ln h1 a = x_ln h a ∧ x_rw h1 a = x_rw h a ∧ x_rl h1 a = x_rl h a
theorem w_I.A {h h1 : x_H} {m k : Nat} {L : List (Nat × Nat × Nat)} {f : Nat → Int32} (w : w_I h h1 m k L f) (fid kd n : Nat) (hf : ∀ q ∈ L, ¬ q.1 = fid) : w_I h (x_sR (x_nA h1 kd n) fid m (some (x_sz h1))) m k (L ++ [(fid, kd, n)]) f := by
  obtain ⟨a1, a2, a3, a4, a5, a6⟩ := w
  refine ⟨?_, ?_, ?_, ?_, ?_, ?_⟩
  · rw [x_sz_sR, x_sz_nA, a1, List.length_append]
    simp only [List.length_cons, List.length_nil]
    omega
  · rw [x_us_sR, x_us_nA, a2]
    simp [List.sum_append]
    omega
  · rw [x_kd_sR, x_kd_nA, if_neg (by omega)]
    exact a3
  · intro i
    exact a4 i
  · intro j q hj
    rcases Nat.lt_or_ge j L.length with hl | hl
    · rw [List.getElem?_append_left hl] at hj
      obtain ⟨b1, b2, b3, b4, b5⟩ := a5 j q hj
      refine ⟨?_, ?_, ?_, ?_, ?_⟩
      · rw [x_fr_sR, if_neg (fun z => hf q (List.mem_of_getElem? hj) z.1)]
        exact b1
      · rw [x_kd_sR, x_kd_nA, if_neg (by omega)]
        exact b2
      · rw [x_ln_sR, x_ln_nA, if_neg (by omega)]
        exact b3
      · intro i
        rw [x_rw_sR, x_rw_nA, if_neg (by omega)]
        exact b4 i
      · intro i
        rw [x_rl_sR, x_rl_nA, if_neg (by omega)]
        exact b5 i
    · rw [List.getElem?_append_right hl] at hj
      have hj0 : j = L.length := by
        have := (List.getElem?_eq_some_iff.mp hj).1
        simp at this
        omega
      subst hj0
      have : q = (fid, kd, n) := by
        rw [Nat.sub_self] at hj
        exact (Option.some.inj hj).symm
      subst this
      refine ⟨?_, ?_, ?_, ?_, ?_⟩
      · rw [x_fr_sR, if_pos ⟨rfl, rfl⟩, a1]
      · rw [x_kd_sR, x_kd_nA, if_pos a1.symm]
      · rw [x_ln_sR, x_ln_nA, if_pos a1.symm]
      · intro i
        rw [x_rw_sR, x_rw_nA, if_pos a1.symm]
      · intro i
        rw [x_rl_sR, x_rl_nA, if_pos a1.symm]
  · intro a ha
    obtain ⟨b1, b2, b3, b4, b5, b6, b7⟩ := a6 a ha
    refine ⟨?_, b2, ?_, b4, ?_, ?_, ?_⟩
    · rw [x_kd_sR, x_kd_nA, if_neg (by omega)]
      exact b1
    · intro i
      rw [x_fr_sR, if_neg (by omega)]
      exact b3 i
    · rw [x_ln_sR, x_ln_nA, if_neg (by omega)]
      exact b5
    · funext i
      rw [x_rw_sR, x_rw_nA, if_neg (by omega), b6]
    · funext i
      rw [x_rl_sR, x_rl_nA, if_neg (by omega), b7]
theorem w_I.I {h h1 : x_H} {m k : Nat} {L : List (Nat × Nat × Nat)} {f : Nat → Int32} (w : w_I h h1 m k L f) (fid : Nat) (v : Int32) : w_I h (x_sI h1 fid m v) m k L (fun i => if i = fid then v else f i) := by
  obtain ⟨a1, a2, a3, a4, a5, a6⟩ := w
  refine ⟨a1, a2, a3, fun i => ?_, a5, fun a ha => ?_⟩
  · show _ = if i = fid then v else f i
    rw [x_fi_sI]
    by_cases hi : i = fid
    · rw [if_pos ⟨hi, rfl⟩, if_pos hi]
    · rw [if_neg (fun z => hi z.1), if_neg hi]
      exact a4 i
  · obtain ⟨b1, b2, b3, b4, b5, b6, b7⟩ := a6 a ha
    refine ⟨b1, fun i => ?_, b3, b4, b5, b6, b7⟩
    rw [x_fi_sI, if_neg (by omega)]
    exact b2 i
theorem w_le {h h1 : x_H} {m k : Nat} {L : List (Nat × Nat × Nat)} {f : Nat → Int32} (hs0 : x_sz h = m + 1) (w : w_I h h1 m k L f) : x_sz h ≤ x_sz h1 ∧ x_us h ≤ x_us h1 := ⟨by rw [hs0, w.1]; omega, by rw [w.2.1]; omega⟩
set_option maxHeartbeats 4000000 in
set_option maxRecDepth 100000 in
theorem l_initM (G : x_G) {h h1 : x_H} {m : Nat} (hs0 : x_sz h = m + 1) (w : w_I h h1 m 10 [(1000, 21, 3000), (1002, 21, 3000), (1003, 20, 1501), (1004, 20, 1501), (1006, 20, 1501), (1007, 20, 1501), (1009, 20, 60), (1010, 20, 60), (1012, 20, 1500), (1014, 20, 16), (1015, 20, 16), (1016, 22, 16), (1017, 20, 8), (1020, 20, 60), (1021, 20, 60), (1022, 20, 20)] (fun i => if i = 1019 then (-1) else (fun i => if i = 1018 then 1 else (fun _ => 0) i) i)) {Q : Option x_V → x_H → Prop} (hQ : (∀ h2, x_F h1 h2 (fun _ _ => False) (fun a => a = m + 13) → (∀ t, t < 8 → x_rw h2 (m + 13) t = -1) → Q none h2)) : ∀ (n i : Nat) (h2 : x_H), i ≤ 8 → 8 - i = n → x_F h1 h2 (fun _ _ => False) (fun a => a = m + 13) → (∀ t, t < i → x_rw h2 (m + 13) t = -1) → x_E G mX10_init (x_D G mX10_init h Q) h 151 [(0, x_r (some m)), (1, x_i (nI i))] [] h2 := by
  intro n
  induction n with
  | zero =>
    intro i h2 hi hn hF1 h8
    have ei : i = 8 := by omega
    subst ei
    have hle : x_sz h ≤ x_sz h2 ∧ x_us h ≤ x_us h2 := ⟨Nat.le_trans (w_le hs0 w).1 hF1.le.1, Nat.le_trans (w_le hs0 w).2 hF1.le.2⟩
    refine x_iload_n (i := 1) (x := nI 8) dX10_init_151 rfl rfl ?_
    refine x_bipush (v := 7) dX10_init_152 (by decide) ?_
    refine x_icmp_gt (tgt := 170) dX10_init_154 (by decide) (fun c154 => ?_) (fun c154 => ?_)
    · skip
      refine x_return dX10_init_170 rfl hle ?_
      exact hQ _ hF1 h8
    · skip
      exact absurd (by decide) c154
  | succ n ih =>
    intro i h2 hi hn hF1 h8
    have hle : x_sz h ≤ x_sz h2 ∧ x_us h ≤ x_us h2 := ⟨Nat.le_trans (w_le hs0 w).1 hF1.le.1, Nat.le_trans (w_le hs0 w).2 hF1.le.2⟩
    refine x_iload_n (i := 1) (x := nI i) dX10_init_151 rfl rfl ?_
    refine x_bipush (v := 7) dX10_init_152 (by decide) ?_
    refine x_icmp_gt (tgt := 170) dX10_init_154 (by decide) (fun c154 => ?_) (fun c154 => ?_)
    · skip
      exact absurd ((nI_ltI (a := 7) (by omega) (by omega)).mp c154) (by omega)
    · skip
      refine x_aload_n (i := 0) (o := some m) dX10_init_157 rfl rfl ?_
      refine x_getRv (v := some (m + 13)) dX10_init_158 fX10_init_48 (i := 1017) rfl rfl (by rw [hF1.2.2.1]; exact w.2.2.1) (by rw [hF1.2.2.2.1]; exact (w.2.2.2.2.1 12 (1017, 20, 8) rfl).1) ?_
      refine x_iload_n (i := 1) (x := nI i) dX10_init_161 rfl rfl ?_
      refine x_iconst (v := (-1)) dX10_init_162 (by decide) ?_
      refine x_iastoreN (n := i) (v := (-1)) dX10_init_163 (by rw [hF1.2.2.1]; exact (w.2.2.2.2.1 12 (1017, 20, 8) rfl).2.1) (rfl) (by rw [hF1.2.2.2.2.1]; exact Nat.lt_of_lt_of_eq (m := 8) (by omega) (w.2.2.2.2.1 12 (1017, 20, 8) rfl).2.2.1.symm) (by rw [hF1.2.2.2.2.1]; exact Nat.lt_of_le_of_lt (Nat.le_of_eq (w.2.2.2.2.1 12 (1017, 20, 8) rfl).2.2.1) (by decide)) (rfl) ?_
      refine x_iinc (i := 1) (x := nI i) (v := nI (i + 1)) (lv' := [(0, x_r (some m)), (1, x_i (nI (i + 1)))]) dX10_init_164 rfl (nI_1 i) (by decide) rfl ?_
      refine x_goto (tgt := 151) dX10_init_167 (by decide) ?_
      show x_E _ _ _ _ 151 _ _ _
      refine ih (i + 1) _ (by omega) (by omega) (hF1.A rfl) (fun t ht => ?_)
      rw [x_rw_sA]
      split
      · rfl
      · exact h8 t (by omega)
set_option maxHeartbeats 4000000 in
set_option maxRecDepth 100000 in
theorem l_initM0 (G : x_G) {h : x_H} {m : Nat} (hs0 : x_sz h = m + 1) (w0 : w_I h h m 10 [] (fun _ => 0)) {Q : Option x_V → x_H → Prop} (hQ0 : ∀ h1 h2, w_I h h1 m 10 [(1000, 21, 3000), (1002, 21, 3000), (1003, 20, 1501), (1004, 20, 1501), (1006, 20, 1501), (1007, 20, 1501), (1009, 20, 60), (1010, 20, 60), (1012, 20, 1500), (1014, 20, 16), (1015, 20, 16), (1016, 22, 16), (1017, 20, 8), (1020, 20, 60), (1021, 20, 60), (1022, 20, 20)] (fun i => if i = 1019 then (-1) else (fun i => if i = 1018 then 1 else (fun _ => 0) i) i) → x_F h1 h2 (fun _ _ => False) (fun a => a = m + 13) → (∀ t, t < 8 → x_rw h2 (m + 13) t = -1) → Q none h2) : x_Ex G mX10_init h [x_r (some m)] Q := by
  refine x_enter mwX10_init (Nat.le_of_ble_eq_true rfl) ?_
  show x_E _ _ _ _ _ [(0, x_r (some m))] _ _
  refine x_aload_n (i := 0) (o := some m) dX10_init_0 rfl rfl ?_
  refine x_objInit dX10_init_1 sX10_init_1 (Nat.le_of_ble_eq_true rfl) ?_
  refine x_aload_n (i := 0) (o := some m) dX10_init_4 rfl rfl ?_
  refine x_sipush (v := 3000) dX10_init_5 (by decide) ?_
  refine x_newa_b (N := 3000) dX10_init_8 aX10_init_byte (by decide) (by decide) (by decide) (w_le hs0 w0) ?_
  refine x_putR (i := 1000) dX10_init_10 pX10_init_7 rfl rfl (by first | exact w0.2.2.1 | (rw [x_kd_nA, if_neg (by have := w0.1; omega)]; exact w0.2.2.1)) (Or.inr ⟨_, rfl⟩) ?_
  have w1 := w0.A 1000 21 3000 (by decide)
  generalize x_sR (x_nA h 21 3000) 1000 m (some (x_sz h)) = h1 at w1 ⊢
  refine x_aload_n (i := 0) (o := some m) dX10_init_13 rfl rfl ?_
  refine x_sipush (v := 3000) dX10_init_14 (by decide) ?_
  refine x_newa_b (N := 3000) dX10_init_17 aX10_init_byte (by decide) (by decide) (by decide) (w_le hs0 w1) ?_
  refine x_putR (i := 1002) dX10_init_19 pX10_init_13 rfl rfl (by first | exact w1.2.2.1 | (rw [x_kd_nA, if_neg (by have := w1.1; omega)]; exact w1.2.2.1)) (Or.inr ⟨_, rfl⟩) ?_
  have w2 := w1.A 1002 21 3000 (by decide)
  generalize x_sR (x_nA h1 21 3000) 1002 m (some (x_sz h1)) = h2 at w2 ⊢
  refine x_aload_n (i := 0) (o := some m) dX10_init_22 rfl rfl ?_
  refine x_sipush (v := 1501) dX10_init_23 (by decide) ?_
  refine x_newa_i (N := 1501) dX10_init_26 aX10_init_int (by decide) (by decide) (by decide) (w_le hs0 w2) ?_
  refine x_putR (i := 1003) dX10_init_28 pX10_init_16 rfl rfl (by first | exact w2.2.2.1 | (rw [x_kd_nA, if_neg (by have := w2.1; omega)]; exact w2.2.2.1)) (Or.inr ⟨_, rfl⟩) ?_
  have w3 := w2.A 1003 20 1501 (by decide)
  generalize x_sR (x_nA h2 20 1501) 1003 m (some (x_sz h2)) = h3 at w3 ⊢
  refine x_aload_n (i := 0) (o := some m) dX10_init_31 rfl rfl ?_
  refine x_sipush (v := 1501) dX10_init_32 (by decide) ?_
  refine x_newa_i (N := 1501) dX10_init_35 aX10_init_int (by decide) (by decide) (by decide) (w_le hs0 w3) ?_
  refine x_putR (i := 1004) dX10_init_37 pX10_init_20 rfl rfl (by first | exact w3.2.2.1 | (rw [x_kd_nA, if_neg (by have := w3.1; omega)]; exact w3.2.2.1)) (Or.inr ⟨_, rfl⟩) ?_
  have w4 := w3.A 1004 20 1501 (by decide)
  generalize x_sR (x_nA h3 20 1501) 1004 m (some (x_sz h3)) = h4 at w4 ⊢
  refine x_aload_n (i := 0) (o := some m) dX10_init_40 rfl rfl ?_
  refine x_sipush (v := 1501) dX10_init_41 (by decide) ?_
  refine x_newa_i (N := 1501) dX10_init_44 aX10_init_int (by decide) (by decide) (by decide) (w_le hs0 w4) ?_
  refine x_putR (i := 1006) dX10_init_46 pX10_init_23 rfl rfl (by first | exact w4.2.2.1 | (rw [x_kd_nA, if_neg (by have := w4.1; omega)]; exact w4.2.2.1)) (Or.inr ⟨_, rfl⟩) ?_
  have w5 := w4.A 1006 20 1501 (by decide)
  generalize x_sR (x_nA h4 20 1501) 1006 m (some (x_sz h4)) = h5 at w5 ⊢
  refine x_aload_n (i := 0) (o := some m) dX10_init_49 rfl rfl ?_
  refine x_sipush (v := 1501) dX10_init_50 (by decide) ?_
  refine x_newa_i (N := 1501) dX10_init_53 aX10_init_int (by decide) (by decide) (by decide) (w_le hs0 w5) ?_
  refine x_putR (i := 1007) dX10_init_55 pX10_init_26 rfl rfl (by first | exact w5.2.2.1 | (rw [x_kd_nA, if_neg (by have := w5.1; omega)]; exact w5.2.2.1)) (Or.inr ⟨_, rfl⟩) ?_
  have w6 := w5.A 1007 20 1501 (by decide)
  generalize x_sR (x_nA h5 20 1501) 1007 m (some (x_sz h5)) = h6 at w6 ⊢
  refine x_aload_n (i := 0) (o := some m) dX10_init_58 rfl rfl ?_
  refine x_bipush (v := 60) dX10_init_59 (by decide) ?_
  refine x_newa_i (N := 60) dX10_init_61 aX10_init_int (by decide) (by decide) (by decide) (w_le hs0 w6) ?_
  refine x_putR (i := 1009) dX10_init_63 pX10_init_29 rfl rfl (by first | exact w6.2.2.1 | (rw [x_kd_nA, if_neg (by have := w6.1; omega)]; exact w6.2.2.1)) (Or.inr ⟨_, rfl⟩) ?_
  have w7 := w6.A 1009 20 60 (by decide)
  generalize x_sR (x_nA h6 20 60) 1009 m (some (x_sz h6)) = h7 at w7 ⊢
  refine x_aload_n (i := 0) (o := some m) dX10_init_66 rfl rfl ?_
  refine x_bipush (v := 60) dX10_init_67 (by decide) ?_
  refine x_newa_i (N := 60) dX10_init_69 aX10_init_int (by decide) (by decide) (by decide) (w_le hs0 w7) ?_
  refine x_putR (i := 1010) dX10_init_71 pX10_init_32 rfl rfl (by first | exact w7.2.2.1 | (rw [x_kd_nA, if_neg (by have := w7.1; omega)]; exact w7.2.2.1)) (Or.inr ⟨_, rfl⟩) ?_
  have w8 := w7.A 1010 20 60 (by decide)
  generalize x_sR (x_nA h7 20 60) 1010 m (some (x_sz h7)) = h8 at w8 ⊢
  refine x_aload_n (i := 0) (o := some m) dX10_init_74 rfl rfl ?_
  refine x_sipush (v := 1500) dX10_init_75 (by decide) ?_
  refine x_newa_i (N := 1500) dX10_init_78 aX10_init_int (by decide) (by decide) (by decide) (w_le hs0 w8) ?_
  refine x_putR (i := 1012) dX10_init_80 pX10_init_35 rfl rfl (by first | exact w8.2.2.1 | (rw [x_kd_nA, if_neg (by have := w8.1; omega)]; exact w8.2.2.1)) (Or.inr ⟨_, rfl⟩) ?_
  have w9 := w8.A 1012 20 1500 (by decide)
  generalize x_sR (x_nA h8 20 1500) 1012 m (some (x_sz h8)) = h9 at w9 ⊢
  refine x_aload_n (i := 0) (o := some m) dX10_init_83 rfl rfl ?_
  refine x_bipush (v := 16) dX10_init_84 (by decide) ?_
  refine x_newa_i (N := 16) dX10_init_86 aX10_init_int (by decide) (by decide) (by decide) (w_le hs0 w9) ?_
  refine x_putR (i := 1014) dX10_init_88 pX10_init_38 rfl rfl (by first | exact w9.2.2.1 | (rw [x_kd_nA, if_neg (by have := w9.1; omega)]; exact w9.2.2.1)) (Or.inr ⟨_, rfl⟩) ?_
  have w10 := w9.A 1014 20 16 (by decide)
  generalize x_sR (x_nA h9 20 16) 1014 m (some (x_sz h9)) = h10 at w10 ⊢
  refine x_aload_n (i := 0) (o := some m) dX10_init_91 rfl rfl ?_
  refine x_bipush (v := 16) dX10_init_92 (by decide) ?_
  refine x_newa_i (N := 16) dX10_init_94 aX10_init_int (by decide) (by decide) (by decide) (w_le hs0 w10) ?_
  refine x_putR (i := 1015) dX10_init_96 pX10_init_41 rfl rfl (by first | exact w10.2.2.1 | (rw [x_kd_nA, if_neg (by have := w10.1; omega)]; exact w10.2.2.1)) (Or.inr ⟨_, rfl⟩) ?_
  have w11 := w10.A 1015 20 16 (by decide)
  generalize x_sR (x_nA h10 20 16) 1015 m (some (x_sz h10)) = h11 at w11 ⊢
  refine x_aload_n (i := 0) (o := some m) dX10_init_99 rfl rfl ?_
  refine x_bipush (v := 16) dX10_init_100 (by decide) ?_
  refine x_newa_z (N := 16) dX10_init_102 aX10_init_boolean (by decide) (by decide) (by decide) (w_le hs0 w11) ?_
  refine x_putR (i := 1016) dX10_init_104 pX10_init_44 rfl rfl (by first | exact w11.2.2.1 | (rw [x_kd_nA, if_neg (by have := w11.1; omega)]; exact w11.2.2.1)) (Or.inr ⟨_, rfl⟩) ?_
  have w12 := w11.A 1016 22 16 (by decide)
  generalize x_sR (x_nA h11 22 16) 1016 m (some (x_sz h11)) = h12 at w12 ⊢
  refine x_aload_n (i := 0) (o := some m) dX10_init_107 rfl rfl ?_
  refine x_bipush (v := 8) dX10_init_108 (by decide) ?_
  refine x_newa_i (N := 8) dX10_init_110 aX10_init_int (by decide) (by decide) (by decide) (w_le hs0 w12) ?_
  refine x_putR (i := 1017) dX10_init_112 pX10_init_48 rfl rfl (by first | exact w12.2.2.1 | (rw [x_kd_nA, if_neg (by have := w12.1; omega)]; exact w12.2.2.1)) (Or.inr ⟨_, rfl⟩) ?_
  have w13 := w12.A 1017 20 8 (by decide)
  generalize x_sR (x_nA h12 20 8) 1017 m (some (x_sz h12)) = h13 at w13 ⊢
  refine x_aload_n (i := 0) (o := some m) dX10_init_115 rfl rfl ?_
  refine x_iconst (v := 1) dX10_init_116 (by decide) ?_
  refine x_putI (i := 1018) dX10_init_117 pX10_init_51 rfl rfl (by first | exact w13.2.2.1 | (rw [x_kd_nA, if_neg (by have := w13.1; omega)]; exact w13.2.2.1)) (rfl) (by rfl) ?_
  have w14 := w13.I 1018 1
  generalize x_sI h13 1018 m 1 = h14 at w14 ⊢
  refine x_aload_n (i := 0) (o := some m) dX10_init_120 rfl rfl ?_
  refine x_iconst (v := (-1)) dX10_init_121 (by decide) ?_
  refine x_putI (i := 1019) dX10_init_122 pX10_init_55 rfl rfl (by first | exact w14.2.2.1 | (rw [x_kd_nA, if_neg (by have := w14.1; omega)]; exact w14.2.2.1)) (rfl) (by rfl) ?_
  have w15 := w14.I 1019 (-1)
  generalize x_sI h14 1019 m ((-1)) = h15 at w15 ⊢
  refine x_aload_n (i := 0) (o := some m) dX10_init_125 rfl rfl ?_
  refine x_bipush (v := 60) dX10_init_126 (by decide) ?_
  refine x_newa_i (N := 60) dX10_init_128 aX10_init_int (by decide) (by decide) (by decide) (w_le hs0 w15) ?_
  refine x_putR (i := 1020) dX10_init_130 pX10_init_59 rfl rfl (by first | exact w15.2.2.1 | (rw [x_kd_nA, if_neg (by have := w15.1; omega)]; exact w15.2.2.1)) (Or.inr ⟨_, rfl⟩) ?_
  have w16 := w15.A 1020 20 60 (by decide)
  generalize x_sR (x_nA h15 20 60) 1020 m (some (x_sz h15)) = h16 at w16 ⊢
  refine x_aload_n (i := 0) (o := some m) dX10_init_133 rfl rfl ?_
  refine x_bipush (v := 60) dX10_init_134 (by decide) ?_
  refine x_newa_i (N := 60) dX10_init_136 aX10_init_int (by decide) (by decide) (by decide) (w_le hs0 w16) ?_
  refine x_putR (i := 1021) dX10_init_138 pX10_init_62 rfl rfl (by first | exact w16.2.2.1 | (rw [x_kd_nA, if_neg (by have := w16.1; omega)]; exact w16.2.2.1)) (Or.inr ⟨_, rfl⟩) ?_
  have w17 := w16.A 1021 20 60 (by decide)
  generalize x_sR (x_nA h16 20 60) 1021 m (some (x_sz h16)) = h17 at w17 ⊢
  refine x_aload_n (i := 0) (o := some m) dX10_init_141 rfl rfl ?_
  refine x_bipush (v := 20) dX10_init_142 (by decide) ?_
  refine x_newa_i (N := 20) dX10_init_144 aX10_init_int (by decide) (by decide) (by decide) (w_le hs0 w17) ?_
  refine x_putR (i := 1022) dX10_init_146 pX10_init_65 rfl rfl (by first | exact w17.2.2.1 | (rw [x_kd_nA, if_neg (by have := w17.1; omega)]; exact w17.2.2.1)) (Or.inr ⟨_, rfl⟩) ?_
  have w18 := w17.A 1022 20 20 (by decide)
  generalize x_sR (x_nA h17 20 20) 1022 m (some (x_sz h17)) = h18 at w18 ⊢
  refine x_iconst (v := 0) dX10_init_149 (by decide) ?_
  refine x_istore_n (i := 1) (lv' := [(0, x_r (some m)), (1, x_i 0)]) dX10_init_150 rfl (by decide) rfl ?_
  show x_E _ _ _ _ 151 _ _ _
  exact l_initM G hs0 w18 (fun h2 => hQ0 _ h2 w18) 8 0 h18 (by omega) rfl x_F.rf (fun _ z => absurd z (Nat.not_lt_zero _))
/-- a new reference: nothing read, no facts, strict, nothing looked at -/
def m_New (h h2 : x_H) (m : Nat) : Prop := mP h2 m ∧ x_sz h2 = m + 17 ∧ x_us h2 = x_us h + 13820 ∧ (∀ i, x_fi h2 i m = if i = 1019 then -1 else if i = 1018 then 1 else 0) ∧ (∀ j, 1 ≤ j → j ≤ 16 → ¬ j = 13 → ∀ i, x_rw h2 (m + j) i = 0) ∧ (∀ t, t < 8 → x_rw h2 (m + 13) t = -1) ∧ ∀ a, a < m → x_kd h2 a = x_kd h a ∧ (∀ i, x_fi h2 i a = x_fi h i a) ∧ (∀ i, x_fr h2 i a = x_fr h i a) ∧ (∀ i, x_fl h2 i a = x_fl h i a) ∧ x_ln h2 a = x_ln h a ∧ x_rw h2 a = x_rw h a ∧ x_rl h2 a = x_rl h a
theorem m_New_of {h h1 h2 : x_H} {m : Nat} (w : w_I h h1 m 10 [(1000, 21, 3000), (1002, 21, 3000), (1003, 20, 1501), (1004, 20, 1501), (1006, 20, 1501), (1007, 20, 1501), (1009, 20, 60), (1010, 20, 60), (1012, 20, 1500), (1014, 20, 16), (1015, 20, 16), (1016, 22, 16), (1017, 20, 8), (1020, 20, 60), (1021, 20, 60), (1022, 20, 20)] (fun i => if i = 1019 then (-1) else (fun i => if i = 1018 then 1 else (fun _ => 0) i) i)) (hF : x_F h1 h2 (fun _ _ => False) (fun a => a = m + 13)) (h8 : ∀ t, t < 8 → x_rw h2 (m + 13) t = -1) : m_New h h2 m := by
  obtain ⟨a1, a2, a3, a4, a5, a6⟩ := w
  have b1 := a5 0 (1000, 21, 3000) rfl
  have b2 := a5 1 (1002, 21, 3000) rfl
  have b3 := a5 2 (1003, 20, 1501) rfl
  have b4 := a5 3 (1004, 20, 1501) rfl
  have b5 := a5 4 (1006, 20, 1501) rfl
  have b6 := a5 5 (1007, 20, 1501) rfl
  have b7 := a5 6 (1009, 20, 60) rfl
  have b8 := a5 7 (1010, 20, 60) rfl
  have b9 := a5 8 (1012, 20, 1500) rfl
  have b10 := a5 9 (1014, 20, 16) rfl
  have b11 := a5 10 (1015, 20, 16) rfl
  have b12 := a5 11 (1016, 22, 16) rfl
  have b13 := a5 12 (1017, 20, 8) rfl
  have b14 := a5 13 (1020, 20, 60) rfl
  have b15 := a5 14 (1021, 20, 60) rfl
  have b16 := a5 15 (1022, 20, 20) rfl
  have hp : mP h1 m := ⟨a3, ⟨b1.1, b1.2.1, b1.2.2.1⟩, ⟨b2.1, b2.2.1, b2.2.2.1⟩, ⟨b3.1, b3.2.1, b3.2.2.1⟩, ⟨b4.1, b4.2.1, b4.2.2.1⟩, ⟨b5.1, b5.2.1, b5.2.2.1⟩, ⟨b6.1, b6.2.1, b6.2.2.1⟩, ⟨b7.1, b7.2.1, b7.2.2.1⟩, ⟨b8.1, b8.2.1, b8.2.2.1⟩, ⟨b9.1, b9.2.1, b9.2.2.1⟩, ⟨b10.1, b10.2.1, b10.2.2.1⟩, ⟨b11.1, b11.2.1, b11.2.2.1⟩, ⟨b12.1, b12.2.1, b12.2.2.1⟩, ⟨b13.1, b13.2.1, b13.2.2.1⟩, ⟨b14.1, b14.2.1, b14.2.2.1⟩, ⟨b15.1, b15.2.1, b15.2.2.1⟩, ⟨b16.1, b16.2.1, b16.2.2.1⟩⟩
  refine ⟨hF.pm hp, by rw [hF.1, a1]; rfl, by rw [hF.2.1, a2]; rfl, fun i => (hF.fi (fun z => z)).trans (a4 i), fun j hj1 hj2 hj3 i => ?_, h8, fun a ha => ?_⟩
  · rw [hF.rw (by omega)]
    have : j = 1 ∨ j = 2 ∨ j = 3 ∨ j = 4 ∨ j = 5 ∨ j = 6 ∨ j = 7 ∨ j = 8 ∨ j = 9 ∨ j = 10 ∨ j = 11 ∨ j = 12 ∨ j = 14 ∨ j = 15 ∨ j = 16 := by omega
    rcases this with rfl | rfl | rfl | rfl | rfl | rfl | rfl | rfl | rfl | rfl | rfl | rfl | rfl | rfl | rfl
    · exact b1.2.2.2.1 i
    · exact b2.2.2.2.1 i
    · exact b3.2.2.2.1 i
    · exact b4.2.2.2.1 i
    · exact b5.2.2.2.1 i
    · exact b6.2.2.2.1 i
    · exact b7.2.2.2.1 i
    · exact b8.2.2.2.1 i
    · exact b9.2.2.2.1 i
    · exact b10.2.2.2.1 i
    · exact b11.2.2.2.1 i
    · exact b12.2.2.2.1 i
    · exact b14.2.2.2.1 i
    · exact b15.2.2.2.1 i
    · exact b16.2.2.2.1 i
  · obtain ⟨c1, c2, c3, c4, c5, c6, c7⟩ := a6 a ha
    exact ⟨by rw [hF.2.2.1]; exact c1, fun i => (hF.fi (fun z => z)).trans (c2 i), fun i => by rw [hF.2.2.2.1]; exact c3 i, fun i => (hF.2.2.2.2.2.2.2.1 i a (fun z => z)).trans (c4 i), by rw [hF.2.2.2.2.1]; exact c5, (hF.rw (by omega)).trans c6, by rw [hF.2.2.2.2.2.1]; exact c7⟩
theorem c_initM (G : x_G) {h : x_H} {m : Nat} (hs0 : x_sz h = m + 1) (hk : x_kd h m = 10) (hf : ∀ i, x_fi h i m = 0) : x_Ex G mX10_init h [x_r (some m)] (fun r h2 => r = none ∧ m_New h h2 m) :=
  l_initM0 G hs0 ⟨hs0, rfl, hk, hf, fun j q hj => by simp at hj, fun _ _ => ⟨rfl, fun _ => rfl, fun _ => rfl, fun _ => rfl, rfl, rfl, rfl⟩⟩ (fun _ _ w a b => ⟨rfl, m_New_of w a b⟩)
