/-! THE REFERENCE: forget, read -/
def m_Fg (h h1 : x_H) (m : Nat) : Prop := x_F h h1 (fun i a => a = m ∧ (i = 1019 ∨ i = 1023)) (fun a => a = m + 14) ∧ x_fi h1 1019 m = -1 ∧ x_fi h1 1023 m = 0 ∧ ∀ j, j < 60 → x_rw h1 (m + 14) j = 0
set_option maxHeartbeats 4000000 in
set_option maxRecDepth 100000 in
theorem l_forget (G : x_G) {h : x_H} {m : Nat} (hp : mP h m) : ∀ (n : Nat) (h1 : x_H) (i : Nat), i ≤ 60 → 60 - i = n → (x_F h h1 (fun i a => a = m ∧ (i = 1019 ∨ i = 1023)) (fun a => a = m + 14) ∧ x_fi h1 1019 m = -1 ∧ x_fi h1 1023 m = 0 ∧ ∀ j, j < i → x_rw h1 (m + 14) j = 0) → x_E G mX10_forget (x_D G mX10_forget h (fun r h1 => r = none ∧ m_Fg h h1 m)) h 12 [(0, x_r (some m)), (1, x_i (nI i))] [] h1 := by
  intro n
  induction n with
  | zero =>
    intro h1 i hi hn hF
    refine x_iload_n (i := 1) (x := nI i) dX10_forget_12 rfl rfl ?_
    refine x_bipush (v := 60) dX10_forget_13 (by decide) ?_
    refine x_icmp_ge (tgt := 31) dX10_forget_15 (by decide) (fun c15 => ?_) (fun c15 => ?_)
    · skip
      refine x_return dX10_forget_31 rfl hF.1.le ?_
      exact ⟨rfl, hF.1, hF.2.1, hF.2.2.1, fun j hj => hF.2.2.2 j (by omega)⟩
    · skip
      exact absurd (nI_le (a := 60) (by omega) (by omega)) c15
  | succ n ih =>
    intro h1 i hi hn hF
    refine x_iload_n (i := 1) (x := nI i) dX10_forget_12 rfl rfl ?_
    refine x_bipush (v := 60) dX10_forget_13 (by decide) ?_
    refine x_icmp_ge (tgt := 31) dX10_forget_15 (by decide) (fun c15 => ?_) (fun c15 => ?_)
    · skip
      have q := (nI_leI (a := 60) (by omega) (by omega)).mp c15
      refine x_return dX10_forget_31 rfl hF.1.le ?_
      exact ⟨rfl, hF.1, hF.2.1, hF.2.2.1, fun j hj => hF.2.2.2 j (by omega)⟩
    · skip
      have q : i < 60 := Nat.lt_of_not_le fun z => c15 (nI_le (a := 60) z (by omega))
      refine x_aload_n (i := 0) (o := some m) dX10_forget_18 rfl rfl ?_
      refine x_getRv (v := some (m + 14)) dX10_forget_19 fX10_forget_59 (i := 1020) rfl rfl (mPk_0 (hF.1.pm hp)) (mPr_1020 (hF.1.pm hp)) ?_
      refine x_iload_n (i := 1) (x := nI i) dX10_forget_22 rfl rfl ?_
      refine x_iconst (v := 0) dX10_forget_23 (by decide) ?_
      refine x_iastoreN (n := i) (v := 0) dX10_forget_24 (mPk_14 (hF.1.pm hp)) (rfl) (by rw [mPl_14 (hF.1.pm hp)]; omega) (by rw [mPl_14 (hF.1.pm hp)]; omega) (rfl) ?_
      refine x_iinc (i := 1) (x := nI i) (v := nI (i + 1)) (lv' := [(0, x_r (some m)), (1, x_i (nI (i + 1)))]) dX10_forget_25 rfl (nI_1 i) (by decide) rfl ?_
      refine x_goto (tgt := 12) dX10_forget_28 (by decide) ?_
      refine ih _ (i + 1) (by omega) (by omega) ⟨hF.1.A rfl, hF.2.1, hF.2.2.1, fun j hj => ?_⟩
      rw [x_rw_sA]
      split
      · rfl
      · rename_i hne
        exact hF.2.2.2 j (by
          have : ¬ j = i := fun z => hne ⟨rfl, z⟩
          omega)
set_option maxHeartbeats 4000000 in
set_option maxRecDepth 100000 in
theorem c_forget (G : x_G) {h : x_H} {m : Nat} (hp : mP h m) : x_Ex G mX10_forget h [x_r (some m)] (fun r h1 => r = none ∧ m_Fg h h1 m) := by
  refine x_enter mwX10_forget (Nat.le_of_ble_eq_true rfl) ?_
  show x_E _ _ _ _ _ [(0, x_r (some m))] _ _
  refine x_aload_n (i := 0) (o := some m) dX10_forget_0 rfl rfl ?_
  refine x_iconst (v := (-1)) dX10_forget_1 (by decide) ?_
  refine x_putI (i := 1019) dX10_forget_2 pX10_forget_55 rfl rfl (mPk_0 hp) (rfl) (by rfl) ?_
  refine x_aload_n (i := 0) (o := some m) dX10_forget_5 rfl rfl ?_
  refine x_iconst (v := 0) dX10_forget_6 (by decide) ?_
  refine x_putI (i := 1023) dX10_forget_7 pX10_forget_179 rfl rfl (mPk_0 hp) (rfl) (by rfl) ?_
  refine x_iconst (v := 0) dX10_forget_10 (by decide) ?_
  refine x_istore_n (i := 1) (lv' := [(0, x_r (some m)), (1, x_i 0)]) dX10_forget_11 rfl (by decide) rfl ?_
  refine l_forget G hp 60 _ 0 (by omega) rfl ⟨(x_F.rf.I ⟨rfl, Or.inl rfl⟩).I ⟨rfl, Or.inr rfl⟩, ?_, ?_, fun j hj => by omega⟩
  · rw [x_fi_sI, if_neg (by omega), x_fi_sI, if_pos ⟨rfl, rfl⟩]
  · rw [x_fi_sI, if_pos ⟨rfl, rfl⟩]
set_option maxHeartbeats 4000000 in
set_option maxRecDepth 100000 in
theorem l_read1 (G : x_G) {h hc : x_H} {m n : Nat} (hp : mP hc m) (hz : x_sz h ≤ x_sz hc ∧ x_us h ≤ x_us hc) (w : Int32) (D : Room → x_Z → Prop) (hn2 : n ≤ 3000) (hb8 : ∀ i, (x_rw hc (m + 1) i).toInt8.toInt32 = x_rw hc (m + 1) i) (kx : ∀ h1, (x_F hc h1 (fun _ _ => False) (fun a => a = m + 2) ∧ ∀ j, x_rw h1 (m + 2) j = if j < n then x_rw hc (m + 1) j else x_rw hc (m + 2) j) → x_E G mX10_read D h 71 [(0, x_r (some m)), (1, x_i 1), (2, x_i w), (3, x_i (nI n)), (4, x_i (nI n))] [] h1) : ∀ (f : Nat) (h1 : x_H) (i : Nat), i ≤ n → n - i = f → (x_F hc h1 (fun _ _ => False) (fun a => a = m + 2) ∧ ∀ j, x_rw h1 (m + 2) j = if j < i then x_rw hc (m + 1) j else x_rw hc (m + 2) j) → x_E G mX10_read D h 45 [(0, x_r (some m)), (1, x_i 1), (2, x_i w), (3, x_i (nI n)), (4, x_i (nI i))] [] h1 := by
  intro f
  induction f with
  | zero =>
    intro h1 i hi hf hI
    have hin : i = n := by omega
    subst hin
    refine x_iload (i := 4) (x := nI i) dX10_read_45 rfl ?_
    refine x_iload_n (i := 3) (x := nI i) dX10_read_47 rfl rfl ?_
    refine x_icmp_ge (tgt := 71) dX10_read_48 (by decide) (fun c48 => ?_) (fun c48 => ?_)
    · skip
      exact kx h1 hI
    · skip
      exact absurd (nI_le (by omega) (by omega)) c48
  | succ f ih =>
    intro h1 i hi hf hI
    refine x_iload (i := 4) (x := nI i) dX10_read_45 rfl ?_
    refine x_iload_n (i := 3) (x := nI n) dX10_read_47 rfl rfl ?_
    refine x_icmp_ge (tgt := 71) dX10_read_48 (by decide) (fun c48 => ?_) (fun c48 => ?_)
    · skip
      have q := (nI_leI (by omega) (by omega)).mp c48
      exact absurd q (by omega)
    · skip
      have q : i < n := Nat.lt_of_not_le fun z => c48 (nI_le z (by omega))
      refine x_aload_n (i := 0) (o := some m) dX10_read_51 rfl rfl ?_
      refine x_getRv (v := some (m + 2)) dX10_read_52 fX10_read_13 (i := 1002) rfl rfl (mPk_0 (hI.1.pm hp)) (mPr_1002 (hI.1.pm hp)) ?_
      refine x_iload (i := 4) (x := nI i) dX10_read_55 rfl ?_
      refine x_aload_n (i := 0) (o := some m) dX10_read_57 rfl rfl ?_
      refine x_getRv (v := some (m + 1)) dX10_read_58 fX10_read_7 (i := 1000) rfl rfl (mPk_0 (hI.1.pm hp)) (mPr_1000 (hI.1.pm hp)) ?_
      refine x_iload (i := 4) (x := nI i) dX10_read_61 rfl ?_
      refine x_baloadN (n := i) (v := x_rw hc (m + 1) i) dX10_read_63 (mPk_1 (hI.1.pm hp)) (rfl) (by rw [mPl_1 (hI.1.pm hp)]; omega) (by rw [mPl_1 (hI.1.pm hp)]; omega) (by rw [hI.1.rw (by omega)]) ?_
      refine x_bastoreN (n := i) (v := x_rw hc (m + 1) i) dX10_read_64 (mPk_2 (hI.1.pm hp)) (rfl) (by rw [mPl_2 (hI.1.pm hp)]; omega) (by rw [mPl_2 (hI.1.pm hp)]; omega) (by rw [show narrow .byte (.int (x_rw hc (m + 1) i)) = .int (x_rw hc (m + 1) i).toInt8.toInt32 from rfl, hb8 i]) ?_
      refine x_iinc (i := 4) (x := nI i) (v := nI (i + 1)) (lv' := [(0, x_r (some m)), (1, x_i 1), (2, x_i w), (3, x_i (nI n)), (4, x_i (nI (i + 1)))]) dX10_read_65 rfl (nI_1 i) (by decide) rfl ?_
      refine x_goto (tgt := 45) dX10_read_68 (by decide) ?_
      refine ih _ (i + 1) (by omega) (by omega) ⟨hI.1.A rfl, fun j => ?_⟩
      rw [x_rw_sA, hI.2 j]
      by_cases hj : j = i
      · rw [if_pos ⟨rfl, hj⟩, if_pos (by omega), hj]
      · rw [if_neg (fun z => hj z.2)]
        by_cases hj2 : j < i
        · rw [if_pos hj2, if_pos (by omega)]
        · rw [if_neg hj2, if_neg (by omega)]
set_option maxHeartbeats 4000000 in
set_option maxRecDepth 100000 in
theorem l_read2 (G : x_G) {h hc : x_H} {m k : Nat} (hp : mP hc m) (hz : x_sz h ≤ x_sz hc ∧ x_us h ≤ x_us hc) (w : Int32) (D : Room → x_Z → Prop) (v : Int32) (hk2 : k ≤ 1500) (hw : x_fi hc 1005 m = nI k) (kx : ∀ h1, (x_F hc h1 (fun _ _ => False) (fun a => a = m + 3 ∨ a = m + 4) ∧ ∀ j, j < k → x_rw h1 (m + 3) j = x_rw hc (m + 5) j ∧ x_rw h1 (m + 4) j = x_rw hc (m + 6) j) → x_E G mX10_read D h 135 [(0, x_r (some m)), (1, x_i 1), (2, x_i w), (3, x_i v), (4, x_i (nI k))] [] h1) : ∀ (f : Nat) (h1 : x_H) (i : Nat), i ≤ k → k - i = f → (x_F hc h1 (fun _ _ => False) (fun a => a = m + 3 ∨ a = m + 4) ∧ ∀ j, j < i → x_rw h1 (m + 3) j = x_rw hc (m + 5) j ∧ x_rw h1 (m + 4) j = x_rw hc (m + 6) j) → x_E G mX10_read D h 92 [(0, x_r (some m)), (1, x_i 1), (2, x_i w), (3, x_i v), (4, x_i (nI i))] [] h1 := by
  intro f
  induction f with
  | zero =>
    intro h1 i hi hf hI
    have hin : i = k := by omega
    subst hin
    refine x_iload (i := 4) (x := nI i) dX10_read_92 rfl ?_
    refine x_aload_n (i := 0) (o := some m) dX10_read_94 rfl rfl ?_
    refine x_getIv (v := nI i) dX10_read_95 fX10_read_159 (i := 1005) rfl rfl (mPk_0 (hI.1.pm hp)) ((hI.1.fi (fun z => z)).trans hw) ?_
    refine x_icmp_ge (tgt := 135) dX10_read_98 (by decide) (fun c98 => ?_) (fun c98 => ?_)
    · skip
      exact kx h1 hI
    · skip
      exact absurd (nI_le (by omega) (by omega)) c98
  | succ f ih =>
    intro h1 i hi hf hI
    refine x_iload (i := 4) (x := nI i) dX10_read_92 rfl ?_
    refine x_aload_n (i := 0) (o := some m) dX10_read_94 rfl rfl ?_
    refine x_getIv (v := nI k) dX10_read_95 fX10_read_159 (i := 1005) rfl rfl (mPk_0 (hI.1.pm hp)) ((hI.1.fi (fun z => z)).trans hw) ?_
    refine x_icmp_ge (tgt := 135) dX10_read_98 (by decide) (fun c98 => ?_) (fun c98 => ?_)
    · skip
      exact absurd ((nI_leI (by omega) (by omega)).mp c98) (by omega)
    · skip
      have q : i < k := Nat.lt_of_not_le fun z => c98 (nI_le z (by omega))
      refine x_aload_n (i := 0) (o := some m) dX10_read_101 rfl rfl ?_
      refine x_getRv (v := some (m + 3)) dX10_read_102 fX10_read_16 (i := 1003) rfl rfl (mPk_0 (hI.1.pm hp)) (mPr_1003 (hI.1.pm hp)) ?_
      refine x_iload (i := 4) (x := nI i) dX10_read_105 rfl ?_
      refine x_aload_n (i := 0) (o := some m) dX10_read_107 rfl rfl ?_
      refine x_getRv (v := some (m + 5)) dX10_read_108 fX10_read_23 (i := 1006) rfl rfl (mPk_0 (hI.1.pm hp)) (mPr_1006 (hI.1.pm hp)) ?_
      refine x_iload (i := 4) (x := nI i) dX10_read_111 rfl ?_
      refine x_ialoadN (n := i) (v := x_rw hc (m + 5) i) dX10_read_113 (mPk_5 (hI.1.pm hp)) (rfl) (by rw [mPl_5 (hI.1.pm hp)]; omega) (by rw [mPl_5 (hI.1.pm hp)]; omega) (by rw [hI.1.rw (by omega)]) ?_
      refine x_iastoreN (n := i) (v := x_rw hc (m + 5) i) dX10_read_114 (mPk_3 (hI.1.pm hp)) (rfl) (by rw [mPl_3 (hI.1.pm hp)]; omega) (by rw [mPl_3 (hI.1.pm hp)]; omega) (rfl) ?_
      refine x_aload_n (i := 0) (o := some m) dX10_read_115 rfl rfl ?_
      refine x_getRv (v := some (m + 4)) dX10_read_116 fX10_read_20 (i := 1004) rfl rfl (mPk_0 (hI.1.pm hp)) (mPr_1004 (hI.1.pm hp)) ?_
      refine x_iload (i := 4) (x := nI i) dX10_read_119 rfl ?_
      refine x_aload_n (i := 0) (o := some m) dX10_read_121 rfl rfl ?_
      refine x_getRv (v := some (m + 6)) dX10_read_122 fX10_read_26 (i := 1007) rfl rfl (mPk_0 (hI.1.pm hp)) (mPr_1007 (hI.1.pm hp)) ?_
      refine x_iload (i := 4) (x := nI i) dX10_read_125 rfl ?_
      refine x_ialoadN (n := i) (v := x_rw hc (m + 6) i) dX10_read_127 (mPk_6 (hI.1.pm hp)) (rfl) (by show i < x_ln h1 _; rw [mPl_6 (hI.1.pm hp)]; omega) (by show x_ln h1 _ < _; rw [mPl_6 (hI.1.pm hp)]; omega) (by rw [x_rw_sA, if_neg (by omega), hI.1.rw (by omega)]) ?_
      refine x_iastoreN (n := i) (v := x_rw hc (m + 6) i) dX10_read_128 (mPk_4 (hI.1.pm hp)) (rfl) (by show i < x_ln h1 _; rw [mPl_4 (hI.1.pm hp)]; omega) (by show x_ln h1 _ < _; rw [mPl_4 (hI.1.pm hp)]; omega) (rfl) ?_
      refine x_iinc (i := 4) (x := nI i) (v := nI (i + 1)) (lv' := [(0, x_r (some m)), (1, x_i 1), (2, x_i w), (3, x_i v), (4, x_i (nI (i + 1)))]) dX10_read_129 rfl (nI_1 i) (by decide) rfl ?_
      refine x_goto (tgt := 92) dX10_read_132 (by decide) ?_
      refine ih _ (i + 1) (by omega) (by omega) ⟨(hI.1.A (Or.inl rfl)).A (Or.inr rfl), fun j hj => ?_⟩
      simp only [x_rw_sA]
      by_cases hji : j = i
      · rw [if_neg (by omega), if_pos ⟨trivial, hji⟩, if_pos ⟨trivial, hji⟩, hji]
        exact ⟨rfl, rfl⟩
      · rw [if_neg (by omega), if_neg (by omega), if_neg (by omega), if_neg (by omega)]
        exact hI.2 j (by omega)
