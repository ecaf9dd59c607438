/-! THE REFERENCE: wordOf, numberOf, isGap -/
set_option maxHeartbeats 4000000 in
set_option maxRecDepth 100000 in
theorem c_wordOf (G : x_G) (h : x_H) (r f t k s e : Nat) (hr : x_kd h r = 21) (hf : x_kd h f = 20) (ht : x_kd h t = 20) (hkf : k < x_ln h f) (hkt : k < x_ln h t) (hlf : x_ln h f < 2 ^ 31) (hlt : x_ln h t < 2 ^ 31) (hlr : x_ln h r < 2 ^ 31) (hS : x_rw h f k = nI s) (hE : x_rw h t k = nI e) (hse : s ≤ e) (her : e ≤ x_ln h r) : x_Call G mX10_wordOf h [x_r (some r), x_r (some f), x_r (some t), x_i (nI k)] (some (x_l (z_dg (z_sl (x_rw h r) s e)))) h := by
  refine x_Ex.call (x_enter mwX10_wordOf (Nat.le_of_ble_eq_true rfl) ?_)
  show x_E _ _ _ _ _ [(0, x_r (some r)), (1, x_r (some f)), (2, x_r (some t)), (3, x_i (nI k))] _ _
  unfold z_dg
  refine x_lconst (v := 1) dX10_wordOf_0 (by decide) ?_
  refine x_lstore (i := 4) (lv' := [(0, x_r (some r)), (1, x_r (some f)), (2, x_r (some t)), (3, x_i (nI k)), (4, x_l 1)]) dX10_wordOf_1 (by decide) rfl ?_
  refine x_aload_n (i := 1) (o := some f) dX10_wordOf_3 rfl rfl ?_
  refine x_iload_n (i := 3) (x := nI k) dX10_wordOf_4 rfl rfl ?_
  refine x_ialoadN (n := k) (v := nI s) dX10_wordOf_5 hf (rfl) (hkf) (hlf) (hS) ?_
  refine x_istore (i := 6) (lv' := [(0, x_r (some r)), (1, x_r (some f)), (2, x_r (some t)), (3, x_i (nI k)), (4, x_l 1), (6, x_i (nI s))]) dX10_wordOf_6 (by decide) rfl ?_
  by_cases h8 : e - s < 8
  · rw [if_pos (by rw [z_sl_len]; exact h8)]
    exact l_wordOf G h r f t k s e hr hf ht hkf hkt hlf hlt hlr hS hE hse her h8 _ _ 1 s rfl (Nat.le_refl _) hse ⟨rfl, rfl⟩
  rw [if_neg (by rw [z_sl_len]; exact h8)]
  refine x_iload (i := 6) (x := nI s) dX10_wordOf_8 rfl ?_
  refine x_aload_n (i := 2) (o := some t) dX10_wordOf_10 rfl rfl ?_
  refine x_iload_n (i := 3) (x := nI k) dX10_wordOf_11 rfl rfl ?_
  refine x_ialoadN (n := k) (v := nI e) dX10_wordOf_12 ht (rfl) (hkt) (hlt) (hE) ?_
  refine x_icmp_ge (tgt := 52) dX10_wordOf_13 (by decide) (fun c13 => ?_) (fun c13 => ?_)
  · skip
    exact absurd ((nI_leI (by omega) (by omega)).mp c13) (by omega)
  · skip
    refine x_aload_n (i := 2) (o := some t) dX10_wordOf_16 rfl rfl ?_
    refine x_iload_n (i := 3) (x := nI k) dX10_wordOf_17 rfl rfl ?_
    refine x_ialoadN (n := k) (v := nI e) dX10_wordOf_18 ht (rfl) (hkt) (hlt) (hE) ?_
    refine x_aload_n (i := 1) (o := some f) dX10_wordOf_19 rfl rfl ?_
    refine x_iload_n (i := 3) (x := nI k) dX10_wordOf_20 rfl rfl ?_
    refine x_ialoadN (n := k) (v := nI s) dX10_wordOf_21 hf (rfl) (hkf) (hlf) (hS) ?_
    refine x_isub dX10_wordOf_22 ?_
    rw [show (nI e) - (nI s) = nI (e - s) from pk_sub hse]
    refine x_bipush (v := 8) dX10_wordOf_23 (by decide) ?_
    refine x_icmp_ge (tgt := 52) dX10_wordOf_25 (by decide) (fun c25 => ?_) (fun c25 => ?_)
    · skip
      refine x_lload (i := 4) (x := 1) dX10_wordOf_52 rfl ?_
      refine x_lreturn dX10_wordOf_54 rfl ⟨Nat.le_refl _, Nat.le_refl _⟩ ?_
      exact ⟨rfl, rfl⟩
    · skip
      exact absurd (nI_le (a := 8) (by omega) (by omega)) c25
theorem z_dig_none {b : Int32} (h1 : -128 ≤ b) (h2 : b ≤ 127) : z_dig b = none ↔ (b - 48 < 0 ∨ 9 < b - 48) := by
  unfold z_dig
  rw [Int32.le_iff_toInt_le] at h1 h2
  have e1 : (b - 48).toInt = b.toInt - 48 := by
    have h48 : (48 : Int32).toInt = 48 := by decide
    have h3 : (-128 : Int32).toInt = -128 := by decide
    have h4 : (127 : Int32).toInt = 127 := by decide
    rw [h3] at h1
    rw [h4] at h2
    rw [Int32.toInt_sub, h48]
    exact Int.bmod_eq_of_le_mul_two (by omega) (by omega)
  have e2 : (0 : Int32).toInt = 0 := by decide
  have e3 : (9 : Int32).toInt = 9 := by decide
  have e4 : (48 : Int32).toInt = 48 := by decide
  have e5 : (57 : Int32).toInt = 57 := by decide
  simp only [Int32.le_iff_toInt_le, Int32.lt_iff_toInt_lt, e1, e2, e3, e4, e5]
  split
  · simp
    omega
  · simp
    omega
theorem z_dig_some {b : Int32} {d : Nat} (h : z_dig b = some d) : b - 48 = nI d ∧ d < 10 := by
  unfold z_dig at h
  split at h
  · rename_i hc
    cases h
    obtain ⟨h1, h2⟩ := hc
    obtain ⟨j, hj, rfl⟩ := nI_of2 (x := b) (M := 57) (n := 57) (by decide) (by
      intro z
      have := Int32.lt_of_le_of_lt h1 z
      exact absurd this (by decide)) h2
    have h3 : 48 ≤ j := (nI_leI (a := 48) (by omega) (by omega)).mp h1
    rw [nI_clamp (by omega)]
    exact ⟨pk_sub (b := 48) h3, by omega⟩
  · cases h
/-- digits make numbers below a power of ten -/
theorem z_zn_lt : ∀ (w : List Int32) (V k : Nat), V < 10 ^ k → ∀ R, z_zn w V = some R → R < 10 ^ (k + w.length)
  | [], V, k, h, R, e => by
    cases e
    exact h
  | b :: r, V, k, h, R, e => by
    unfold z_zn at e
    cases hb : z_dig b with
    | none => rw [hb] at e; cases e
    | some d =>
      rw [hb] at e
      have hd := (z_dig_some hb).2
      have := z_zn_lt r (10 * V + d) (k + 1) (by rw [Nat.pow_succ]; omega) R e
      rw [List.length_cons, show k + (r.length + 1) = k + 1 + r.length by omega]
      exact this
/-- a row's places hold bytes -/
def z_by (T : Nat → Int32) : Prop := ∀ i, -128 ≤ T i ∧ T i ≤ 127
set_option maxHeartbeats 4000000 in
set_option maxRecDepth 100000 in
theorem l_numberOf_x (G : x_G) (h : x_H) (r f t k s e : Nat) (hr : x_kd h r = 21) (hf : x_kd h f = 20) (ht : x_kd h t = 20) (hlr : x_ln h r < 2 ^ 31) (Q : Option x_V → x_H → Prop) (i V : Nat) (y : Int32) (hse : s ≤ e) (her : e ≤ x_ln h r) (q : i < e - s) (hq : Q (some (x_i (-1))) h) : x_E G mX10_numberOf (x_D G mX10_numberOf h Q) h 77 [(0, x_r (some r)), (1, x_r (some f)), (2, x_r (some t)), (3, x_i (nI k)), (4, x_i (nI (e - s))), (5, x_i (-1)), (6, x_i (nI i)), (7, x_i y)] [] h := by
  refine x_iinc (i := 6) (x := nI i) (v := nI (i + 1)) (lv' := [(0, x_r (some r)), (1, x_r (some f)), (2, x_r (some t)), (3, x_i (nI k)), (4, x_i (nI (e - s))), (5, x_i (-1)), (6, x_i (nI (i + 1))), (7, x_i y)]) dX10_numberOf_77 rfl (nI_1 i) (by decide) rfl ?_
  refine x_goto (tgt := 26) dX10_numberOf_80 (by decide) ?_
  refine x_iload (i := 6) (x := nI (i + 1)) dX10_numberOf_26 rfl ?_
  refine x_iload (i := 4) (x := nI (e - s)) dX10_numberOf_28 rfl ?_
  refine x_icmp_ge (tgt := 83) dX10_numberOf_30 (by decide) (fun c30 => ?_) (fun c30 => ?_)
  · skip
    refine x_iload (i := 5) (x := -1) dX10_numberOf_83 rfl ?_
    refine x_ireturn dX10_numberOf_85 rfl (rfl) ⟨Nat.le_refl _, Nat.le_refl _⟩ ?_
    exact hq
  · skip
    refine x_iload (i := 5) (x := -1) dX10_numberOf_33 rfl ?_
    refine x_if_lt (tgt := 83) dX10_numberOf_35 (by decide) (fun c35 => ?_) (fun c35 => ?_)
    · skip
      refine x_iload (i := 5) (x := -1) dX10_numberOf_83 rfl ?_
      refine x_ireturn dX10_numberOf_85 rfl (rfl) ⟨Nat.le_refl _, Nat.le_refl _⟩ ?_
      exact hq
    · skip
      exact absurd (by decide) c35
set_option maxHeartbeats 4000000 in
set_option maxRecDepth 100000 in
theorem l_numberOf (G : x_G) (h : x_H) (r f t k s e : Nat) (hr : x_kd h r = 21) (hf : x_kd h f = 20) (ht : x_kd h t = 20) (hkf : k < x_ln h f) (hkt : k < x_ln h t) (hlf : x_ln h f < 2 ^ 31) (hlt : x_ln h t < 2 ^ 31) (hlr : x_ln h r < 2 ^ 31) (hS : x_rw h f k = nI s) (hE : x_rw h t k = nI e) (hse : s ≤ e) (her : e ≤ x_ln h r) (hB : z_by (x_rw h r)) (h9 : e - s ≤ 9) (Q : Option x_V → x_H → Prop) : ∀ (n V i : Nat), e - s - i = n → i ≤ e - s → V < 10 ^ i → Q (some (x_i (z_ni (z_zn (z_sl (x_rw h r) (s + i) e) V)))) h → x_E G mX10_numberOf (x_D G mX10_numberOf h Q) h 26 [(0, x_r (some r)), (1, x_r (some f)), (2, x_r (some t)), (3, x_i (nI k)), (4, x_i (nI (e - s))), (5, x_i (nI V)), (6, x_i (nI i))] [] h := by
  intro n
  induction n with
  | zero =>
    intro V i hn hi hV hq
    refine x_iload (i := 6) (x := nI i) dX10_numberOf_26 rfl ?_
    refine x_iload (i := 4) (x := nI (e - s)) dX10_numberOf_28 rfl ?_
    refine x_icmp_ge (tgt := 83) dX10_numberOf_30 (by decide) (fun c30 => ?_) (fun c30 => absurd (nI_le (by omega) (by omega)) c30)
    rw [show s + i = e by omega, z_sl_nil _ (Nat.le_refl _)] at hq
    refine x_iload (i := 5) (x := nI V) dX10_numberOf_83 rfl ?_
    refine x_ireturn dX10_numberOf_85 rfl rfl ⟨Nat.le_refl _, Nat.le_refl _⟩ ?_
    exact hq
  | succ n ih =>
    intro V i hn hi hV hq
    refine x_iload (i := 6) (x := nI i) dX10_numberOf_26 rfl ?_
    refine x_iload (i := 4) (x := nI (e - s)) dX10_numberOf_28 rfl ?_
    refine x_icmp_ge (tgt := 83) dX10_numberOf_30 (by decide) (fun c30 => ?_) (fun c30 => ?_)
    · skip
      have q := (nI_leI (by omega) (by omega)).mp c30
      have hi : i = e - s := by omega
      rw [show s + i = e by omega, z_sl_nil _ (Nat.le_refl _)] at hq
      refine x_iload (i := 5) (x := nI V) dX10_numberOf_83 rfl ?_
      refine x_ireturn dX10_numberOf_85 rfl rfl ⟨Nat.le_refl _, Nat.le_refl _⟩ ?_
      exact hq
    · skip
      have q : i < e - s := Nat.lt_of_not_le fun z => c30 (nI_le z (by omega))
      have hp : 10 ^ i ≤ 10 ^ 9 := Nat.pow_le_pow_right (by omega) (by omega)
      have h9 : (10 : Nat) ^ 9 = 1000000000 := by decide
      rw [z_sl_cons _ (show s + i < e by omega)] at hq
      refine x_iload (i := 5) (x := nI V) dX10_numberOf_33 rfl ?_
      refine x_if_lt (tgt := 83) dX10_numberOf_35 (by decide) (fun c35 => ?_) (fun c35 => ?_)
      · skip
        exact absurd c35 (nI_pos (by omega))
      · skip
        refine x_aload_n (i := 0) (o := some r) dX10_numberOf_38 rfl rfl ?_
        refine x_aload_n (i := 1) (o := some f) dX10_numberOf_39 rfl rfl ?_
        refine x_iload_n (i := 3) (x := nI k) dX10_numberOf_40 rfl rfl ?_
        refine x_ialoadN (n := k) (v := nI s) dX10_numberOf_41 hf (rfl) (hkf) (hlf) (hS) ?_
        refine x_iload (i := 6) (x := nI i) dX10_numberOf_42 rfl ?_
        refine x_iadd dX10_numberOf_44 ?_
        rw [show (nI s) + (nI i) = nI (s + i) from nI_add s i]
        refine x_baloadN (n := s + i) (v := x_rw h r (s + i)) dX10_numberOf_45 hr (rfl) (by omega) (hlr) (rfl) ?_
        refine x_bipush (v := 48) dX10_numberOf_46 (by decide) ?_
        refine x_isub dX10_numberOf_48 ?_
        refine x_istore (i := 7) (lv' := [(0, x_r (some r)), (1, x_r (some f)), (2, x_r (some t)), (3, x_i (nI k)), (4, x_i (nI (e - s))), (5, x_i (nI V)), (6, x_i (nI i)), (7, x_i ((x_rw h r (s + i)) - 48))]) dX10_numberOf_49 (by decide) rfl ?_
        refine x_iload (i := 7) (x := (x_rw h r (s + i)) - 48) dX10_numberOf_51 rfl ?_
        refine x_if_lt (tgt := 63) dX10_numberOf_53 (by decide) (fun c53 => ?_) (fun c53 => ?_)
        · skip
          have hz := (z_dig_none (hB (s + i)).1 (hB (s + i)).2).mpr (Or.inl c53)
          refine x_iconst (v := (-1)) dX10_numberOf_63 (by decide) ?_
          refine x_goto (tgt := 75) dX10_numberOf_64 (by decide) ?_
          refine x_istore (i := 5) (lv' := [(0, x_r (some r)), (1, x_r (some f)), (2, x_r (some t)), (3, x_i (nI k)), (4, x_i (nI (e - s))), (5, x_i (-1)), (6, x_i (nI i)), (7, x_i (x_rw h r (s + i) - 48))]) dX10_numberOf_75 (by decide) rfl ?_
          exact l_numberOf_x G h r f t k s e hr hf ht hlr Q i V _ hse her q (by rw [show z_zn (x_rw h r (s + i) :: z_sl (x_rw h r) (s + i + 1) e) V = none by unfold z_zn; rw [hz]] at hq; exact hq)
        · skip
          refine x_iload (i := 7) (x := (x_rw h r (s + i)) - 48) dX10_numberOf_56 rfl ?_
          refine x_bipush (v := 9) dX10_numberOf_58 (by decide) ?_
          refine x_icmp_le (tgt := 67) dX10_numberOf_60 (by decide) (fun c60 => ?_) (fun c60 => ?_)
          · skip
            have hz : z_dig (x_rw h r (s + i)) ≠ none := fun z => by
              rcases (z_dig_none (hB (s + i)).1 (hB (s + i)).2).mp z with z | z
              · exact c53 z
              · exact absurd c60 (Int32.not_le.mpr z)
            obtain ⟨d, hd⟩ := Option.ne_none_iff_exists'.mp hz
            obtain ⟨hd1, hd2⟩ := z_dig_some hd
            rw [show z_zn (x_rw h r (s + i) :: z_sl (x_rw h r) (s + i + 1) e) V = z_zn (z_sl (x_rw h r) (s + i + 1) e) (10 * V + d) by
                show (match z_dig _ with | none => none | some d => z_zn _ (10 * V + d)) = _
                rw [hd]] at hq
            refine x_bipush (v := 10) dX10_numberOf_67 (by decide) ?_
            refine x_iload (i := 5) (x := nI V) dX10_numberOf_69 rfl ?_
            refine x_imul dX10_numberOf_71 ?_
            rw [show 10 * (nI V) = nI (10 * V) from pk_mul 10 V]
            refine x_iload (i := 7) (x := (x_rw h r (s + i)) - 48) dX10_numberOf_72 rfl ?_
            rw [hd1]
            refine x_iadd dX10_numberOf_74 ?_
            rw [show (nI (10 * V)) + (nI d) = nI (10 * V + d) from nI_add _ _]
            refine x_istore (i := 5) (lv' := [(0, x_r (some r)), (1, x_r (some f)), (2, x_r (some t)), (3, x_i (nI k)), (4, x_i (nI (e - s))), (5, x_i (nI (10 * V + d))), (6, x_i (nI i)), (7, x_i (nI d))]) dX10_numberOf_75 (by decide) rfl ?_
            refine x_iinc (i := 6) (x := nI i) (v := nI (i + 1)) (lv' := [(0, x_r (some r)), (1, x_r (some f)), (2, x_r (some t)), (3, x_i (nI k)), (4, x_i (nI (e - s))), (5, x_i (nI (10 * V + d))), (6, x_i (nI (i + 1))), (7, x_i (nI d))]) dX10_numberOf_77 rfl (nI_1 i) (by decide) rfl ?_
            refine x_goto (tgt := 26) dX10_numberOf_80 (by decide) ?_
            refine x_drop [0, 1, 2, 3, 4, 5, 6] rfl ?_
            refine ih (10 * V + d) (i + 1) (by omega) (by omega) (by rw [Nat.pow_succ]; omega) ?_
            rw [show s + (i + 1) = s + i + 1 by omega]
            exact hq
          · skip
            have hz := (z_dig_none (hB (s + i)).1 (hB (s + i)).2).mpr (Or.inr (Int32.not_le.mp c60))
            refine x_iconst (v := (-1)) dX10_numberOf_63 (by decide) ?_
            refine x_goto (tgt := 75) dX10_numberOf_64 (by decide) ?_
            refine x_istore (i := 5) (lv' := [(0, x_r (some r)), (1, x_r (some f)), (2, x_r (some t)), (3, x_i (nI k)), (4, x_i (nI (e - s))), (5, x_i (-1)), (6, x_i (nI i)), (7, x_i (x_rw h r (s + i) - 48))]) dX10_numberOf_75 (by decide) rfl ?_
            exact l_numberOf_x G h r f t k s e hr hf ht hlr Q i V _ hse her q (by rw [show z_zn (x_rw h r (s + i) :: z_sl (x_rw h r) (s + i + 1) e) V = none by unfold z_zn; rw [hz]] at hq; exact hq)
set_option maxHeartbeats 4000000 in
set_option maxRecDepth 100000 in
theorem c_numberOf (G : x_G) (h : x_H) (r f t k s e : Nat) (hr : x_kd h r = 21) (hf : x_kd h f = 20) (ht : x_kd h t = 20) (hkf : k < x_ln h f) (hkt : k < x_ln h t) (hlf : x_ln h f < 2 ^ 31) (hlt : x_ln h t < 2 ^ 31) (hlr : x_ln h r < 2 ^ 31) (hS : x_rw h f k = nI s) (hE : x_rw h t k = nI e) (hse : s ≤ e) (her : e ≤ x_ln h r) (hB : z_by (x_rw h r)) : x_Call G mX10_numberOf h [x_r (some r), x_r (some f), x_r (some t), x_i (nI k)] (some (x_i (z_ni (z_num (z_sl (x_rw h r) s e))))) h := by
  refine x_Ex.call (x_enter mwX10_numberOf (Nat.le_of_ble_eq_true rfl) ?_)
  show x_E _ _ _ _ _ [(0, x_r (some r)), (1, x_r (some f)), (2, x_r (some t)), (3, x_i (nI k))] _ _
  unfold z_num
  refine x_aload_n (i := 2) (o := some t) dX10_numberOf_0 rfl rfl ?_
  refine x_iload_n (i := 3) (x := nI k) dX10_numberOf_1 rfl rfl ?_
  refine x_ialoadN (n := k) (v := nI e) dX10_numberOf_2 ht (rfl) (hkt) (hlt) (hE) ?_
  refine x_aload_n (i := 1) (o := some f) dX10_numberOf_3 rfl rfl ?_
  refine x_iload_n (i := 3) (x := nI k) dX10_numberOf_4 rfl rfl ?_
  refine x_ialoadN (n := k) (v := nI s) dX10_numberOf_5 hf (rfl) (hkf) (hlf) (hS) ?_
  refine x_isub dX10_numberOf_6 ?_
  rw [show (nI e) - (nI s) = nI (e - s) from pk_sub hse]
  refine x_istore (i := 4) (lv' := [(0, x_r (some r)), (1, x_r (some f)), (2, x_r (some t)), (3, x_i (nI k)), (4, x_i (nI (e - s)))]) dX10_numberOf_7 (by decide) rfl ?_
  refine x_iload (i := 4) (x := nI (e - s)) dX10_numberOf_9 rfl ?_
  refine x_bipush (v := 9) dX10_numberOf_11 (by decide) ?_
  refine x_icmp_le (tgt := 20) dX10_numberOf_13 (by decide) (fun c13 => ?_) (fun c13 => ?_)
  · skip
    have q := (nI_leI (b := 9) (by omega) (by omega)).mp c13
    rw [if_pos (by rw [z_sl_len]; exact q)]
    refine x_iconst (v := 0) dX10_numberOf_20 (by decide) ?_
    refine x_istore (i := 5) (lv' := [(0, x_r (some r)), (1, x_r (some f)), (2, x_r (some t)), (3, x_i (nI k)), (4, x_i (nI (e - s))), (5, x_i 0)]) dX10_numberOf_21 (by decide) rfl ?_
    refine x_iconst (v := 0) dX10_numberOf_23 (by decide) ?_
    refine x_istore (i := 6) (lv' := [(0, x_r (some r)), (1, x_r (some f)), (2, x_r (some t)), (3, x_i (nI k)), (4, x_i (nI (e - s))), (5, x_i 0), (6, x_i 0)]) dX10_numberOf_24 (by decide) rfl ?_
    exact l_numberOf G h r f t k s e hr hf ht hkf hkt hlf hlt hlr hS hE hse her hB q _ _ 0 0 rfl (Nat.zero_le _) (by decide) ⟨rfl, rfl⟩
  · skip
    have q : ¬ e - s ≤ 9 := fun z => c13 (nI_le (b := 9) z (by omega))
    rw [if_neg (by rw [z_sl_len]; exact q)]
    refine x_iconst (v := (-1)) dX10_numberOf_16 (by decide) ?_
    refine x_goto (tgt := 21) dX10_numberOf_17 (by decide) ?_
    refine x_istore (i := 5) (lv' := [(0, x_r (some r)), (1, x_r (some f)), (2, x_r (some t)), (3, x_i (nI k)), (4, x_i (nI (e - s))), (5, x_i ((-1)))]) dX10_numberOf_21 (by decide) rfl ?_
    refine x_iconst (v := 0) dX10_numberOf_23 (by decide) ?_
    refine x_istore (i := 6) (lv' := [(0, x_r (some r)), (1, x_r (some f)), (2, x_r (some t)), (3, x_i (nI k)), (4, x_i (nI (e - s))), (5, x_i ((-1))), (6, x_i 0)]) dX10_numberOf_24 (by decide) rfl ?_
    refine x_iload (i := 6) (x := 0) dX10_numberOf_26 rfl ?_
    refine x_iload (i := 4) (x := nI (e - s)) dX10_numberOf_28 rfl ?_
    refine x_icmp_ge (tgt := 83) dX10_numberOf_30 (by decide) (fun c30 => ?_) (fun c30 => ?_)
    · skip
      exact absurd ((nI_leI (b := 0) (by omega) (by omega)).mp c30) (by omega)
    · skip
      refine x_iload (i := 5) (x := (-1)) dX10_numberOf_33 rfl ?_
      refine x_if_lt (tgt := 83) dX10_numberOf_35 (by decide) (fun c35 => ?_) (fun c35 => ?_)
      · skip
        refine x_iload (i := 5) (x := (-1)) dX10_numberOf_83 rfl ?_
        refine x_ireturn dX10_numberOf_85 rfl (rfl) ⟨Nat.le_refl _, Nat.le_refl _⟩ ?_
        exact ⟨rfl, rfl⟩
      · skip
        exact absurd (by decide) c35
set_option maxHeartbeats 4000000 in
set_option maxRecDepth 100000 in
theorem c_isGap (G : x_G) (h : x_H) (b : Int32) : x_Call G mX10_isGap h [x_i b] (some (x_i (if z_gap b then 1 else 0))) h := by
  refine x_Ex.call (x_enter mwX10_isGap (Nat.le_of_ble_eq_true rfl) ?_)
  show x_E _ _ _ _ _ [(0, x_i b)] _ _
  refine x_iload_n (i := 0) (x := b) dX10_isGap_0 rfl rfl ?_
  refine x_bipush (v := 32) dX10_isGap_1 (by decide) ?_
  refine x_icmp_eq (tgt := 12) dX10_isGap_3 (by decide) (fun c3 => ?_) (fun c3 => ?_)
  · skip
    refine x_iconst (v := 1) dX10_isGap_12 (by decide) ?_
    refine x_goto (tgt := 17) dX10_isGap_13 (by decide) ?_
    refine x_ireturn dX10_isGap_17 rfl (rfl) ⟨Nat.le_refl _, Nat.le_refl _⟩ ?_
    exact ⟨by simp_all [z_gap], rfl⟩
  · skip
    refine x_iload_n (i := 0) (x := b) dX10_isGap_6 rfl rfl ?_
    refine x_bipush (v := 10) dX10_isGap_7 (by decide) ?_
    refine x_icmp_ne (tgt := 16) dX10_isGap_9 (by decide) (fun c9 => ?_) (fun c9 => ?_)
    · skip
      refine x_iconst (v := 0) dX10_isGap_16 (by decide) ?_
      refine x_ireturn dX10_isGap_17 rfl (rfl) ⟨Nat.le_refl _, Nat.le_refl _⟩ ?_
      exact ⟨by simp_all [z_gap], rfl⟩
    · skip
      refine x_iconst (v := 1) dX10_isGap_12 (by decide) ?_
      refine x_goto (tgt := 17) dX10_isGap_13 (by decide) ?_
      refine x_ireturn dX10_isGap_17 rfl (rfl) ⟨Nat.le_refl _, Nat.le_refl _⟩ ?_
      exact ⟨by simp_all [z_gap], rfl⟩
