/-! THE REFERENCE: texts -/
set_option maxHeartbeats 4000000 in
set_option maxRecDepth 100000 in
theorem l_wordOf (G : x_G) (h : x_H) (r f t k s e : Nat) (hr : x_kd h r = 21) (hf : x_kd h f = 20) (ht : x_kd h t = 20) (hkf : k < x_ln h f) (hkt : k < x_ln h t) (hlf : x_ln h f < 2 ^ 31) (hlt : x_ln h t < 2 ^ 31) (hlr : x_ln h r < 2 ^ 31) (hS : x_rw h f k = nI s) (hE : x_rw h t k = nI e) (hse : s ≤ e) (her : e ≤ x_ln h r) (h8 : e - s < 8) (Q : Option x_V → x_H → Prop) : ∀ (n : Nat) (v : Int64) (i : Nat), e - i = n → s ≤ i → i ≤ e → Q (some (x_l (z_dgl (z_sl (x_rw h r) i e) v))) h → x_E G mX10_wordOf (x_D G mX10_wordOf h Q) h 8 [(0, x_r (some r)), (1, x_r (some f)), (2, x_r (some t)), (3, x_i (nI k)), (4, x_l v), (6, x_i (nI i))] [] h := by
  intro n
  induction n with
  | zero =>
    intro v i hn hi hie hq
    refine x_iload (i := 6) (x := nI i) dX10_wordOf_8 rfl ?_
    refine x_aload_n (i := 2) (o := some t) dX10_wordOf_10 rfl rfl ?_
    refine x_iload_n (i := 3) (x := nI k) dX10_wordOf_11 rfl rfl ?_
    refine x_ialoadN (n := k) (v := nI e) dX10_wordOf_12 ht rfl hkt hlt hE ?_
    refine x_icmp_ge (tgt := 52) dX10_wordOf_13 (by decide) (fun c13 => ?_) (fun c13 => absurd (nI_le (by omega) (by omega)) c13)
    refine x_lload (i := 4) (x := v) dX10_wordOf_52 rfl ?_
    refine x_lreturn dX10_wordOf_54 rfl ⟨Nat.le_refl _, Nat.le_refl _⟩ ?_
    rw [z_sl_nil _ (by omega)] at hq
    exact hq
  | succ n ih =>
    intro v i hn hi hie hq
    refine x_iload (i := 6) (x := nI i) dX10_wordOf_8 rfl ?_
    refine x_aload_n (i := 2) (o := some t) dX10_wordOf_10 rfl rfl ?_
    refine x_iload_n (i := 3) (x := nI k) dX10_wordOf_11 rfl rfl ?_
    refine x_ialoadN (n := k) (v := nI e) dX10_wordOf_12 ht (rfl) (hkt) (hlt) (hE) ?_
    refine x_icmp_ge (tgt := 52) dX10_wordOf_13 (by decide) (fun c13 => ?_) (fun c13 => ?_)
    · skip
      have q := (nI_leI (by omega) (by omega)).mp c13
      refine x_lload (i := 4) (x := v) dX10_wordOf_52 rfl ?_
      refine x_lreturn dX10_wordOf_54 rfl ⟨Nat.le_refl _, Nat.le_refl _⟩ ?_
      rw [z_sl_nil _ q] at hq
      exact hq
    · have q : i < e := Nat.lt_of_not_le fun z => c13 (nI_le z (by omega))
      refine x_aload_n (i := 2) (o := some t) dX10_wordOf_16 rfl rfl ?_
      refine x_iload_n (i := 3) (x := nI k) dX10_wordOf_17 rfl rfl ?_
      refine x_ialoadN (n := k) (v := nI e) dX10_wordOf_18 ht (rfl) (hkt) (hlt) (hE) ?_
      refine x_aload_n (i := 1) (o := some f) dX10_wordOf_19 rfl rfl ?_
      refine x_iload_n (i := 3) (x := nI k) dX10_wordOf_20 rfl rfl ?_
      refine x_ialoadN (n := k) (v := nI s) dX10_wordOf_21 hf (rfl) (hkf) (hlf) (hS) ?_
      refine x_isub dX10_wordOf_22 ?_
      rw [show (nI e) - (nI s) = nI (e - s) from pk_sub hse]
      refine x_bipush (v := 8) dX10_wordOf_23 (by decide) ?_
      refine x_icmp_ge (tgt := 52) dX10_wordOf_25 (by decide) (fun c25 => ?_) (fun c25 => ?_)
      · skip
        exact absurd ((nI_leI (a := 8) (by omega) (by omega)).mp c25) (by omega)
      · skip
        refine x_ldc2 (v := 256) dX10_wordOf_28 kX10_wordOf_81 ?_
        refine x_lload (i := 4) (x := v) dX10_wordOf_31 rfl ?_
        refine x_lmul dX10_wordOf_33 ?_
        refine x_aload_n (i := 0) (o := some r) dX10_wordOf_34 rfl rfl ?_
        refine x_iload (i := 6) (x := nI i) dX10_wordOf_35 rfl ?_
        refine x_baloadN (n := i) (v := x_rw h r i) dX10_wordOf_37 hr (rfl) (by omega) (hlr) (rfl) ?_
        refine x_sipush (v := 255) dX10_wordOf_38 (by decide) ?_
        refine x_iand dX10_wordOf_41 ?_
        refine x_i2l dX10_wordOf_42 ?_
        refine x_ladd dX10_wordOf_43 ?_
        refine x_lstore (i := 4) (lv' := [(0, x_r (some r)), (1, x_r (some f)), (2, x_r (some t)), (3, x_i (nI k)), (4, x_l ((256 * v) + (Int32.toInt64 ((x_rw h r i) &&& 255)))), (6, x_i (nI i))]) dX10_wordOf_44 (by decide) rfl ?_
        refine x_iinc (i := 6) (x := nI i) (v := nI (i + 1)) (lv' := [(0, x_r (some r)), (1, x_r (some f)), (2, x_r (some t)), (3, x_i (nI k)), (4, x_l ((256 * v) + (Int32.toInt64 ((x_rw h r i) &&& 255)))), (6, x_i (nI (i + 1)))]) dX10_wordOf_46 rfl (nI_1 i) (by decide) rfl ?_
        refine x_goto (tgt := 8) dX10_wordOf_49 (by decide) ?_
        exact ih _ (i + 1) (by omega) (by omega) (by omega) (by rw [z_sl_cons _ q] at hq; exact hq)
