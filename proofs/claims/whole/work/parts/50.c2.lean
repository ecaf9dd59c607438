/-! THE CLASS: words -/
set_option maxHeartbeats 4000000 in
set_option maxRecDepth 100000 in
theorem c_isGapX (G : x_G) (h : x_H) (b : Int32) : x_Call G mX9_isGap h [x_i b] (some (x_i (if z_gap b then 1 else 0))) h := by
  refine x_Ex.call (x_enter mwX9_isGap (Nat.le_of_ble_eq_true rfl) ?_)
  show x_E _ _ _ _ _ [(0, x_i b)] _ _
  refine x_iload_n (i := 0) (x := b) dX9_isGap_0 rfl rfl ?_
  refine x_bipush (v := 32) dX9_isGap_1 (by decide) ?_
  refine x_icmp_eq (tgt := 12) dX9_isGap_3 (by decide) (fun c3 => ?_) (fun c3 => ?_)
  · skip
    refine x_iconst (v := 1) dX9_isGap_12 (by decide) ?_
    refine x_goto (tgt := 17) dX9_isGap_13 (by decide) ?_
    refine x_ireturn dX9_isGap_17 rfl (rfl) ⟨Nat.le_refl _, Nat.le_refl _⟩ ?_
    refine ⟨?_, rfl⟩
    rw [if_pos (by unfold z_gap; simp [c3])]
  · skip
    refine x_iload_n (i := 0) (x := b) dX9_isGap_6 rfl rfl ?_
    refine x_bipush (v := 10) dX9_isGap_7 (by decide) ?_
    refine x_icmp_ne (tgt := 16) dX9_isGap_9 (by decide) (fun c9 => ?_) (fun c9 => ?_)
    · skip
      refine x_iconst (v := 0) dX9_isGap_16 (by decide) ?_
      refine x_ireturn dX9_isGap_17 rfl (rfl) ⟨Nat.le_refl _, Nat.le_refl _⟩ ?_
      refine ⟨?_, rfl⟩
      rw [if_neg (by unfold z_gap; simp [c3, c9])]
    · skip
      refine x_iconst (v := 1) dX9_isGap_12 (by decide) ?_
      refine x_goto (tgt := 17) dX9_isGap_13 (by decide) ?_
      refine x_ireturn dX9_isGap_17 rfl (rfl) ⟨Nat.le_refl _, Nat.le_refl _⟩ ?_
      refine ⟨?_, rfl⟩
      rw [if_pos (by unfold z_gap; simp [c9])]
set_option maxHeartbeats 4000000 in
set_option maxRecDepth 100000 in
theorem l_numberX (G : x_G) {h : x_H} {a s e : Nat} (hk : x_kd h a = 21) (hl : x_ln h a < 2 ^ 31) (hse : s < e) (hel : e ≤ x_ln h a) (Q : Option x_V → x_H → Prop) : ∀ (n i V : Nat), s ≤ i → i ≤ e → e - i = n → Q (some (x_i (z_ni (z_zn (z_sl (x_rw h a) i e) V)))) h → x_E G mX8_numberOf (x_D G mX8_numberOf h Q) h 30 [(0, x_r (some a)), (1, x_i (nI s)), (2, x_i (nI e)), (3, x_i (nI V)), (4, x_i (nI i))] [] h := by
  intro n
  induction n with
  | zero =>
    intro i V hi hi2 hn hQ
    rw [z_sl_nil _ (by omega)] at hQ
    refine x_iload (i := 4) (x := nI i) dX8_numberOf_30 rfl ?_
    refine x_iload_n (i := 2) (x := nI e) dX8_numberOf_32 rfl rfl ?_
    refine x_icmp_ge (tgt := 75) dX8_numberOf_33 (by decide) (fun c33 => ?_) (fun c33 => ?_)
    · skip
      refine x_iload_n (i := 3) (x := nI V) dX8_numberOf_75 rfl rfl ?_
      refine x_ireturn dX8_numberOf_76 rfl (rfl) ⟨Nat.le_refl _, Nat.le_refl _⟩ ?_
      exact hQ
    · skip
      exact absurd (nI_le (by omega) (by omega)) c33
  | succ n ih =>
    intro i V hi hi2 hn hQ
    refine x_iload (i := 4) (x := nI i) dX8_numberOf_30 rfl ?_
    refine x_iload_n (i := 2) (x := nI e) dX8_numberOf_32 rfl rfl ?_
    refine x_icmp_ge (tgt := 75) dX8_numberOf_33 (by decide) (fun c33 => ?_) (fun c33 => ?_)
    · skip
      exact absurd ((nI_leI (by omega) (by omega)).mp c33) (by omega)
    · skip
      refine x_aload_n (i := 0) (o := some a) dX8_numberOf_36 rfl rfl ?_
      refine x_iload (i := 4) (x := nI i) dX8_numberOf_37 rfl ?_
      refine x_baloadN (n := i) (v := x_rw h a i) dX8_numberOf_39 hk (rfl) (by omega) (by omega) (rfl) ?_
      refine x_bipush (v := 48) dX8_numberOf_40 (by decide) ?_
      refine x_icmp_lt (tgt := 54) dX8_numberOf_42 (by decide) (fun c42 => ?_) (fun c42 => ?_)
      · skip
        have e1 : z_dig (x_rw h a i) = none := if_neg (fun z => absurd z.1 (Int32.not_le.mpr c42))
        refine x_iconst (v := (-1)) dX8_numberOf_54 (by decide) ?_
        refine x_ireturn dX8_numberOf_55 rfl (rfl) ⟨Nat.le_refl _, Nat.le_refl _⟩ ?_
        rw [z_sl_cons _ (by omega), show z_zn (x_rw h a i :: z_sl (x_rw h a) (i + 1) e) V = none from by unfold z_zn; rw [e1]] at hQ
        exact hQ
      · skip
        refine x_aload_n (i := 0) (o := some a) dX8_numberOf_45 rfl rfl ?_
        refine x_iload (i := 4) (x := nI i) dX8_numberOf_46 rfl ?_
        refine x_baloadN (n := i) (v := x_rw h a i) dX8_numberOf_48 hk (rfl) (by omega) (by omega) (rfl) ?_
        refine x_bipush (v := 57) dX8_numberOf_49 (by decide) ?_
        refine x_icmp_le (tgt := 56) dX8_numberOf_51 (by decide) (fun c51 => ?_) (fun c51 => ?_)
        · skip
          have e1 : z_dig (x_rw h a i) = some ((x_rw h a i).toNatClampNeg - 48) := if_pos ⟨Int32.not_lt.mp c42, c51⟩
          obtain ⟨e2, e3⟩ := z_dig_some e1
          generalize (x_rw h a i).toNatClampNeg - 48 = d at e1 e2 e3
          refine x_iload_n (i := 3) (x := nI V) dX8_numberOf_56 rfl rfl ?_
          refine x_bipush (v := 10) dX8_numberOf_57 (by decide) ?_
          refine x_imul dX8_numberOf_59 ?_
          rw [show (nI V) * 10 = nI (V * 10) from pk_mul V 10]
          refine x_aload_n (i := 0) (o := some a) dX8_numberOf_60 rfl rfl ?_
          refine x_iload (i := 4) (x := nI i) dX8_numberOf_61 rfl ?_
          refine x_baloadN (n := i) (v := x_rw h a i) dX8_numberOf_63 hk (rfl) (by omega) (by omega) (rfl) ?_
          refine x_bipush (v := 48) dX8_numberOf_64 (by decide) ?_
          refine x_isub dX8_numberOf_66 ?_
          rw [show (x_rw h a i) - 48 = nI d from e2]
          refine x_iadd dX8_numberOf_67 ?_
          rw [show (nI (V * 10)) + (nI d) = nI (10 * V + d) from (nI_add _ _).trans (by rw [Nat.mul_comm])]
          refine x_istore_n (i := 3) (lv' := [(0, x_r (some a)), (1, x_i (nI s)), (2, x_i (nI e)), (3, x_i (nI (10 * V + d))), (4, x_i (nI i))]) dX8_numberOf_68 rfl (by decide) rfl ?_
          refine x_iinc (i := 4) (x := nI i) (v := nI (i + 1)) (lv' := [(0, x_r (some a)), (1, x_i (nI s)), (2, x_i (nI e)), (3, x_i (nI (10 * V + d))), (4, x_i (nI (i + 1)))]) dX8_numberOf_69 rfl (nI_1 i) (by decide) rfl ?_
          refine x_goto (tgt := 30) dX8_numberOf_72 (by decide) ?_
          show x_E _ _ _ _ 30 _ _ _
          rw [z_sl_cons _ (by omega), show z_zn (x_rw h a i :: z_sl (x_rw h a) (i + 1) e) V = z_zn (z_sl (x_rw h a) (i + 1) e) (10 * V + d) from by rw [z_zn, e1]] at hQ
          exact ih (i + 1) (10 * V + d) (by omega) (by omega) (by omega) hQ
        · skip
          have e1 : z_dig (x_rw h a i) = none := if_neg (fun z => c51 z.2)
          refine x_iconst (v := (-1)) dX8_numberOf_54 (by decide) ?_
          refine x_ireturn dX8_numberOf_55 rfl (rfl) ⟨Nat.le_refl _, Nat.le_refl _⟩ ?_
          rw [z_sl_cons _ (by omega), show z_zn (x_rw h a i :: z_sl (x_rw h a) (i + 1) e) V = none from by unfold z_zn; rw [e1]] at hQ
          exact hQ
set_option maxHeartbeats 4000000 in
set_option maxRecDepth 100000 in
theorem c_numberX (G : x_G) {h : x_H} {a s e : Nat} (hk : x_kd h a = 21) (hl : x_ln h a < 2 ^ 31) (hse : s < e) (hel : e ≤ x_ln h a) : x_Call G mX8_numberOf h [x_r (some a), x_i (nI s), x_i (nI e)] (some (x_i (z_ni (z_num (z_sl (x_rw h a) s e))))) h := by
  refine x_Ex.call (x_enter mwX8_numberOf (Nat.le_of_ble_eq_true rfl) ?_)
  show x_E _ _ _ _ _ [(0, x_r (some a)), (1, x_i (nI s)), (2, x_i (nI e))] _ _
  refine x_iload_n (i := 1) (x := nI s) dX8_numberOf_0 rfl rfl ?_
  refine x_if_lt (tgt := 23) dX8_numberOf_1 (by decide) (fun c1 => ?_) (fun c1 => ?_)
  · skip
    exact absurd c1 (nI_pos (by omega))
  · skip
    refine x_iload_n (i := 2) (x := nI e) dX8_numberOf_4 rfl rfl ?_
    refine x_aload_n (i := 0) (o := some a) dX8_numberOf_5 rfl rfl ?_
    refine x_alen (kd := 21) (t0 := 1) dX8_numberOf_6 hk (by omega) (by omega) rfl ?_
    refine x_icmp_gt (tgt := 23) dX8_numberOf_7 (by decide) (fun c7 => ?_) (fun c7 => ?_)
    · skip
      exact absurd ((nI_ltI (by omega) (by omega)).mp c7) (by omega)
    · skip
      refine x_iload_n (i := 2) (x := nI e) dX8_numberOf_10 rfl rfl ?_
      refine x_iload_n (i := 1) (x := nI s) dX8_numberOf_11 rfl rfl ?_
      refine x_icmp_le (tgt := 23) dX8_numberOf_12 (by decide) (fun c12 => ?_) (fun c12 => ?_)
      · skip
        exact absurd ((nI_leI (by omega) (by omega)).mp c12) (by omega)
      · skip
        refine x_iload_n (i := 2) (x := nI e) dX8_numberOf_15 rfl rfl ?_
        refine x_iload_n (i := 1) (x := nI s) dX8_numberOf_16 rfl rfl ?_
        refine x_isub dX8_numberOf_17 ?_
        rw [show (nI e) - (nI s) = nI (e - s) from pk_sub (by omega)]
        refine x_bipush (v := 9) dX8_numberOf_18 (by decide) ?_
        refine x_icmp_le (tgt := 25) dX8_numberOf_20 (by decide) (fun c20 => ?_) (fun c20 => ?_)
        · skip
          have q20 := (nI_leI (b := 9) (by omega) (by omega)).mp c20
          refine x_iconst (v := 0) dX8_numberOf_25 (by decide) ?_
          refine x_istore_n (i := 3) (lv' := [(0, x_r (some a)), (1, x_i (nI s)), (2, x_i (nI e)), (3, x_i 0)]) dX8_numberOf_26 rfl (by decide) rfl ?_
          refine x_iload_n (i := 1) (x := nI s) dX8_numberOf_27 rfl rfl ?_
          refine x_istore (i := 4) (lv' := [(0, x_r (some a)), (1, x_i (nI s)), (2, x_i (nI e)), (3, x_i 0), (4, x_i (nI s))]) dX8_numberOf_28 (by decide) rfl ?_
          show x_E _ _ _ _ 30 _ _ _
          exact l_numberX G hk hl hse hel _ _ s 0 (Nat.le_refl _) (by omega) rfl ⟨by rw [show z_num (z_sl (x_rw h a) s e) = z_zn (z_sl (x_rw h a) s e) 0 from if_pos (by rw [z_sl_len]; exact q20)], rfl⟩
        · skip
          have q20 : ¬ e - s ≤ 9 := fun z => c20 (nI_le (b := 9) z (by omega))
          refine x_iconst (v := (-1)) dX8_numberOf_23 (by decide) ?_
          refine x_ireturn dX8_numberOf_24 rfl (rfl) ⟨Nat.le_refl _, Nat.le_refl _⟩ ?_
          exact ⟨by rw [show z_num (z_sl (x_rw h a) s e) = none from if_neg (by rw [z_sl_len]; exact q20)]; rfl, rfl⟩
set_option maxHeartbeats 4000000 in
set_option maxRecDepth 100000 in
theorem l_spells {G : x_G} {ad st vl : Nat → Nat} {kt : Nat × Option Nat} (hG : x_GS G ad st vl kt) {h : x_H} {a s e : Nat} (hk : x_kd h a = 21) (hl : x_ln h a < 2 ^ 31) (hse : s < e) (hel : e ≤ x_ln h a) {k : Nat} (hk7 : k < 17) (hel2 : e - s = (z_kl k).length) (Q : Option x_V → x_H → Prop) : ∀ (n i : Nat), s ≤ i → i ≤ e → e - i = n → Q (some (x_i (if z_sl (x_rw h a) i e = (z_kl k).drop (i - s) then 1 else 0))) h → x_E G mX8_spells (x_D G mX8_spells h Q) h 25 [(0, x_r (some (st k))), (1, x_r (some a)), (2, x_i (nI s)), (3, x_i (nI e)), (4, x_i (nI i))] [] h := by
  intro n
  induction n with
  | zero =>
    intro i hi hi2 hn hQ
    rw [z_sl_nil _ (by omega), List.drop_of_length_le (by omega)] at hQ
    refine x_iload (i := 4) (x := nI i) dX8_spells_25 rfl ?_
    refine x_iload_n (i := 3) (x := nI e) dX8_spells_27 rfl rfl ?_
    refine x_icmp_ge (tgt := 54) dX8_spells_28 (by decide) (fun c28 => ?_) (fun c28 => ?_)
    · skip
      refine x_iconst (v := 1) dX8_spells_54 (by decide) ?_
      refine x_ireturn dX8_spells_55 rfl (rfl) ⟨Nat.le_refl _, Nat.le_refl _⟩ ?_
      exact hQ
    · skip
      exact absurd (nI_le (by omega) (by omega)) c28
  | succ n ih =>
    intro i hi hi2 hn hQ
    refine x_iload (i := 4) (x := nI i) dX8_spells_25 rfl ?_
    refine x_iload_n (i := 3) (x := nI e) dX8_spells_27 rfl rfl ?_
    refine x_icmp_ge (tgt := 54) dX8_spells_28 (by decide) (fun c28 => ?_) (fun c28 => ?_)
    · skip
      exact absurd ((nI_leI (by omega) (by omega)).mp c28) (by omega)
    · skip
      refine x_aload_n (i := 1) (o := some a) dX8_spells_31 rfl rfl ?_
      refine x_iload (i := 4) (x := nI i) dX8_spells_32 rfl ?_
      refine x_baloadN (n := i) (v := x_rw h a i) dX8_spells_34 hk (rfl) (by omega) (by omega) (rfl) ?_
      refine x_aload_n (i := 0) (o := some (st k)) dX8_spells_35 rfl rfl ?_
      refine x_iload (i := 4) (x := nI i) dX8_spells_36 rfl ?_
      refine x_iload_n (i := 2) (x := nI s) dX8_spells_38 rfl rfl ?_
      refine x_isub dX8_spells_39 ?_
      rw [show (nI i) - (nI s) = nI (i - s) from pk_sub (by omega)]
      refine x_callE (a := st k) (av := [x_i (nI (i - s))]) (rest := [x_i (x_rw h a i)]) (r := (some (x_i ((z_kl k).getD (i - s) 0)))) (h1 := h) dX8_spells_40 sX8_spells_62 (fun U hU => ((hG U hU).2.2.1 k hk7).2.2.2.1) rfl rfl (Nat.le_of_ble_eq_true rfl) ⟨Nat.le_refl _, Nat.le_refl _⟩ (c_charAt hG h hk7 (by omega)) ?_
      show x_E _ _ _ _ 43 _ [x_i ((z_kl k).getD (i - s) 0), x_i (x_rw h a i)] _
      refine x_icmp_eq (tgt := 48) dX8_spells_43 (by decide) (fun c43 => ?_) (fun c43 => ?_)
      · skip
        refine x_iinc (i := 4) (x := nI i) (v := nI (i + 1)) (lv' := [(0, x_r (some (st k))), (1, x_r (some a)), (2, x_i (nI s)), (3, x_i (nI e)), (4, x_i (nI (i + 1)))]) dX8_spells_48 rfl (nI_1 i) (by decide) rfl ?_
        refine x_goto (tgt := 25) dX8_spells_51 (by decide) ?_
        show x_E _ _ _ _ 25 _ _ _
        have hdr : (z_kl k).drop (i - s) = (z_kl k).getD (i - s) 0 :: (z_kl k).drop (i + 1 - s) := by
          rw [List.drop_eq_getElem_cons (by omega), show i + 1 - s = i - s + 1 by omega, List.getD_eq_getElem?_getD, List.getElem?_eq_getElem (by omega)]
          rfl
        refine ih (i + 1) (by omega) (by omega) (by omega) ?_
        rw [z_sl_cons _ (by omega), hdr, c43] at hQ
        simpa using hQ
      · skip
        refine x_iconst (v := 0) dX8_spells_46 (by decide) ?_
        refine x_ireturn dX8_spells_47 rfl (rfl) ⟨Nat.le_refl _, Nat.le_refl _⟩ ?_
        have hdr : (z_kl k).drop (i - s) = (z_kl k).getD (i - s) 0 :: (z_kl k).drop (i + 1 - s) := by
          rw [List.drop_eq_getElem_cons (by omega), show i + 1 - s = i - s + 1 by omega, List.getD_eq_getElem?_getD, List.getElem?_eq_getElem (by omega)]
          rfl
        rw [if_neg (by rw [z_sl_cons _ (by omega), hdr]; exact fun z => c43 (List.cons.inj z).1)] at hQ
        exact hQ
set_option maxHeartbeats 4000000 in
set_option maxRecDepth 100000 in
theorem c_spells {G : x_G} {ad st vl : Nat → Nat} {kt : Nat × Option Nat} (hG : x_GS G ad st vl kt) {h : x_H} {a s e : Nat} (hk : x_kd h a = 21) (hl : x_ln h a < 2 ^ 31) (hse : s < e) (hel : e ≤ x_ln h a) {k : Nat} (hk7 : k < 17) : x_Call G mX8_spells h [x_r (some (st k)), x_r (some a), x_i (nI s), x_i (nI e)] (some (x_i (if z_sl (x_rw h a) s e = z_kl k then 1 else 0))) h := by
  refine x_Ex.call (x_enter mwX8_spells (Nat.le_of_ble_eq_true rfl) ?_)
  show x_E _ _ _ _ _ [(0, x_r (some (st k))), (1, x_r (some a)), (2, x_i (nI s)), (3, x_i (nI e))] _ _
  refine x_iload_n (i := 2) (x := nI s) dX8_spells_0 rfl rfl ?_
  refine x_if_lt (tgt := 20) dX8_spells_1 (by decide) (fun c1 => ?_) (fun c1 => ?_)
  · skip
    exact absurd c1 (nI_pos (by omega))
  · skip
    refine x_iload_n (i := 3) (x := nI e) dX8_spells_4 rfl rfl ?_
    refine x_aload_n (i := 1) (o := some a) dX8_spells_5 rfl rfl ?_
    refine x_alen (kd := 21) (t0 := 1) dX8_spells_6 hk (by omega) (by omega) rfl ?_
    refine x_icmp_gt (tgt := 20) dX8_spells_7 (by decide) (fun c7 => ?_) (fun c7 => ?_)
    · skip
      exact absurd ((nI_ltI (by omega) (by omega)).mp c7) (by omega)
    · skip
      refine x_iload_n (i := 3) (x := nI e) dX8_spells_10 rfl rfl ?_
      refine x_iload_n (i := 2) (x := nI s) dX8_spells_11 rfl rfl ?_
      refine x_isub dX8_spells_12 ?_
      rw [show (nI e) - (nI s) = nI (e - s) from pk_sub (by omega)]
      refine x_aload_n (i := 0) (o := some (st k)) dX8_spells_13 rfl rfl ?_
      refine x_callE (a := st k) (av := []) (rest := [x_i (nI (e - s))]) (r := (some (x_i (nI (z_kl k).length)))) (h1 := h) dX8_spells_14 sX8_spells_56 (fun U hU => ((hG U hU).2.2.1 k hk7).2.2.2.1) rfl rfl (Nat.le_of_ble_eq_true rfl) ⟨Nat.le_refl _, Nat.le_refl _⟩ (c_strlen hG h hk7) ?_
      show x_E _ _ _ _ 17 _ [x_i (nI (z_kl k).length), x_i (nI (e - s))] _
      refine x_icmp_eq (tgt := 22) dX8_spells_17 (by decide) (fun c17 => ?_) (fun c17 => ?_)
      · skip
        have q17 := (nI_eq (by omega) (by have := (z_kl_ok k hk7).1; omega)).mp c17
        refine x_iload_n (i := 2) (x := nI s) dX8_spells_22 rfl rfl ?_
        refine x_istore (i := 4) (lv' := [(0, x_r (some (st k))), (1, x_r (some a)), (2, x_i (nI s)), (3, x_i (nI e)), (4, x_i (nI s))]) dX8_spells_23 (by decide) rfl ?_
        show x_E _ _ _ _ 25 _ _ _
        exact l_spells hG hk hl hse hel hk7 q17 _ _ s (Nat.le_refl _) (by omega) rfl ⟨by rw [Nat.sub_self, List.drop_zero], rfl⟩
      · skip
        have q17 : ¬ e - s = (z_kl k).length := fun z => c17 (by rw [z])
        refine x_iconst (v := 0) dX8_spells_20 (by decide) ?_
        refine x_ireturn dX8_spells_21 rfl (rfl) ⟨Nat.le_refl _, Nat.le_refl _⟩ ?_
        exact ⟨by rw [if_neg (fun z => q17 (by rw [← z, z_sl_len]))], rfl⟩
def z_kf (w : List Int32) (j : Nat) : Int32 := (((z_kws.drop j).find? (fun q => q.1 == w)).map (fun q => q.2)).getD (-1)
theorem z_kw_d {j : Nat} (hj : j < 17) : z_kws.drop j = (z_kl j, z_kc j) :: z_kws.drop (j + 1) := by
  have : ∀ j, j < 17 → z_kws.drop j = (z_kl j, z_kc j) :: z_kws.drop (j + 1) := by decide +kernel
  exact this j hj
theorem z_kd_t {w : List Int32} {j : Nat} (hj : j < 17) (h : z_kl j = w) : z_kf w j = z_kc j := by
  unfold z_kf
  rw [z_kw_d hj, List.find?_cons_of_pos (by simpa using h)]
  rfl
theorem z_kd_f {w : List Int32} {j : Nat} (hj : j < 17) (h : ¬ z_kl j = w) : z_kf w j = z_kf w (j + 1) := by
  unfold z_kf
  rw [z_kw_d hj, List.find?_cons_of_neg (by simpa using h)]
set_option maxHeartbeats 4000000 in
set_option maxRecDepth 100000 in
theorem l_codeOf {G : x_G} {ad st vl : Nat → Nat} {kt : Nat × Option Nat} (hG : x_GS G ad st vl kt) {h : x_H} {a s e : Nat} (hk : x_kd h a = 21) (hl : x_ln h a < 2 ^ 31) (hse : s < e) (hel : e ≤ x_ln h a) (Q : Option x_V → x_H → Prop) : ∀ (n j : Nat), j ≤ 17 → 17 - j = n → Q (some (x_i (z_kf (z_sl (x_rw h a) s e) j))) h → x_E G mX8_codeOf (x_D G mX8_codeOf h Q) h 27 [(0, x_r (some a)), (1, x_i (nI s)), (2, x_i (nI e)), (3, x_i ((-1))), (4, x_r (some kt.1)), (5, x_i (nI 17)), (6, x_i (nI j))] [] h := by
  intro n
  induction n with
  | zero =>
    intro j hj hn hQ
    have ej : j = 17 := by omega
    subst ej
    refine x_iload (i := 6) (x := nI 17) dX8_codeOf_27 rfl ?_
    refine x_iload (i := 5) (x := nI 17) dX8_codeOf_29 rfl ?_
    refine x_icmp_ge (tgt := 67) dX8_codeOf_31 (by decide) (fun c31 => ?_) (fun c31 => ?_)
    · skip
      refine x_iconst (v := (-1)) dX8_codeOf_67 (by decide) ?_
      refine x_ireturn dX8_codeOf_68 rfl (rfl) ⟨Nat.le_refl _, Nat.le_refl _⟩ ?_
      exact hQ
    · skip
      exact absurd (nI_le (by omega) (by omega)) c31
  | succ n ih =>
    intro j hj hn hQ
    refine x_iload (i := 6) (x := nI j) dX8_codeOf_27 rfl ?_
    refine x_iload (i := 5) (x := nI 17) dX8_codeOf_29 rfl ?_
    refine x_icmp_ge (tgt := 67) dX8_codeOf_31 (by decide) (fun c31 => ?_) (fun c31 => ?_)
    · skip
      exact absurd ((nI_leI (by omega) (by omega)).mp c31) (by omega)
    · skip
      refine x_aload (i := 4) (o := some kt.1) dX8_codeOf_34 rfl ?_
      refine x_iload (i := 6) (x := nI j) dX8_codeOf_36 rfl ?_
      refine x_aaX (v := x_r (some (ad j))) (n := j) dX8_codeOf_38 (fun U hU => (hG U hU).2.1) (rfl) (by omega) (by omega) (rfl) ?_
      refine x_astore (i := 7) (lv' := [(0, x_r (some a)), (1, x_i (nI s)), (2, x_i (nI e)), (3, x_i ((-1))), (4, x_r (some kt.1)), (5, x_i (nI 17)), (6, x_i (nI j)), (7, x_r (some (ad j)))]) dX8_codeOf_39 (by decide) rfl ?_
      refine x_aload (i := 7) (o := some (ad j)) dX8_codeOf_41 rfl ?_
      refine x_getX (v := x_r (some (st j))) dX8_codeOf_43 fX8_codeOf_48 (fun U hU => ((hG U hU).2.2.1 j (by omega)).2.2.1) ?_
      refine x_aload_n (i := 0) (o := some a) dX8_codeOf_46 rfl rfl ?_
      refine x_iload_n (i := 1) (x := nI s) dX8_codeOf_47 rfl rfl ?_
      refine x_iload_n (i := 2) (x := nI e) dX8_codeOf_48 rfl rfl ?_
      by_cases qs : z_sl (x_rw h a) s e = z_kl j
      · skip
        refine x_callS (av := [x_r (some (st j)), x_r (some a), x_i (nI s), x_i (nI e)]) (rest := []) (r := (some (x_i 1))) (h1 := h) dX8_codeOf_49 sX8_codeOf_52 rfl rfl (Nat.le_of_ble_eq_true rfl) ⟨Nat.le_refl _, Nat.le_refl _⟩ (by have k := c_spells hG hk hl hse hel (k := j) (by omega); rw [if_pos qs] at k; exact k) ?_
        show x_E _ _ _ _ 52 _ [x_i 1] _
        refine x_if_eq (tgt := 61) dX8_codeOf_52 (by decide) (fun c => absurd c (by decide)) (fun _ => ?_)
        refine x_aload (i := 7) (o := some (ad j)) dX8_codeOf_55 rfl ?_
        refine x_getX (v := x_i (z_kc j)) dX8_codeOf_57 fX8_codeOf_36 (fun U hU => ((hG U hU).2.2.1 j (by omega)).2.1) ?_
        refine x_ireturn dX8_codeOf_60 rfl (rfl) ⟨Nat.le_refl _, Nat.le_refl _⟩ ?_
        rw [z_kd_t (by omega) qs.symm] at hQ
        exact hQ
      · skip
        refine x_callS (av := [x_r (some (st j)), x_r (some a), x_i (nI s), x_i (nI e)]) (rest := []) (r := (some (x_i 0))) (h1 := h) dX8_codeOf_49 sX8_codeOf_52 rfl rfl (Nat.le_of_ble_eq_true rfl) ⟨Nat.le_refl _, Nat.le_refl _⟩ (by have k := c_spells hG hk hl hse hel (k := j) (by omega); rw [if_neg qs] at k; exact k) ?_
        show x_E _ _ _ _ 52 _ [x_i 0] _
        refine x_if_eq (tgt := 61) dX8_codeOf_52 (by decide) (fun _ => ?_) (fun c => absurd (by decide) c)
        refine x_iinc (i := 6) (x := nI j) (v := nI (j + 1)) (lv' := [(0, x_r (some a)), (1, x_i (nI s)), (2, x_i (nI e)), (3, x_i ((-1))), (4, x_r (some kt.1)), (5, x_i (nI 17)), (6, x_i (nI (j + 1))), (7, x_r (some (ad j)))]) dX8_codeOf_61 rfl (nI_1 j) (by decide) rfl ?_
        refine x_goto (tgt := 27) dX8_codeOf_64 (by decide) ?_
        show x_E _ _ _ _ 27 _ _ _
        rw [z_kd_f (by omega) (fun z => qs z.symm)] at hQ
        refine x_drop [0, 1, 2, 3, 4, 5, 6] rfl ?_
        exact ih (j + 1) (by omega) (by omega) hQ
set_option maxHeartbeats 4000000 in
set_option maxRecDepth 100000 in
theorem c_codeOf {G : x_G} {ad st vl : Nat → Nat} {kt : Nat × Option Nat} (hG : x_GS G ad st vl kt) {h : x_H} {a s e : Nat} (hk : x_kd h a = 21) (hl : x_ln h a < 2 ^ 31) (hse : s < e) (hel : e ≤ x_ln h a) : x_Call G mX8_codeOf h [x_r (some a), x_i (nI s), x_i (nI e)] (some (x_i (z_code (z_sl (x_rw h a) s e)))) h := by
  refine x_Ex.call (x_enter mwX8_codeOf (Nat.le_of_ble_eq_true rfl) ?_)
  show x_E _ _ _ _ _ [(0, x_r (some a)), (1, x_i (nI s)), (2, x_i (nI e))] _ _
  refine x_aload_n (i := 0) (o := some a) dX8_codeOf_0 rfl rfl ?_
  refine x_iload_n (i := 1) (x := nI s) dX8_codeOf_1 rfl rfl ?_
  refine x_iload_n (i := 2) (x := nI e) dX8_codeOf_2 rfl rfl ?_
  rcases hnum : z_num (z_sl (x_rw h a) s e) with _ | V
  · skip
    have ec : z_code (z_sl (x_rw h a) s e) = z_kw (z_sl (x_rw h a) s e) := by unfold z_code; rw [hnum]
    refine x_callS (av := [x_r (some a), x_i (nI s), x_i (nI e)]) (rest := []) (r := (some (x_i ((-1))))) (h1 := h) dX8_codeOf_3 sX8_codeOf_41 rfl rfl (Nat.le_of_ble_eq_true rfl) ⟨Nat.le_refl _, Nat.le_refl _⟩ (by have k := c_numberX G hk hl hse hel; rw [hnum] at k; exact k) ?_
    show x_E _ _ _ _ 6 _ [x_i ((-1))] _
    refine x_istore_n (i := 3) (lv' := [(0, x_r (some a)), (1, x_i (nI s)), (2, x_i (nI e)), (3, x_i ((-1)))]) dX8_codeOf_6 rfl (by decide) rfl ?_
    refine x_iload_n (i := 3) (x := (-1)) dX8_codeOf_7 rfl rfl ?_
    refine x_iconst (v := (-1)) dX8_codeOf_8 (by decide) ?_
    refine x_icmp_eq (tgt := 14) dX8_codeOf_9 (by decide) (fun _ => ?_) (fun c => absurd (by decide) c)
    refine x_getsN (host := "HazardRules") (v := x_r (some kt.1)) dX8_codeOf_14 (fun U hU => (hG U hU).2.2.2.2.2 _ (by simp [x_nl])) (fun U hU => (hG U hU).1) ?_
    refine x_astore (i := 4) (lv' := [(0, x_r (some a)), (1, x_i (nI s)), (2, x_i (nI e)), (3, x_i ((-1))), (4, x_r (some kt.1))]) dX8_codeOf_17 (by decide) rfl ?_
    refine x_aload (i := 4) (o := some kt.1) dX8_codeOf_19 rfl ?_
    refine x_alX dX8_codeOf_21 (fun U hU => (hG U hU).2.1) ?_
    show x_E _ _ _ _ 22 _ [x_i (nI 17)] _
    refine x_istore (i := 5) (lv' := [(0, x_r (some a)), (1, x_i (nI s)), (2, x_i (nI e)), (3, x_i ((-1))), (4, x_r (some kt.1)), (5, x_i (nI 17))]) dX8_codeOf_22 (by decide) rfl ?_
    refine x_iconst (v := 0) dX8_codeOf_24 (by decide) ?_
    refine x_istore (i := 6) (lv' := [(0, x_r (some a)), (1, x_i (nI s)), (2, x_i (nI e)), (3, x_i ((-1))), (4, x_r (some kt.1)), (5, x_i (nI 17)), (6, x_i 0)]) dX8_codeOf_25 (by decide) rfl ?_
    show x_E _ _ _ _ 27 _ _ _
    refine l_codeOf hG hk hl hse hel _ _ 0 (by omega) rfl ⟨?_, rfl⟩
    rw [ec]
    rfl
  · skip
    have ec : z_code (z_sl (x_rw h a) s e) = nI V := by unfold z_code; rw [hnum]
    have hV := z_num_lt hnum
    refine x_callS (av := [x_r (some a), x_i (nI s), x_i (nI e)]) (rest := []) (r := (some (x_i (nI V)))) (h1 := h) dX8_codeOf_3 sX8_codeOf_41 rfl rfl (Nat.le_of_ble_eq_true rfl) ⟨Nat.le_refl _, Nat.le_refl _⟩ (by have k := c_numberX G hk hl hse hel; rw [hnum] at k; exact k) ?_
    show x_E _ _ _ _ 6 _ [x_i (nI V)] _
    refine x_istore_n (i := 3) (lv' := [(0, x_r (some a)), (1, x_i (nI s)), (2, x_i (nI e)), (3, x_i (nI V))]) dX8_codeOf_6 rfl (by decide) rfl ?_
    refine x_iload_n (i := 3) (x := nI V) dX8_codeOf_7 rfl rfl ?_
    refine x_iconst (v := (-1)) dX8_codeOf_8 (by decide) ?_
    refine x_icmp_eq (tgt := 14) dX8_codeOf_9 (by decide) (fun c9 => ?_) (fun c9 => ?_)
    · skip
      exact absurd c9 (z_neg1 (nI_pos' (by omega)))
    · skip
      refine x_iload_n (i := 3) (x := nI V) dX8_codeOf_12 rfl rfl ?_
      refine x_ireturn dX8_codeOf_13 rfl (rfl) ⟨Nat.le_refl _, Nat.le_refl _⟩ ?_
      exact ⟨by rw [ec], rfl⟩
