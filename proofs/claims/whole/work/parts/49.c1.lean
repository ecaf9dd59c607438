/-! THE JDK's own methods that the class calls: String.length, charAt, Arrays.fill -/
theorem x_laloadN {G : x_G} {M : x_M} {D : Room → x_Z → Prop} {h0 h : x_H} {pc : Nat} {lv : x_L} {st : List x_V} {a n : Nat} {i : Int32} {v : Int64} (hd : decode (x_cc M) pc = .ok (.laload, 1)) (hk : x_kd h a = 23) (hi : i = nI n) (hn : n < x_ln h a) (hl : x_ln h a < 2 ^ 31) (hv : x_rl h a n = v) (k : x_E G M D h0 (pc + 1) lv (x_l v :: st) h) : x_E G M D h0 pc lv (x_i i :: x_r (some a) :: st) h := by
  subst hi
  subst hv
  exact x_laload hd hk (vp_in_nI hn hl) (by rw [nI_clamp (Nat.lt_trans hn hl)]; exact k)
theorem x_lastoreN {G : x_G} {M : x_M} {D : Room → x_Z → Prop} {h0 h : x_H} {pc : Nat} {lv : x_L} {st : List x_V} {a n : Nat} {i : Int32} {x : Int64} (hd : decode (x_cc M) pc = .ok (.lastore, 1)) (hk : x_kd h a = 23) (hi : i = nI n) (hn : n < x_ln h a) (hl : x_ln h a < 2 ^ 31) (k : x_E G M D h0 (pc + 1) lv st (x_sJ h a n x)) : x_E G M D h0 pc lv (x_l x :: x_i i :: x_r (some a) :: st) h := by
  subst hi
  exact x_lastore hd hk (vp_in_nI hn hl) (by rw [nI_clamp (Nat.lt_trans hn hl)]; exact k)
theorem z_kl_ok : ∀ k, k < 17 → (z_kl k).length < 8 ∧ ∀ j, j < (z_kl k).length → ((z_kl k).getD j 0 &&& 255).toUInt32 % 65536 = ((z_kl k).getD j 0).toUInt32 ∧ narrow .char (.int ((z_kl k).getD j 0)) = .int ((z_kl k).getD j 0) := by decide +kernel
set_option maxHeartbeats 4000000 in
set_option maxRecDepth 100000 in
theorem c_coder {G : x_G} {ad st vl : Nat → Nat} {kt : Nat × Option Nat} (hG : x_GS G ad st vl kt) (h : x_H) {k : Nat} (hk : k < 17) : x_Call G mJ0_coder_7d493 h [x_r (some (st k))] (some (x_i 0)) h := by
  refine x_Ex.call (x_enter mwJ0_coder_7d493 (Nat.le_of_ble_eq_true rfl) ?_)
  show x_E _ _ _ _ _ [(0, x_r (some (st k)))] _ _
  refine x_gets (v := x_i 1) dJ0_coder_7d493_0 fJ0_coder_7d493_38 (fun U hU => (hG U hU).2.2.2.1) ?_
  refine x_if_eq (tgt := 13) dJ0_coder_7d493_3 (by decide) (fun c => absurd c (by decide)) (fun _ => ?_)
  refine x_aload_n (i := 0) (o := some (st k)) dJ0_coder_7d493_6 rfl rfl ?_
  refine x_getX (v := x_i 0) dJ0_coder_7d493_7 fJ0_coder_7d493_15 (fun U hU => ((hG U hU).2.2.1 k hk).2.2.2.2.2.1) ?_
  refine x_goto (tgt := 14) dJ0_coder_7d493_10 (by decide) ?_
  refine x_ireturn dJ0_coder_7d493_14 rfl (rfl) ⟨Nat.le_refl _, Nat.le_refl _⟩ ?_
  exact ⟨rfl, rfl⟩
set_option maxHeartbeats 4000000 in
set_option maxRecDepth 100000 in
theorem c_isLatin1 {G : x_G} {ad st vl : Nat → Nat} {kt : Nat × Option Nat} (hG : x_GS G ad st vl kt) (h : x_H) {k : Nat} (hk : k < 17) : x_Call G mJ0_isLatin1_aae02 h [x_r (some (st k))] (some (x_i 1)) h := by
  refine x_Ex.call (x_enter mwJ0_isLatin1_aae02 (Nat.le_of_ble_eq_true rfl) ?_)
  show x_E _ _ _ _ _ [(0, x_r (some (st k)))] _ _
  refine x_gets (v := x_i 1) dJ0_isLatin1_aae02_0 fJ0_isLatin1_aae02_38 (fun U hU => (hG U hU).2.2.2.1) ?_
  refine x_if_eq (tgt := 17) dJ0_isLatin1_aae02_3 (by decide) (fun c => absurd c (by decide)) (fun _ => ?_)
  refine x_aload_n (i := 0) (o := some (st k)) dJ0_isLatin1_aae02_6 rfl rfl ?_
  refine x_getX (v := x_i 0) dJ0_isLatin1_aae02_7 fJ0_isLatin1_aae02_15 (fun U hU => ((hG U hU).2.2.1 k hk).2.2.2.2.2.1) ?_
  refine x_if_ne (tgt := 17) dJ0_isLatin1_aae02_10 (by decide) (fun c => absurd c (by decide)) (fun _ => ?_)
  refine x_iconst (v := 1) dJ0_isLatin1_aae02_13 (by decide) ?_
  refine x_goto (tgt := 18) dJ0_isLatin1_aae02_14 (by decide) ?_
  refine x_ireturn dJ0_isLatin1_aae02_18 rfl (rfl) ⟨Nat.le_refl _, Nat.le_refl _⟩ ?_
  exact ⟨rfl, rfl⟩
theorem z_sh0 {n : Nat} (h : n < 2 ^ 31) : nI n >>> ((0 : Int32) &&& 31) = nI n := by
  have : ((0 : Int32) &&& 31) = 0 := by decide
  rw [this]
  exact Int32.shiftRight_zero
set_option maxHeartbeats 4000000 in
set_option maxRecDepth 100000 in
theorem c_strlen {G : x_G} {ad st vl : Nat → Nat} {kt : Nat × Option Nat} (hG : x_GS G ad st vl kt) (h : x_H) {k : Nat} (hk : k < 17) : x_Call G mJ0_length_8abf5 h [x_r (some (st k))] (some (x_i (nI (z_kl k).length))) h := by
  refine x_Ex.call (x_enter mwJ0_length_8abf5 (Nat.le_of_ble_eq_true rfl) ?_)
  show x_E _ _ _ _ _ [(0, x_r (some (st k)))] _ _
  refine x_aload_n (i := 0) (o := some (st k)) dJ0_length_8abf5_0 rfl rfl ?_
  refine x_getX (v := x_r (some (vl k))) dJ0_length_8abf5_1 fJ0_length_8abf5_9 (fun U hU => ((hG U hU).2.2.1 k hk).2.2.2.2.1) ?_
  refine x_alX dJ0_length_8abf5_4 (fun U hU => ((hG U hU).2.2.1 k hk).2.2.2.2.2.2) ?_
  show x_E _ _ _ _ 5 _ [x_i (nI (z_kl k).length)] _
  refine x_aload_n (i := 0) (o := some (st k)) dJ0_length_8abf5_5 rfl rfl ?_
  refine x_callE (a := st k) (av := []) (rest := [x_i (nI (z_kl k).length)]) (r := (some (x_i 0))) (h1 := h) dJ0_length_8abf5_6 sJ0_length_8abf5_335 (fun U hU => ((hG U hU).2.2.1 k hk).2.2.2.1) rfl rfl (Nat.le_of_ble_eq_true rfl) ⟨Nat.le_refl _, Nat.le_refl _⟩ (c_coder hG h hk) ?_
  show x_E _ _ _ _ 9 _ [x_i 0, x_i (nI (z_kl k).length)] _
  refine x_ishr (v := nI (z_kl k).length) dJ0_length_8abf5_9 (z_sh0 (by have := (z_kl_ok k hk).1; omega)) ?_
  refine x_ireturn dJ0_length_8abf5_10 rfl (rfl) ⟨Nat.le_refl _, Nat.le_refl _⟩ ?_
  exact ⟨rfl, rfl⟩
set_option maxHeartbeats 4000000 in
set_option maxRecDepth 100000 in
theorem c_ckIndex3 (G : x_G) (h : x_H) {i n : Nat} (hi : i < n) (hn : n < 2 ^ 31) (f : Option Nat) : x_Call G mJ3_checkIndex_8e157 h [x_i (nI i), x_i (nI n), x_r f] (some (x_i (nI i))) h := by
  refine x_Ex.call (x_enter mwJ3_checkIndex_8e157 (Nat.le_of_ble_eq_true rfl) ?_)
  show x_E _ _ _ _ _ [(0, x_i (nI i)), (1, x_i (nI n)), (2, x_r f)] _ _
  refine x_iload_n (i := 0) (x := nI i) dJ3_checkIndex_8e157_0 rfl rfl ?_
  refine x_if_lt (tgt := 9) dJ3_checkIndex_8e157_1 (by decide) (fun c1 => ?_) (fun c1 => ?_)
  · skip
    exact absurd c1 (nI_pos (by omega))
  · skip
    refine x_iload_n (i := 0) (x := nI i) dJ3_checkIndex_8e157_4 rfl rfl ?_
    refine x_iload_n (i := 1) (x := nI n) dJ3_checkIndex_8e157_5 rfl rfl ?_
    refine x_icmp_lt (tgt := 16) dJ3_checkIndex_8e157_6 (by decide) (fun c6 => ?_) (fun c6 => ?_)
    · skip
      refine x_iload_n (i := 0) (x := nI i) dJ3_checkIndex_8e157_16 rfl rfl ?_
      refine x_ireturn dJ3_checkIndex_8e157_17 rfl (rfl) ⟨Nat.le_refl _, Nat.le_refl _⟩ ?_
      exact ⟨rfl, rfl⟩
    · skip
      exact absurd (nI_lt hi hn) c6
set_option maxHeartbeats 4000000 in
set_option maxRecDepth 100000 in
theorem c_ckIndex {G : x_G} {ad st vl : Nat → Nat} {kt : Nat × Option Nat} (hG : x_GS G ad st vl kt) (h : x_H) {i n : Nat} (hi : i < n) (hn : n < 2 ^ 31) : x_Call G mJ0_checkIndex_df160 h [x_i (nI i), x_i (nI n)] none h := by
  refine x_Ex.call (x_enter mwJ0_checkIndex_df160 (Nat.le_of_ble_eq_true rfl) ?_)
  show x_E _ _ _ _ _ [(0, x_i (nI i)), (1, x_i (nI n))] _ _
  refine x_iload_n (i := 0) (x := nI i) dJ0_checkIndex_df160_0 rfl rfl ?_
  refine x_iload_n (i := 1) (x := nI n) dJ0_checkIndex_df160_1 rfl rfl ?_
  refine x_gets (v := x_r kt.2) dJ0_checkIndex_df160_2 fJ0_checkIndex_df160_1053 (fun U hU => (hG U hU).2.2.2.2.1) ?_
  refine x_callS (av := [x_i (nI i), x_i (nI n), x_r kt.2]) (rest := []) (r := (some (x_i (nI i)))) (h1 := h) dJ0_checkIndex_df160_5 sJ0_checkIndex_df160_1059 rfl rfl (Nat.le_of_ble_eq_true rfl) ⟨Nat.le_refl _, Nat.le_refl _⟩ (c_ckIndex3 G h hi hn kt.2) ?_
  show x_E _ _ _ _ 8 _ [x_i (nI i)] _
  refine x_pop dJ0_checkIndex_df160_8 rfl ?_
  refine x_return dJ0_checkIndex_df160_9 rfl ⟨Nat.le_refl _, Nat.le_refl _⟩ ?_
  exact ⟨rfl, rfl⟩
set_option maxHeartbeats 4000000 in
set_option maxRecDepth 100000 in
theorem c_charAt1 {G : x_G} {ad st vl : Nat → Nat} {kt : Nat × Option Nat} (hG : x_GS G ad st vl kt) (h : x_H) {k i : Nat} (hk : k < 17) (hi : i < (z_kl k).length) : x_Call G mJ1_charAt_3b067 h [x_r (some (vl k)), x_i (nI i)] (some (x_i ((z_kl k).getD i 0))) h := by
  refine x_Ex.call (x_enter mwJ1_charAt_3b067 (Nat.le_of_ble_eq_true rfl) ?_)
  show x_E _ _ _ _ _ [(0, x_r (some (vl k))), (1, x_i (nI i))] _ _
  refine x_iload_n (i := 1) (x := nI i) dJ1_charAt_3b067_0 rfl rfl ?_
  refine x_aload_n (i := 0) (o := some (vl k)) dJ1_charAt_3b067_1 rfl rfl ?_
  refine x_alX dJ1_charAt_3b067_2 (fun U hU => ((hG U hU).2.2.1 k hk).2.2.2.2.2.2) ?_
  show x_E _ _ _ _ 3 _ [x_i (nI (z_kl k).length), x_i (nI i)] _
  refine x_callS (av := [x_i (nI i), x_i (nI (z_kl k).length)]) (rest := []) (r := none) (h1 := h) dJ1_charAt_3b067_3 sJ1_charAt_3b067_9 rfl rfl (Nat.le_of_ble_eq_true rfl) ⟨Nat.le_refl _, Nat.le_refl _⟩ (c_ckIndex hG h hi (by have := (z_kl_ok k hk).1; omega)) ?_
  show x_E _ _ _ _ 6 _ [] _
  refine x_aload_n (i := 0) (o := some (vl k)) dJ1_charAt_3b067_6 rfl rfl ?_
  refine x_iload_n (i := 1) (x := nI i) dJ1_charAt_3b067_7 rfl rfl ?_
  refine x_baX (v := (z_kl k).getD i 0) (n := i) dJ1_charAt_3b067_8 (fun U hU => ((hG U hU).2.2.1 k hk).2.2.2.2.2.2) (rfl) (hi) (by have := (z_kl_ok k hk).1; omega) (rfl) ?_
  refine x_sipush (v := 255) dJ1_charAt_3b067_9 (by decide) ?_
  refine x_iand dJ1_charAt_3b067_12 ?_
  refine x_i2c (v := (z_kl k).getD i 0) dJ1_charAt_3b067_13 (by rw [((z_kl_ok k hk).2 i hi).1]; rfl) ?_
  refine x_ireturn dJ1_charAt_3b067_14 rfl (((z_kl_ok k hk).2 i hi).2) ⟨Nat.le_refl _, Nat.le_refl _⟩ ?_
  exact ⟨rfl, rfl⟩
set_option maxHeartbeats 4000000 in
set_option maxRecDepth 100000 in
theorem c_charAt {G : x_G} {ad st vl : Nat → Nat} {kt : Nat × Option Nat} (hG : x_GS G ad st vl kt) (h : x_H) {k i : Nat} (hk : k < 17) (hi : i < (z_kl k).length) : x_Call G mJ0_charAt_5068e h [x_r (some (st k)), x_i (nI i)] (some (x_i ((z_kl k).getD i 0))) h := by
  refine x_Ex.call (x_enter mwJ0_charAt_5068e (Nat.le_of_ble_eq_true rfl) ?_)
  show x_E _ _ _ _ _ [(0, x_r (some (st k))), (1, x_i (nI i))] _ _
  refine x_aload_n (i := 0) (o := some (st k)) dJ0_charAt_5068e_0 rfl rfl ?_
  refine x_callE (a := st k) (av := []) (rest := []) (r := (some (x_i 1))) (h1 := h) dJ0_charAt_5068e_1 sJ0_charAt_5068e_492 (fun U hU => ((hG U hU).2.2.1 k hk).2.2.2.1) rfl rfl (Nat.le_of_ble_eq_true rfl) ⟨Nat.le_refl _, Nat.le_refl _⟩ (c_isLatin1 hG h hk) ?_
  show x_E _ _ _ _ 4 _ [x_i 1] _
  refine x_if_eq (tgt := 16) dJ0_charAt_5068e_4 (by decide) (fun c => absurd c (by decide)) (fun _ => ?_)
  refine x_aload_n (i := 0) (o := some (st k)) dJ0_charAt_5068e_7 rfl rfl ?_
  refine x_getX (v := x_r (some (vl k))) dJ0_charAt_5068e_8 fJ0_charAt_5068e_9 (fun U hU => ((hG U hU).2.2.1 k hk).2.2.2.2.1) ?_
  refine x_iload_n (i := 1) (x := nI i) dJ0_charAt_5068e_11 rfl rfl ?_
  refine x_callS (av := [x_r (some (vl k)), x_i (nI i)]) (rest := []) (r := (some (x_i ((z_kl k).getD i 0)))) (h1 := h) dJ0_charAt_5068e_12 sJ0_charAt_5068e_495 rfl rfl (Nat.le_of_ble_eq_true rfl) ⟨Nat.le_refl _, Nat.le_refl _⟩ (c_charAt1 hG h hk hi) ?_
  show x_E _ _ _ _ 15 _ [x_i ((z_kl k).getD i 0)] _
  refine x_ireturn dJ0_charAt_5068e_15 rfl (((z_kl_ok k hk).2 i hi).2) ⟨Nat.le_refl _, Nat.le_refl _⟩ ?_
  exact ⟨rfl, rfl⟩
set_option maxHeartbeats 4000000 in
set_option maxRecDepth 100000 in
theorem l_fill (G : x_G) {h : x_H} {a : Nat} (hk : x_kd h a = 20) (hl : x_ln h a < 2 ^ 31) (v : Int32) (Q : Option x_V → x_H → Prop) : ∀ (n i : Nat) (h1 : x_H), i ≤ x_ln h a → x_ln h a - i = n → x_F h h1 (fun _ _ => False) (fun b => b = a) → (∀ j, j < i → x_rw h1 a j = v) → (∀ h2, x_F h h2 (fun _ _ => False) (fun b => b = a) → (∀ j, j < x_ln h a → x_rw h2 a j = v) → Q none h2) → x_E G mJ7_fill_53178 (x_D G mJ7_fill_53178 h Q) h 5 [(0, x_r (some a)), (1, x_i v), (2, x_i (nI i)), (3, x_i (nI (x_ln h a)))] [] h1 := by
  intro n
  induction n with
  | zero =>
    intro i h1 hi hn hF hv hQ
    have ei : i = x_ln h a := by omega
    subst ei
    refine x_iload_n (i := 2) (x := nI (x_ln h a)) dJ7_fill_53178_5 rfl rfl ?_
    refine x_iload_n (i := 3) (x := nI (x_ln h a)) dJ7_fill_53178_6 rfl rfl ?_
    refine x_icmp_ge (tgt := 20) dJ7_fill_53178_7 (by decide) (fun c7 => ?_) (fun c7 => ?_)
    · skip
      refine x_return dJ7_fill_53178_20 rfl hF.le ?_
      exact hQ _ hF hv
    · skip
      exact absurd (nI_le (Nat.le_refl _) hl) c7
  | succ n ih =>
    intro i h1 hi hn hF hv hQ
    refine x_iload_n (i := 2) (x := nI i) dJ7_fill_53178_5 rfl rfl ?_
    refine x_iload_n (i := 3) (x := nI (x_ln h a)) dJ7_fill_53178_6 rfl rfl ?_
    refine x_icmp_ge (tgt := 20) dJ7_fill_53178_7 (by decide) (fun c7 => ?_) (fun c7 => ?_)
    · skip
      exact absurd ((nI_leI (by omega) (by omega)).mp c7) (by omega)
    · skip
      refine x_aload_n (i := 0) (o := some a) dJ7_fill_53178_10 rfl rfl ?_
      refine x_iload_n (i := 2) (x := nI i) dJ7_fill_53178_11 rfl rfl ?_
      refine x_iload_n (i := 1) (x := v) dJ7_fill_53178_12 rfl rfl ?_
      refine x_iastoreN (n := i) (v := v) dJ7_fill_53178_13 (by rw [hF.2.2.1]; exact hk) (rfl) (by rw [hF.2.2.2.2.1]; omega) (by rw [hF.2.2.2.2.1]; exact hl) (rfl) ?_
      refine x_iinc (i := 2) (x := nI i) (v := nI (i + 1)) (lv' := [(0, x_r (some a)), (1, x_i v), (2, x_i (nI (i + 1))), (3, x_i (nI (x_ln h a)))]) dJ7_fill_53178_14 rfl (nI_1 i) (by decide) rfl ?_
      refine x_goto (tgt := 5) dJ7_fill_53178_17 (by decide) ?_
      show x_E _ _ _ _ 5 _ _ _
      refine ih (i + 1) _ (by omega) (by omega) (hF.A rfl) (fun j hj => ?_) hQ
      rw [x_rw_sA]
      split
      · rfl
      · exact hv j (by omega)
set_option maxHeartbeats 4000000 in
set_option maxRecDepth 100000 in
theorem c_fill (G : x_G) {h : x_H} {a : Nat} (hk : x_kd h a = 20) (hl : x_ln h a < 2 ^ 31) (v : Int32) : x_Ex G mJ7_fill_53178 h [x_r (some a), x_i v] (fun r h2 => r = none ∧ x_F h h2 (fun _ _ => False) (fun b => b = a) ∧ ∀ j, j < x_ln h a → x_rw h2 a j = v) := by
  refine x_enter mwJ7_fill_53178 (Nat.le_of_ble_eq_true rfl) ?_
  show x_E _ _ _ _ _ [(0, x_r (some a)), (1, x_i v)] _ _
  refine x_iconst (v := 0) dJ7_fill_53178_0 (by decide) ?_
  refine x_istore_n (i := 2) (lv' := [(0, x_r (some a)), (1, x_i v), (2, x_i 0)]) dJ7_fill_53178_1 rfl (by decide) rfl ?_
  refine x_aload_n (i := 0) (o := some a) dJ7_fill_53178_2 rfl rfl ?_
  refine x_alen (kd := 20) (t0 := 0) dJ7_fill_53178_3 hk (by omega) (by omega) rfl ?_
  refine x_istore_n (i := 3) (lv' := [(0, x_r (some a)), (1, x_i v), (2, x_i 0), (3, x_i (nI (x_ln h a)))]) dJ7_fill_53178_4 rfl (by decide) rfl ?_
  show x_E _ _ _ _ 5 _ _ _
  exact l_fill G hk hl v _ _ 0 h (Nat.zero_le _) rfl x_F.rf (fun _ z => absurd z (Nat.not_lt_zero _)) (fun h2 a b => ⟨rfl, a, b⟩)
