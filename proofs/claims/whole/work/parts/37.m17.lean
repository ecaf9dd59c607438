/-! THE REFERENCE: stateOfSum, judge -/
theorem m_X.F {h h1 : x_H} {m : Nat} {X : z_X} (hX : m_X h m X) {P : Nat → Nat → Prop} {S : Nat → Prop} (hF : x_F h h1 P S) (h5 : ¬ P 1018 m) (hr : ∀ a, S a → a < m + 10 ∨ m + 13 < a) : m_X h1 m X := by
  obtain ⟨a1, a2, a3⟩ := hX
  refine ⟨?_, ?_, (hF.fi h5).trans a3⟩
  · rw [hF.rw (fun z => by have := hr _ z; omega), hF.rw (fun z => by have := hr _ z; omega), hF.rw (fun z => by have := hr _ z; omega)]
    exact a1
  · rw [hF.rw (fun z => by have := hr _ z; omega)]
    exact a2
theorem q_cp {C : Nat → Int32} {b : Nat} : ∀ {f k : Nat}, q_more C f k = (true, b) → q_cmp C (z_cp C f k) = (true, b)
  | f, k, h => by
    rcases q_more_c h with ⟨h1, g, rfl, h3, h4⟩ | ⟨h1, h2, h3⟩
    · rw [show z_cp C (g + 1) k = z_cp C g (z_te C k) from if_pos h1]
      exact q_cp h4
    · have : z_cp C f k = k := by
        cases f with
        | zero => rfl
        | succ g => exact if_neg (fun z => by rcases z with z | z; exact h1 z; exact h2 z)
      rw [this]
      exact h3
theorem q_sum_more {C : Nat → Int32} {f k b : Nat} (h : q_sum C f k = (true, b)) : q_more C f k = (true, b) := by
  unfold q_more
  split
  · exact h
  · split
    · exact h
    · rename_i h1 h2
      cases f with
      | zero => cases h
      | succ f =>
        rw [q_sum_s] at h
        have : q_term C k = (false, k) := by unfold q_term; rw [if_neg h1, if_neg h2]
        rw [this] at h
        cases h
theorem q_cmp_c {C : Nat → Int32} {k b : Nat} (h : q_cmp C k = (true, b)) : (C k = -12 ∨ (¬ C k = -12 ∧ C k = -13)) ∧ q_n C 0 999999999 (k + 1) := by
  unfold q_cmp at h
  split at h
  · rename_i h1
    split at h
    · rename_i h2; exact ⟨Or.inl h1, h2⟩
    · cases h
  · rename_i h0
    split at h
    · rename_i h1
      split at h
      · rename_i h2; exact ⟨Or.inr ⟨h0, h1⟩, h2⟩
      · cases h
    · cases h
theorem c_addF (G : x_G) {h : x_H} {m : Nat} {l : List (Nat × Nat)} {C : Nat → Int32} (hK : m_K h m l C) {X : z_X} (hX : m_X h m X) (part : Int32) (high : Bool) {F p b : Nat} (hq : q_sum C F (p + 1) = (true, b)) : x_Ex G mX10_add h [x_r (some m), x_i (nI p), x_i (if high = true then 1 else 0), x_i part] (fun r h' => r = none ∧ x_F h h' (fun i a => a = m ∧ (i = 1026 ∨ i = 1027 ∨ i = 1028)) (fun _ => False) ∧ x_fl h' 1026 m = z_tot X C high part (z_tms C F (p + 1)) 0 ∧ x_fi h' 1027 m = z_lks X C (z_tms C F (p + 1)) (-1) ∧ x_fi h' 1028 m = nI (z_cp C F (p + 1))) := by
  refine ⟨_, _, ⟨rfl, ?_, ?_, ?_, ?_⟩, c_add G hK hX part high hq⟩
  · exact ((m_L_F h m _ _).mono (fun i a z => ⟨z.1, by omega⟩) (fun _ z => z)).I ⟨rfl, by omega⟩
  · exact m_L_tt h m _ (z_lks X C (z_tms C F (p + 1)) (-1))
  · rw [x_fi_sI, if_neg (by omega)]
    exact m_L_lk h m _ _
  · rw [x_fi_sI, if_pos ⟨rfl, rfl⟩]
theorem z_lks_nn {X : z_X} {C : Nat → Int32} : ∀ {L : List Nat} {v : Int32}, (∀ a ∈ L, z_tk C a) ∧ (v = -1 ∨ 0 ≤ v) → ¬ z_lks X C L v = -1 → 0 ≤ z_lks X C L v
  | [], v, h, hn => by
    rcases h.2 with z | z
    · exact absurd z hn
    · exact z
  | a :: L, v, h, hn => by
    refine z_lks_nn (L := L) (v := if v = -1 then z_lk X C a else v) ⟨fun b hb => h.1 b (List.mem_cons_of_mem _ hb), ?_⟩ hn
    split
    · have hk := h.1 a List.mem_cons_self
      have hp := z_pt_eq hk.2.2.1
      unfold z_lk
      split
      · exact Or.inr hk.2.2.1.1
      · split
        · rw [hp.1]
          exact Or.inr (nI_add 200 _ ▸ nI_pos' (by omega))
        · exact Or.inl rfl
    · rename_i hv
      rcases h.2 with z | z
      · exact absurd z hv
      · exact Or.inr z
theorem z_tms_tk {C : Nat → Int32} {b : Nat} : ∀ {f k : Nat}, q_more C f k = (true, b) → ∀ a ∈ z_tms C f k, z_tk C a
  | f, k, h, a, ha => by
    rcases q_more_c h with ⟨h1, g, rfl, h3, h4⟩ | ⟨h1, h2, h3⟩
    · rw [show z_tms C (g + 1) k = k :: z_tms C g (z_te C k) from if_pos h1] at ha
      rcases List.mem_cons.mp ha with rfl | ha
      · exact h3
      · exact z_tms_tk h4 a ha
    · have : z_tms C f k = [] := by
        cases f with
        | zero => rfl
        | succ g => exact if_neg (fun z => by rcases z with z | z; exact h1 z; exact h2 z)
      rw [this] at ha
      cases ha
set_option maxHeartbeats 4000000 in
set_option maxRecDepth 100000 in
theorem c_stateOfSum (G : x_G) {h : x_H} {m : Nat} {l : List (Nat × Nat)} {C : Nat → Int32} (hK : m_K h m l C) {X : z_X} (hX : m_X h m X) {p b : Nat} (hq : q_sum C 1501 (p + 1) = (true, b)) : x_Ex G mX10_stateOfSum h [x_r (some m), x_i (nI p)] (fun r h' => r = some (x_i (z_st (z_vs X C p))) ∧ x_F h h' (fun i a => a = m ∧ (i = 1026 ∨ i = 1027 ∨ i = 1028)) (fun _ => False) ∧ (0 ≤ z_vs X C p → x_fi h' 1027 m = z_vs X C p) ∧ (z_vs X C p = -2 ∨ z_vs X C p = -3 ∨ 0 ≤ z_vs X C p)) := by
  have hll := hK.ll
  have hm := q_sum_more hq
  have hks : (∀ a ∈ z_tms C 1501 (p + 1), z_tk C a) ∧ ((-1 : Int32) = -1 ∨ 0 ≤ (-1 : Int32)) := ⟨z_tms_tk hm, Or.inl rfl⟩
  obtain ⟨hcc, hcn⟩ := q_cmp_c (q_cp hm)
  have hcl := hK.N.n hcn
  refine x_enter mwX10_stateOfSum (Nat.le_of_ble_eq_true rfl) ?_
  show x_E _ _ _ _ _ [(0, x_r (some m)), (1, x_i (nI p))] _ _
  refine x_aload_n (i := 0) (o := some m) dX10_stateOfSum_0 rfl rfl ?_
  refine x_iload_n (i := 1) (x := nI p) dX10_stateOfSum_1 rfl rfl ?_
  refine x_iconst (v := 1) dX10_stateOfSum_2 (by decide) ?_
  refine x_iconst (v := (-1)) dX10_stateOfSum_3 (by decide) ?_
  obtain ⟨_, h1, ⟨rfl, hF1, -, hl1, hc1⟩, hca⟩ := c_addF G hK hX (-1) true hq
  have hK1 := hK.F hF1 (by omega) (fun z => z) (fun z => z) (fun z => z)
  have hX1 := hX.F hF1 (by omega) (fun _ z => z.elim)
  refine x_callV (a := m) (av := [x_i (nI p), x_i 1, x_i ((-1))]) (rest := []) (r := none) (h1 := h1) dX10_stateOfSum_4 sX10_stateOfSum_194 (by first | exact mPk_0 hK.1 | exact mPk_0 (hF1.pm hK.1) | exact mPk_0 (hF2.pm hK.1)) rfl rfl (Nat.le_of_ble_eq_true rfl) ⟨Nat.le_refl _, Nat.le_refl _⟩ (hca) ?_
  show x_E _ _ _ _ 7 _ [] _
  refine x_aload_n (i := 0) (o := some m) dX10_stateOfSum_7 rfl rfl ?_
  refine x_getIv (v := z_lks X C (z_tms C 1501 (p + 1)) (-1)) dX10_stateOfSum_8 fX10_stateOfSum_188 (i := 1027) rfl rfl (by first | exact mPk_0 hK.1 | exact mPk_0 (hF1.pm hK.1) | exact mPk_0 (hF2.pm hK.1)) (hl1) ?_
  refine x_iconst (v := (-1)) dX10_stateOfSum_11 (by decide) ?_
  refine x_icmp_eq (tgt := 17) dX10_stateOfSum_12 (by decide) (fun c12 => ?_) (fun c12 => ?_)
  · skip
    refine x_aload_n (i := 0) (o := some m) dX10_stateOfSum_17 rfl rfl ?_
    refine x_aload_n (i := 0) (o := some m) dX10_stateOfSum_18 rfl rfl ?_
    refine x_getIv (v := nI (z_cp C 1501 (p + 1))) dX10_stateOfSum_19 fX10_stateOfSum_191 (i := 1028) rfl rfl (by first | exact mPk_0 hK.1 | exact mPk_0 (hF1.pm hK.1) | exact mPk_0 (hF2.pm hK.1)) (hc1) ?_
    refine x_ldc2 (v := 6164997490) dX10_stateOfSum_22 kX10_stateOfSum_120 ?_
    by_cases q12 : C (z_cp C 1501 (p + 1)) = -12
    · skip
      refine x_callV (a := m) (av := [x_i (nI (z_cp C 1501 (p + 1))), x_l 6164997490]) (rest := []) (r := (some (x_i 1))) (h1 := h1) dX10_stateOfSum_25 sX10_stateOfSum_168 (by first | exact mPk_0 hK.1 | exact mPk_0 (hF1.pm hK.1) | exact mPk_0 (hF2.pm hK.1)) rfl rfl (Nat.le_of_ble_eq_true rfl) hF1.le (k_has_t G hK1 (by omega) z_K_over q12) ?_
      show x_E _ _ _ _ 28 _ [x_i 1] _
      refine x_istore_n (i := 2) (lv' := [(0, x_r (some m)), (1, x_i (nI p)), (2, x_i 1)]) dX10_stateOfSum_28 rfl (by decide) rfl ?_
      refine x_aload_n (i := 0) (o := some m) dX10_stateOfSum_29 rfl rfl ?_
      refine x_iload_n (i := 1) (x := nI p) dX10_stateOfSum_30 rfl rfl ?_
      refine x_iload_n (i := 2) (x := 1) dX10_stateOfSum_31 rfl rfl ?_
      refine x_aload_n (i := 0) (o := some m) dX10_stateOfSum_32 rfl rfl ?_
      refine x_getIv (v := if X.2.2.2.2 = true then 1 else 0) dX10_stateOfSum_33 fX10_stateOfSum_51 (i := 1018) rfl rfl (by first | exact mPk_0 hK.1 | exact mPk_0 (hF1.pm hK.1) | exact mPk_0 (hF2.pm hK.1)) (hX1.2.2) ?_
      refine x_icmp_ne (tgt := 43) dX10_stateOfSum_36 (by decide) (fun c36 => ?_) (fun c36 => ?_)
      · skip
        have es : X.2.2.2.2 = false := by
          cases hx : X.2.2.2.2 <;> simp [hx] at c36 ⊢
        refine x_iconst (v := 0) dX10_stateOfSum_43 (by decide) ?_
        refine x_iconst (v := (-1)) dX10_stateOfSum_44 (by decide) ?_
        obtain ⟨_, h2, ⟨rfl, hF2a, ht2, hl2, hc2⟩, hcb⟩ := c_addF G hK1 hX1 (-1) false hq
        have hF2 : x_F h h2 (fun i a => a = m ∧ (i = 1026 ∨ i = 1027 ∨ i = 1028)) (fun _ => False) := hF1.tr hF2a (fun _ _ z => z) (fun _ _ z => z) (fun _ z => z) (fun _ z => z)
        have hK2 := hK.F hF2 (by omega) (fun z => z) (fun z => z) (fun z => z)
        refine x_callV (a := m) (av := [x_i (nI p), x_i 0, x_i ((-1))]) (rest := []) (r := none) (h1 := h2) dX10_stateOfSum_45 sX10_stateOfSum_194 (by first | exact mPk_0 hK.1 | exact mPk_0 (hF1.pm hK.1) | exact mPk_0 (hF2.pm hK.1)) rfl rfl (Nat.le_of_ble_eq_true rfl) hF1.le (hcb) ?_
        show x_E _ _ _ _ 48 _ [] _
        refine x_aload_n (i := 0) (o := some m) dX10_stateOfSum_48 rfl rfl ?_
        refine x_aload_n (i := 0) (o := some m) dX10_stateOfSum_49 rfl rfl ?_
        refine x_getIv (v := nI (z_cp C 1501 (p + 1))) dX10_stateOfSum_50 fX10_stateOfSum_191 (i := 1028) rfl rfl (by first | exact mPk_0 hK.1 | exact mPk_0 (hF1.pm hK.1) | exact mPk_0 (hF2.pm hK.1)) (hc2) ?_
        refine x_iconst (v := 1) dX10_stateOfSum_53 (by decide) ?_
        refine x_iadd dX10_stateOfSum_54 ?_
        rw [show (nI (z_cp C 1501 (p + 1))) + 1 = nI (z_cp C 1501 (p + 1) + 1) from nI_1 _]
        refine x_callV (a := m) (av := [x_i (nI (z_cp C 1501 (p + 1) + 1))]) (rest := []) (r := (some (x_i (C (z_cp C 1501 (p + 1) + 1))))) (h1 := h2) dX10_stateOfSum_55 sX10_stateOfSum_172 (by first | exact mPk_0 hK.1 | exact mPk_0 (hF1.pm hK.1) | exact mPk_0 (hF2.pm hK.1)) rfl rfl (Nat.le_of_ble_eq_true rfl) hF2.le (k_num G hK2 hcn.1) ?_
        show x_E _ _ _ _ 58 _ [x_i (C (z_cp C 1501 (p + 1) + 1))] _
        refine x_istore_n (i := 3) (lv' := [(0, x_r (some m)), (1, x_i (nI p)), (2, x_i 1), (3, x_i (C (z_cp C 1501 (p + 1) + 1)))]) dX10_stateOfSum_58 rfl (by decide) rfl ?_
        refine x_iload_n (i := 2) (x := 1) dX10_stateOfSum_59 rfl rfl ?_
        refine x_if_eq (tgt := 81) dX10_stateOfSum_60 (by decide) (fun c => absurd c (by decide)) (fun _ => ?_)
        refine x_aload_n (i := 0) (o := some m) dX10_stateOfSum_63 rfl rfl ?_
        refine x_getLv (v := x_fl h2 1026 m) dX10_stateOfSum_64 fX10_stateOfSum_184 (i := 1026) rfl rfl (by first | exact mPk_0 hK.1 | exact mPk_0 (hF1.pm hK.1) | exact mPk_0 (hF2.pm hK.1)) (rfl) ?_
        refine x_iload_n (i := 3) (x := C (z_cp C 1501 (p + 1) + 1)) dX10_stateOfSum_67 rfl rfl ?_
        refine x_i2l dX10_stateOfSum_68 ?_
        refine x_lcmp dX10_stateOfSum_69 ?_
        refine x_if_le (tgt := 77) dX10_stateOfSum_70 (by decide) (fun c70 => ?_) (fun c70 => ?_)
        · skip
          refine x_iconst (v := 0) dX10_stateOfSum_77 (by decide) ?_
          refine x_goto (tgt := 96) dX10_stateOfSum_78 (by decide) ?_
          refine x_ireturn dX10_stateOfSum_96 rfl (rfl) hF2.le ?_
          have es3 : false = (X.2.2.2.2) := by rw [es] <;> rfl
          have ev : z_vs X C p = -3 := by
            unfold z_vs
            rw [if_pos c12]
            rw [if_pos q12, ← es3]
            rw [ht2] at c70
            rw [if_neg (Int64.not_lt.mpr ((lg_cmp_le _ _).mp c70))]
          exact ⟨by rw [ev]; rfl, hF2, fun z => by rw [ev] at z; exact absurd z (by decide), by rw [ev]; exact Or.inr (Or.inl rfl)⟩
        · skip
          refine x_iconst (v := 1) dX10_stateOfSum_73 (by decide) ?_
          refine x_goto (tgt := 96) dX10_stateOfSum_74 (by decide) ?_
          refine x_ireturn dX10_stateOfSum_96 rfl (rfl) hF2.le ?_
          have es3 : false = (X.2.2.2.2) := by rw [es] <;> rfl
          have ev : z_vs X C p = -2 := by
            unfold z_vs
            rw [if_pos c12]
            rw [if_pos q12, ← es3]
            rw [ht2] at c70
            rw [if_pos (Int64.not_le.mp fun z => c70 ((lg_cmp_le _ _).mpr z))]
          exact ⟨by rw [ev]; rfl, hF2, fun z => by rw [ev] at z; exact absurd z (by decide), by rw [ev]; exact Or.inl rfl⟩
      · skip
        have es : X.2.2.2.2 = true := by
          cases hx : X.2.2.2.2 <;> simp [hx] at c36 ⊢
        refine x_iconst (v := 1) dX10_stateOfSum_39 (by decide) ?_
        refine x_goto (tgt := 44) dX10_stateOfSum_40 (by decide) ?_
        refine x_iconst (v := (-1)) dX10_stateOfSum_44 (by decide) ?_
        obtain ⟨_, h2, ⟨rfl, hF2a, ht2, hl2, hc2⟩, hcb⟩ := c_addF G hK1 hX1 (-1) true hq
        have hF2 : x_F h h2 (fun i a => a = m ∧ (i = 1026 ∨ i = 1027 ∨ i = 1028)) (fun _ => False) := hF1.tr hF2a (fun _ _ z => z) (fun _ _ z => z) (fun _ z => z) (fun _ z => z)
        have hK2 := hK.F hF2 (by omega) (fun z => z) (fun z => z) (fun z => z)
        refine x_callV (a := m) (av := [x_i (nI p), x_i 1, x_i ((-1))]) (rest := []) (r := none) (h1 := h2) dX10_stateOfSum_45 sX10_stateOfSum_194 (by first | exact mPk_0 hK.1 | exact mPk_0 (hF1.pm hK.1) | exact mPk_0 (hF2.pm hK.1)) rfl rfl (Nat.le_of_ble_eq_true rfl) hF1.le (hcb) ?_
        show x_E _ _ _ _ 48 _ [] _
        refine x_aload_n (i := 0) (o := some m) dX10_stateOfSum_48 rfl rfl ?_
        refine x_aload_n (i := 0) (o := some m) dX10_stateOfSum_49 rfl rfl ?_
        refine x_getIv (v := nI (z_cp C 1501 (p + 1))) dX10_stateOfSum_50 fX10_stateOfSum_191 (i := 1028) rfl rfl (by first | exact mPk_0 hK.1 | exact mPk_0 (hF1.pm hK.1) | exact mPk_0 (hF2.pm hK.1)) (hc2) ?_
        refine x_iconst (v := 1) dX10_stateOfSum_53 (by decide) ?_
        refine x_iadd dX10_stateOfSum_54 ?_
        rw [show (nI (z_cp C 1501 (p + 1))) + 1 = nI (z_cp C 1501 (p + 1) + 1) from nI_1 _]
        refine x_callV (a := m) (av := [x_i (nI (z_cp C 1501 (p + 1) + 1))]) (rest := []) (r := (some (x_i (C (z_cp C 1501 (p + 1) + 1))))) (h1 := h2) dX10_stateOfSum_55 sX10_stateOfSum_172 (by first | exact mPk_0 hK.1 | exact mPk_0 (hF1.pm hK.1) | exact mPk_0 (hF2.pm hK.1)) rfl rfl (Nat.le_of_ble_eq_true rfl) hF2.le (k_num G hK2 hcn.1) ?_
        show x_E _ _ _ _ 58 _ [x_i (C (z_cp C 1501 (p + 1) + 1))] _
        refine x_istore_n (i := 3) (lv' := [(0, x_r (some m)), (1, x_i (nI p)), (2, x_i 1), (3, x_i (C (z_cp C 1501 (p + 1) + 1)))]) dX10_stateOfSum_58 rfl (by decide) rfl ?_
        refine x_iload_n (i := 2) (x := 1) dX10_stateOfSum_59 rfl rfl ?_
        refine x_if_eq (tgt := 81) dX10_stateOfSum_60 (by decide) (fun c => absurd c (by decide)) (fun _ => ?_)
        refine x_aload_n (i := 0) (o := some m) dX10_stateOfSum_63 rfl rfl ?_
        refine x_getLv (v := x_fl h2 1026 m) dX10_stateOfSum_64 fX10_stateOfSum_184 (i := 1026) rfl rfl (by first | exact mPk_0 hK.1 | exact mPk_0 (hF1.pm hK.1) | exact mPk_0 (hF2.pm hK.1)) (rfl) ?_
        refine x_iload_n (i := 3) (x := C (z_cp C 1501 (p + 1) + 1)) dX10_stateOfSum_67 rfl rfl ?_
        refine x_i2l dX10_stateOfSum_68 ?_
        refine x_lcmp dX10_stateOfSum_69 ?_
        refine x_if_le (tgt := 77) dX10_stateOfSum_70 (by decide) (fun c70 => ?_) (fun c70 => ?_)
        · skip
          refine x_iconst (v := 0) dX10_stateOfSum_77 (by decide) ?_
          refine x_goto (tgt := 96) dX10_stateOfSum_78 (by decide) ?_
          refine x_ireturn dX10_stateOfSum_96 rfl (rfl) hF2.le ?_
          have es3 : true = (X.2.2.2.2) := by rw [es] <;> rfl
          have ev : z_vs X C p = -3 := by
            unfold z_vs
            rw [if_pos c12]
            rw [if_pos q12, ← es3]
            rw [ht2] at c70
            rw [if_neg (Int64.not_lt.mpr ((lg_cmp_le _ _).mp c70))]
          exact ⟨by rw [ev]; rfl, hF2, fun z => by rw [ev] at z; exact absurd z (by decide), by rw [ev]; exact Or.inr (Or.inl rfl)⟩
        · skip
          refine x_iconst (v := 1) dX10_stateOfSum_73 (by decide) ?_
          refine x_goto (tgt := 96) dX10_stateOfSum_74 (by decide) ?_
          refine x_ireturn dX10_stateOfSum_96 rfl (rfl) hF2.le ?_
          have es3 : true = (X.2.2.2.2) := by rw [es] <;> rfl
          have ev : z_vs X C p = -2 := by
            unfold z_vs
            rw [if_pos c12]
            rw [if_pos q12, ← es3]
            rw [ht2] at c70
            rw [if_pos (Int64.not_le.mp fun z => c70 ((lg_cmp_le _ _).mpr z))]
          exact ⟨by rw [ev]; rfl, hF2, fun z => by rw [ev] at z; exact absurd z (by decide), by rw [ev]; exact Or.inl rfl⟩
    · skip
      refine x_callV (a := m) (av := [x_i (nI (z_cp C 1501 (p + 1))), x_l 6164997490]) (rest := []) (r := (some (x_i 0))) (h1 := h1) dX10_stateOfSum_25 sX10_stateOfSum_168 (by first | exact mPk_0 hK.1 | exact mPk_0 (hF1.pm hK.1) | exact mPk_0 (hF2.pm hK.1)) rfl rfl (Nat.le_of_ble_eq_true rfl) hF1.le (k_has_f G hK1 (by omega) z_K_over q12) ?_
      show x_E _ _ _ _ 28 _ [x_i 0] _
      refine x_istore_n (i := 2) (lv' := [(0, x_r (some m)), (1, x_i (nI p)), (2, x_i 0)]) dX10_stateOfSum_28 rfl (by decide) rfl ?_
      refine x_aload_n (i := 0) (o := some m) dX10_stateOfSum_29 rfl rfl ?_
      refine x_iload_n (i := 1) (x := nI p) dX10_stateOfSum_30 rfl rfl ?_
      refine x_iload_n (i := 2) (x := 0) dX10_stateOfSum_31 rfl rfl ?_
      refine x_aload_n (i := 0) (o := some m) dX10_stateOfSum_32 rfl rfl ?_
      refine x_getIv (v := if X.2.2.2.2 = true then 1 else 0) dX10_stateOfSum_33 fX10_stateOfSum_51 (i := 1018) rfl rfl (by first | exact mPk_0 hK.1 | exact mPk_0 (hF1.pm hK.1) | exact mPk_0 (hF2.pm hK.1)) (hX1.2.2) ?_
      refine x_icmp_ne (tgt := 43) dX10_stateOfSum_36 (by decide) (fun c36 => ?_) (fun c36 => ?_)
      · skip
        have es : X.2.2.2.2 = true := by
          cases hx : X.2.2.2.2 <;> simp [hx] at c36 ⊢
        refine x_iconst (v := 0) dX10_stateOfSum_43 (by decide) ?_
        refine x_iconst (v := (-1)) dX10_stateOfSum_44 (by decide) ?_
        obtain ⟨_, h2, ⟨rfl, hF2a, ht2, hl2, hc2⟩, hcb⟩ := c_addF G hK1 hX1 (-1) false hq
        have hF2 : x_F h h2 (fun i a => a = m ∧ (i = 1026 ∨ i = 1027 ∨ i = 1028)) (fun _ => False) := hF1.tr hF2a (fun _ _ z => z) (fun _ _ z => z) (fun _ z => z) (fun _ z => z)
        have hK2 := hK.F hF2 (by omega) (fun z => z) (fun z => z) (fun z => z)
        refine x_callV (a := m) (av := [x_i (nI p), x_i 0, x_i ((-1))]) (rest := []) (r := none) (h1 := h2) dX10_stateOfSum_45 sX10_stateOfSum_194 (by first | exact mPk_0 hK.1 | exact mPk_0 (hF1.pm hK.1) | exact mPk_0 (hF2.pm hK.1)) rfl rfl (Nat.le_of_ble_eq_true rfl) hF1.le (hcb) ?_
        show x_E _ _ _ _ 48 _ [] _
        refine x_aload_n (i := 0) (o := some m) dX10_stateOfSum_48 rfl rfl ?_
        refine x_aload_n (i := 0) (o := some m) dX10_stateOfSum_49 rfl rfl ?_
        refine x_getIv (v := nI (z_cp C 1501 (p + 1))) dX10_stateOfSum_50 fX10_stateOfSum_191 (i := 1028) rfl rfl (by first | exact mPk_0 hK.1 | exact mPk_0 (hF1.pm hK.1) | exact mPk_0 (hF2.pm hK.1)) (hc2) ?_
        refine x_iconst (v := 1) dX10_stateOfSum_53 (by decide) ?_
        refine x_iadd dX10_stateOfSum_54 ?_
        rw [show (nI (z_cp C 1501 (p + 1))) + 1 = nI (z_cp C 1501 (p + 1) + 1) from nI_1 _]
        refine x_callV (a := m) (av := [x_i (nI (z_cp C 1501 (p + 1) + 1))]) (rest := []) (r := (some (x_i (C (z_cp C 1501 (p + 1) + 1))))) (h1 := h2) dX10_stateOfSum_55 sX10_stateOfSum_172 (by first | exact mPk_0 hK.1 | exact mPk_0 (hF1.pm hK.1) | exact mPk_0 (hF2.pm hK.1)) rfl rfl (Nat.le_of_ble_eq_true rfl) hF2.le (k_num G hK2 hcn.1) ?_
        show x_E _ _ _ _ 58 _ [x_i (C (z_cp C 1501 (p + 1) + 1))] _
        refine x_istore_n (i := 3) (lv' := [(0, x_r (some m)), (1, x_i (nI p)), (2, x_i 0), (3, x_i (C (z_cp C 1501 (p + 1) + 1)))]) dX10_stateOfSum_58 rfl (by decide) rfl ?_
        refine x_iload_n (i := 2) (x := 0) dX10_stateOfSum_59 rfl rfl ?_
        refine x_if_eq (tgt := 81) dX10_stateOfSum_60 (by decide) (fun _ => ?_) (fun c => absurd (by decide) c)
        refine x_aload_n (i := 0) (o := some m) dX10_stateOfSum_81 rfl rfl ?_
        refine x_getLv (v := x_fl h2 1026 m) dX10_stateOfSum_82 fX10_stateOfSum_184 (i := 1026) rfl rfl (by first | exact mPk_0 hK.1 | exact mPk_0 (hF1.pm hK.1) | exact mPk_0 (hF2.pm hK.1)) (rfl) ?_
        refine x_iload_n (i := 3) (x := C (z_cp C 1501 (p + 1) + 1)) dX10_stateOfSum_85 rfl rfl ?_
        refine x_i2l dX10_stateOfSum_86 ?_
        refine x_lcmp dX10_stateOfSum_87 ?_
        refine x_if_ge (tgt := 95) dX10_stateOfSum_88 (by decide) (fun c88 => ?_) (fun c88 => ?_)
        · skip
          refine x_iconst (v := 0) dX10_stateOfSum_95 (by decide) ?_
          refine x_ireturn dX10_stateOfSum_96 rfl (rfl) hF2.le ?_
          have es3 : false = (!X.2.2.2.2) := by rw [es] <;> rfl
          have ev : z_vs X C p = -3 := by
            unfold z_vs
            rw [if_pos c12]
            rw [if_neg q12, ← es3]
            rw [ht2] at c88
            rw [if_neg (Int64.not_lt.mpr ((lg_cmp_ge _ _).mp c88))]
          exact ⟨by rw [ev]; rfl, hF2, fun z => by rw [ev] at z; exact absurd z (by decide), by rw [ev]; exact Or.inr (Or.inl rfl)⟩
        · skip
          refine x_iconst (v := 1) dX10_stateOfSum_91 (by decide) ?_
          refine x_goto (tgt := 96) dX10_stateOfSum_92 (by decide) ?_
          refine x_ireturn dX10_stateOfSum_96 rfl (rfl) hF2.le ?_
          have es3 : false = (!X.2.2.2.2) := by rw [es] <;> rfl
          have ev : z_vs X C p = -2 := by
            unfold z_vs
            rw [if_pos c12]
            rw [if_neg q12, ← es3]
            rw [ht2] at c88
            rw [if_pos (Int64.not_le.mp fun z => c88 ((lg_cmp_ge _ _).mpr z))]
          exact ⟨by rw [ev]; rfl, hF2, fun z => by rw [ev] at z; exact absurd z (by decide), by rw [ev]; exact Or.inl rfl⟩
      · skip
        have es : X.2.2.2.2 = false := by
          cases hx : X.2.2.2.2 <;> simp [hx] at c36 ⊢
        refine x_iconst (v := 1) dX10_stateOfSum_39 (by decide) ?_
        refine x_goto (tgt := 44) dX10_stateOfSum_40 (by decide) ?_
        refine x_iconst (v := (-1)) dX10_stateOfSum_44 (by decide) ?_
        obtain ⟨_, h2, ⟨rfl, hF2a, ht2, hl2, hc2⟩, hcb⟩ := c_addF G hK1 hX1 (-1) true hq
        have hF2 : x_F h h2 (fun i a => a = m ∧ (i = 1026 ∨ i = 1027 ∨ i = 1028)) (fun _ => False) := hF1.tr hF2a (fun _ _ z => z) (fun _ _ z => z) (fun _ z => z) (fun _ z => z)
        have hK2 := hK.F hF2 (by omega) (fun z => z) (fun z => z) (fun z => z)
        refine x_callV (a := m) (av := [x_i (nI p), x_i 1, x_i ((-1))]) (rest := []) (r := none) (h1 := h2) dX10_stateOfSum_45 sX10_stateOfSum_194 (by first | exact mPk_0 hK.1 | exact mPk_0 (hF1.pm hK.1) | exact mPk_0 (hF2.pm hK.1)) rfl rfl (Nat.le_of_ble_eq_true rfl) hF1.le (hcb) ?_
        show x_E _ _ _ _ 48 _ [] _
        refine x_aload_n (i := 0) (o := some m) dX10_stateOfSum_48 rfl rfl ?_
        refine x_aload_n (i := 0) (o := some m) dX10_stateOfSum_49 rfl rfl ?_
        refine x_getIv (v := nI (z_cp C 1501 (p + 1))) dX10_stateOfSum_50 fX10_stateOfSum_191 (i := 1028) rfl rfl (by first | exact mPk_0 hK.1 | exact mPk_0 (hF1.pm hK.1) | exact mPk_0 (hF2.pm hK.1)) (hc2) ?_
        refine x_iconst (v := 1) dX10_stateOfSum_53 (by decide) ?_
        refine x_iadd dX10_stateOfSum_54 ?_
        rw [show (nI (z_cp C 1501 (p + 1))) + 1 = nI (z_cp C 1501 (p + 1) + 1) from nI_1 _]
        refine x_callV (a := m) (av := [x_i (nI (z_cp C 1501 (p + 1) + 1))]) (rest := []) (r := (some (x_i (C (z_cp C 1501 (p + 1) + 1))))) (h1 := h2) dX10_stateOfSum_55 sX10_stateOfSum_172 (by first | exact mPk_0 hK.1 | exact mPk_0 (hF1.pm hK.1) | exact mPk_0 (hF2.pm hK.1)) rfl rfl (Nat.le_of_ble_eq_true rfl) hF2.le (k_num G hK2 hcn.1) ?_
        show x_E _ _ _ _ 58 _ [x_i (C (z_cp C 1501 (p + 1) + 1))] _
        refine x_istore_n (i := 3) (lv' := [(0, x_r (some m)), (1, x_i (nI p)), (2, x_i 0), (3, x_i (C (z_cp C 1501 (p + 1) + 1)))]) dX10_stateOfSum_58 rfl (by decide) rfl ?_
        refine x_iload_n (i := 2) (x := 0) dX10_stateOfSum_59 rfl rfl ?_
        refine x_if_eq (tgt := 81) dX10_stateOfSum_60 (by decide) (fun _ => ?_) (fun c => absurd (by decide) c)
        refine x_aload_n (i := 0) (o := some m) dX10_stateOfSum_81 rfl rfl ?_
        refine x_getLv (v := x_fl h2 1026 m) dX10_stateOfSum_82 fX10_stateOfSum_184 (i := 1026) rfl rfl (by first | exact mPk_0 hK.1 | exact mPk_0 (hF1.pm hK.1) | exact mPk_0 (hF2.pm hK.1)) (rfl) ?_
        refine x_iload_n (i := 3) (x := C (z_cp C 1501 (p + 1) + 1)) dX10_stateOfSum_85 rfl rfl ?_
        refine x_i2l dX10_stateOfSum_86 ?_
        refine x_lcmp dX10_stateOfSum_87 ?_
        refine x_if_ge (tgt := 95) dX10_stateOfSum_88 (by decide) (fun c88 => ?_) (fun c88 => ?_)
        · skip
          refine x_iconst (v := 0) dX10_stateOfSum_95 (by decide) ?_
          refine x_ireturn dX10_stateOfSum_96 rfl (rfl) hF2.le ?_
          have es3 : true = (!X.2.2.2.2) := by rw [es] <;> rfl
          have ev : z_vs X C p = -3 := by
            unfold z_vs
            rw [if_pos c12]
            rw [if_neg q12, ← es3]
            rw [ht2] at c88
            rw [if_neg (Int64.not_lt.mpr ((lg_cmp_ge _ _).mp c88))]
          exact ⟨by rw [ev]; rfl, hF2, fun z => by rw [ev] at z; exact absurd z (by decide), by rw [ev]; exact Or.inr (Or.inl rfl)⟩
        · skip
          refine x_iconst (v := 1) dX10_stateOfSum_91 (by decide) ?_
          refine x_goto (tgt := 96) dX10_stateOfSum_92 (by decide) ?_
          refine x_ireturn dX10_stateOfSum_96 rfl (rfl) hF2.le ?_
          have es3 : true = (!X.2.2.2.2) := by rw [es] <;> rfl
          have ev : z_vs X C p = -2 := by
            unfold z_vs
            rw [if_pos c12]
            rw [if_neg q12, ← es3]
            rw [ht2] at c88
            rw [if_pos (Int64.not_le.mp fun z => c88 ((lg_cmp_ge _ _).mpr z))]
          exact ⟨by rw [ev]; rfl, hF2, fun z => by rw [ev] at z; exact absurd z (by decide), by rw [ev]; exact Or.inl rfl⟩
  · skip
    refine x_iconst (v := 2) dX10_stateOfSum_15 (by decide) ?_
    refine x_ireturn dX10_stateOfSum_16 rfl (rfl) hF1.le ?_
    have ev : z_vs X C p = z_lks X C (z_tms C 1501 (p + 1)) (-1) := if_neg c12
    exact ⟨by rw [ev, z_st_op (z_lks_nn hks c12)], hF1, fun _ => by rw [ev]; exact hl1, by rw [ev]; exact Or.inr (Or.inr (z_lks_nn hks c12))⟩
