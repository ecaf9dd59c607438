/-! THE REFERENCE: isPassed, stateOfTest, stateOfHolds, stateOfSum, holds -/
set_option maxHeartbeats 4000000 in
set_option maxRecDepth 100000 in
theorem l_isPassed (G : x_G) {h : x_H} {m : Nat} {l : List (Nat × Nat)} {C : Nat → Int32} {R : List (Nat × Nat)} {E : List Int32} (hB : m_Bk h m l C R E) {X : z_X} (hX : m_X h m X) {r : Nat} {q : Nat × Nat} (hr : R[r]? = some q) (Q : Option x_V → x_H → Prop) : ∀ (n i : Nat) (u : Bool), i ≤ R.length → R.length - i = n → Q (some (x_i (if (u || (R.drop i).any (z_pp X C q)) = true then 1 else 0))) h → x_E G mX10_isPassed (x_D G mX10_isPassed h Q) h 15 [(0, x_r (some m)), (1, x_i (nI r)), (2, x_i (if u = true then 1 else 0)), (3, x_i (nI i))] [] h := by
  obtain ⟨h7, h8, hr6, hq1, hq2, hc, e, hqs⟩ := hB.at hr
  have h60 := hB.2.2.1
  intro n
  induction n with
  | zero =>
    intro i u hi hn hQ
    have ei : i = R.length := by omega
    subst ei
    refine x_iload_n (i := 3) (x := nI R.length) dX10_isPassed_15 rfl rfl ?_
    refine x_aload_n (i := 0) (o := some m) dX10_isPassed_16 rfl rfl ?_
    refine x_getIv (v := nI R.length) dX10_isPassed_17 fX10_isPassed_162 (i := 1011) rfl rfl (mPk_0 hB.1.1) (hB.2.1.1) ?_
    refine x_icmp_ge (tgt := 76) dX10_isPassed_20 (by decide) (fun c20 => ?_) (fun c20 => ?_)
    · skip
      refine x_iload_n (i := 2) (x := if u = true then 1 else 0) dX10_isPassed_76 rfl rfl ?_
      refine x_ireturn dX10_isPassed_77 rfl (by cases u <;> rfl) ⟨Nat.le_refl _, Nat.le_refl _⟩ ?_
      rw [List.drop_of_length_le (Nat.le_refl _)] at hQ
      simpa using hQ
    · skip
      exact absurd (nI_le (by omega) (by omega)) c20
  | succ n ih =>
    intro i u hi hn hQ
    rcases u with _ | _
    · skip
      refine x_iload_n (i := 3) (x := nI i) dX10_isPassed_15 rfl rfl ?_
      refine x_aload_n (i := 0) (o := some m) dX10_isPassed_16 rfl rfl ?_
      refine x_getIv (v := nI R.length) dX10_isPassed_17 fX10_isPassed_162 (i := 1011) rfl rfl (mPk_0 hB.1.1) (hB.2.1.1) ?_
      refine x_icmp_ge (tgt := 76) dX10_isPassed_20 (by decide) (fun c20 => ?_) (fun c20 => ?_)
      · skip
        have q20 := (nI_leI (by omega) (by omega)).mp c20
        refine x_iload_n (i := 2) (x := 0) dX10_isPassed_76 rfl rfl ?_
        refine x_ireturn dX10_isPassed_77 rfl (rfl) ⟨Nat.le_refl _, Nat.le_refl _⟩ ?_
        rw [List.drop_of_length_le q20] at hQ
        simpa using hQ
      · skip
        have q20 : i < R.length := Nat.lt_of_not_le fun z => c20 (nI_le z (by omega))
        obtain ⟨s, hs⟩ : ∃ s, R[i]? = some s := ⟨_, List.getElem?_eq_getElem q20⟩
        obtain ⟨g7, g8, g6, g1, g2, gc, e2, gq⟩ := hB.at hs
        have hdr : R.drop i = s :: R.drop (i + 1) := by rw [List.drop_eq_getElem_cons q20, ← (List.getElem?_eq_some_iff.mp hs).2]
        refine x_iload_n (i := 2) (x := 0) dX10_isPassed_23 rfl rfl ?_
        refine x_if_ne (tgt := 64) dX10_isPassed_24 (by decide) (fun c => absurd c (by decide)) (fun _ => ?_)
        refine x_aload_n (i := 0) (o := some m) dX10_isPassed_27 rfl rfl ?_
        refine x_getRv (v := some (m + 8)) dX10_isPassed_28 fX10_isPassed_32 (i := 1010) rfl rfl (mPk_0 hB.1.1) (mPr_1010 hB.1.1) ?_
        refine x_iload_n (i := 3) (x := nI i) dX10_isPassed_31 rfl rfl ?_
        refine x_ialoadN (n := i) (v := nI s.2) dX10_isPassed_32 (mPk_8 hB.1.1) (rfl) (by rw [mPl_8 hB.1.1]; omega) (by rw [mPl_8 hB.1.1]; omega) (g8) ?_
        refine x_aload_n (i := 0) (o := some m) dX10_isPassed_33 rfl rfl ?_
        refine x_getRv (v := some (m + 8)) dX10_isPassed_34 fX10_isPassed_32 (i := 1010) rfl rfl (mPk_0 hB.1.1) (mPr_1010 hB.1.1) ?_
        refine x_iload_n (i := 1) (x := nI r) dX10_isPassed_37 rfl rfl ?_
        refine x_ialoadN (n := r) (v := nI q.2) dX10_isPassed_38 (mPk_8 hB.1.1) (rfl) (by rw [mPl_8 hB.1.1]; omega) (by rw [mPl_8 hB.1.1]; omega) (h8) ?_
        refine x_icmp_ne (tgt := 68) dX10_isPassed_39 (by decide) (fun c39 => ?_) (fun c39 => ?_)
        · skip
          have e39 : ¬ s.2 = q.2 := fun z => c39 (by rw [z])
          refine x_iconst (v := 0) dX10_isPassed_68 (by decide) ?_
          refine x_istore_n (i := 2) (lv' := [(0, x_r (some m)), (1, x_i (nI r)), (2, x_i 0), (3, x_i (nI i))]) dX10_isPassed_69 rfl (by decide) rfl ?_
          refine x_iinc (i := 3) (x := nI i) (v := nI (i + 1)) (lv' := [(0, x_r (some m)), (1, x_i (nI r)), (2, x_i 0), (3, x_i (nI (i + 1)))]) dX10_isPassed_70 rfl (nI_1 i) (by decide) rfl ?_
          refine x_goto (tgt := 15) dX10_isPassed_73 (by decide) ?_
          refine ih (i + 1) false (by omega) (by omega) ?_
          rw [hdr, List.any_cons, show (z_pp X C q) s = false by simp [z_pp, e39]] at hQ
          exact hQ
        · skip
          have e39 : s.2 = q.2 := (nI_eq (by omega) (by omega)).mp c39
          refine x_aload_n (i := 0) (o := some m) dX10_isPassed_42 rfl rfl ?_
          refine x_iload_n (i := 3) (x := nI i) dX10_isPassed_43 rfl rfl ?_
          refine x_callV (a := m) (av := [x_i (nI i)]) (rest := []) (r := (some (x_i (C (s.1 + 1))))) (h1 := h) dX10_isPassed_44 sX10_isPassed_198 (mPk_0 hB.1.1) rfl rfl (Nat.le_of_ble_eq_true rfl) ⟨Nat.le_refl _, Nat.le_refl _⟩ (c_classOf G hB hs) ?_
          show x_E _ _ _ _ 47 _ [x_i (C (s.1 + 1))] _
          refine x_aload_n (i := 0) (o := some m) dX10_isPassed_47 rfl rfl ?_
          refine x_iload_n (i := 1) (x := nI r) dX10_isPassed_48 rfl rfl ?_
          refine x_callV (a := m) (av := [x_i (nI r)]) (rest := [x_i (C (s.1 + 1))]) (r := (some (x_i (C (q.1 + 1))))) (h1 := h) dX10_isPassed_49 sX10_isPassed_198 (mPk_0 hB.1.1) rfl rfl (Nat.le_of_ble_eq_true rfl) ⟨Nat.le_refl _, Nat.le_refl _⟩ (c_classOf G hB hr) ?_
          show x_E _ _ _ _ 52 _ [x_i (C (q.1 + 1)), x_i (C (s.1 + 1))] _
          refine x_icmp_ne (tgt := 68) dX10_isPassed_52 (by decide) (fun c52 => ?_) (fun c52 => ?_)
          · skip
            refine x_iconst (v := 0) dX10_isPassed_68 (by decide) ?_
            refine x_istore_n (i := 2) (lv' := [(0, x_r (some m)), (1, x_i (nI r)), (2, x_i 0), (3, x_i (nI i))]) dX10_isPassed_69 rfl (by decide) rfl ?_
            refine x_iinc (i := 3) (x := nI i) (v := nI (i + 1)) (lv' := [(0, x_r (some m)), (1, x_i (nI r)), (2, x_i 0), (3, x_i (nI (i + 1)))]) dX10_isPassed_70 rfl (nI_1 i) (by decide) rfl ?_
            refine x_goto (tgt := 15) dX10_isPassed_73 (by decide) ?_
            refine ih (i + 1) false (by omega) (by omega) ?_
            rw [hdr, List.any_cons, show (z_pp X C q) s = false by simp [z_pp, c52]] at hQ
            exact hQ
          · skip
            refine x_aload_n (i := 0) (o := some m) dX10_isPassed_55 rfl rfl ?_
            refine x_iload_n (i := 3) (x := nI i) dX10_isPassed_56 rfl rfl ?_
            refine x_iconst (v := 1) dX10_isPassed_57 (by decide) ?_
            rcases hh : (z_any C (z_its C s) && z_akn X C (z_its C s)) with _ | _
            · skip
              refine x_callV (a := m) (av := [x_i (nI i), x_i 1]) (rest := []) (r := (some (x_i 0))) (h1 := h) dX10_isPassed_58 sX10_isPassed_207 (mPk_0 hB.1.1) rfl rfl (Nat.le_of_ble_eq_true rfl) ⟨Nat.le_refl _, Nat.le_refl _⟩ (by have k := c_hasTests G hB hX hs true; rw [show (z_any C (z_its C s) && (z_akn X C (z_its C s) || !true)) = false by simpa using hh] at k; exact k) ?_
              show x_E _ _ _ _ 61 _ [x_i 0] _
              refine x_if_eq (tgt := 68) dX10_isPassed_61 (by decide) (fun _ => ?_) (fun c => absurd (by decide) c)
              refine x_iconst (v := 0) dX10_isPassed_68 (by decide) ?_
              refine x_istore_n (i := 2) (lv' := [(0, x_r (some m)), (1, x_i (nI r)), (2, x_i 0), (3, x_i (nI i))]) dX10_isPassed_69 rfl (by decide) rfl ?_
              refine x_iinc (i := 3) (x := nI i) (v := nI (i + 1)) (lv' := [(0, x_r (some m)), (1, x_i (nI r)), (2, x_i 0), (3, x_i (nI (i + 1)))]) dX10_isPassed_70 rfl (nI_1 i) (by decide) rfl ?_
              refine x_goto (tgt := 15) dX10_isPassed_73 (by decide) ?_
              refine ih (i + 1) false (by omega) (by omega) ?_
              rw [hdr, List.any_cons, show (z_pp X C q) s = false by simp only [z_pp, e39, c52, beq_self_eq_true, Bool.true_and]; exact hh] at hQ
              exact hQ
            · skip
              refine x_callV (a := m) (av := [x_i (nI i), x_i 1]) (rest := []) (r := (some (x_i 1))) (h1 := h) dX10_isPassed_58 sX10_isPassed_207 (mPk_0 hB.1.1) rfl rfl (Nat.le_of_ble_eq_true rfl) ⟨Nat.le_refl _, Nat.le_refl _⟩ (by have k := c_hasTests G hB hX hs true; rw [show (z_any C (z_its C s) && (z_akn X C (z_its C s) || !true)) = true by simpa using hh] at k; exact k) ?_
              show x_E _ _ _ _ 61 _ [x_i 1] _
              refine x_if_eq (tgt := 68) dX10_isPassed_61 (by decide) (fun c => absurd c (by decide)) (fun _ => ?_)
              refine x_iconst (v := 1) dX10_isPassed_64 (by decide) ?_
              refine x_goto (tgt := 69) dX10_isPassed_65 (by decide) ?_
              refine x_istore_n (i := 2) (lv' := [(0, x_r (some m)), (1, x_i (nI r)), (2, x_i 1), (3, x_i (nI i))]) dX10_isPassed_69 rfl (by decide) rfl ?_
              refine x_iinc (i := 3) (x := nI i) (v := nI (i + 1)) (lv' := [(0, x_r (some m)), (1, x_i (nI r)), (2, x_i 1), (3, x_i (nI (i + 1)))]) dX10_isPassed_70 rfl (nI_1 i) (by decide) rfl ?_
              refine x_goto (tgt := 15) dX10_isPassed_73 (by decide) ?_
              refine ih (i + 1) true (by omega) (by omega) ?_
              rw [hdr, List.any_cons, show (z_pp X C q) s = true by simp only [z_pp, e39, c52, beq_self_eq_true, Bool.true_and]; exact hh] at hQ
              exact hQ
    · skip
      refine x_iload_n (i := 3) (x := nI i) dX10_isPassed_15 rfl rfl ?_
      refine x_aload_n (i := 0) (o := some m) dX10_isPassed_16 rfl rfl ?_
      refine x_getIv (v := nI R.length) dX10_isPassed_17 fX10_isPassed_162 (i := 1011) rfl rfl (mPk_0 hB.1.1) (hB.2.1.1) ?_
      refine x_icmp_ge (tgt := 76) dX10_isPassed_20 (by decide) (fun c20 => ?_) (fun c20 => ?_)
      · skip
        have q20 := (nI_leI (by omega) (by omega)).mp c20
        refine x_iload_n (i := 2) (x := 1) dX10_isPassed_76 rfl rfl ?_
        refine x_ireturn dX10_isPassed_77 rfl (rfl) ⟨Nat.le_refl _, Nat.le_refl _⟩ ?_
        rw [List.drop_of_length_le q20] at hQ
        simpa using hQ
      · skip
        have q20 : i < R.length := Nat.lt_of_not_le fun z => c20 (nI_le z (by omega))
        obtain ⟨s, hs⟩ : ∃ s, R[i]? = some s := ⟨_, List.getElem?_eq_getElem q20⟩
        obtain ⟨g7, g8, g6, g1, g2, gc, e2, gq⟩ := hB.at hs
        have hdr : R.drop i = s :: R.drop (i + 1) := by rw [List.drop_eq_getElem_cons q20, ← (List.getElem?_eq_some_iff.mp hs).2]
        refine x_iload_n (i := 2) (x := 1) dX10_isPassed_23 rfl rfl ?_
        refine x_if_ne (tgt := 64) dX10_isPassed_24 (by decide) (fun _ => ?_) (fun c => absurd c (by decide))
        refine x_iconst (v := 1) dX10_isPassed_64 (by decide) ?_
        refine x_goto (tgt := 69) dX10_isPassed_65 (by decide) ?_
        refine x_istore_n (i := 2) (lv' := [(0, x_r (some m)), (1, x_i (nI r)), (2, x_i 1), (3, x_i (nI i))]) dX10_isPassed_69 rfl (by decide) rfl ?_
        refine x_iinc (i := 3) (x := nI i) (v := nI (i + 1)) (lv' := [(0, x_r (some m)), (1, x_i (nI r)), (2, x_i 1), (3, x_i (nI (i + 1)))]) dX10_isPassed_70 rfl (nI_1 i) (by decide) rfl ?_
        refine x_goto (tgt := 15) dX10_isPassed_73 (by decide) ?_
        refine ih (i + 1) true (by omega) (by omega) ?_
        rw [Bool.true_or] at hQ ⊢
        exact hQ
set_option maxHeartbeats 4000000 in
set_option maxRecDepth 100000 in
theorem c_isPassed (G : x_G) {h : x_H} {m : Nat} {l : List (Nat × Nat)} {C : Nat → Int32} {R : List (Nat × Nat)} {E : List Int32} (hB : m_Bk h m l C R E) {X : z_X} (hX : m_X h m X) {r : Nat} {q : Nat × Nat} (hr : R[r]? = some q) : x_Call G mX10_isPassed h [x_r (some m), x_i (nI r)] (some (x_i (if z_ps X C R q = true then 1 else 0))) h := by
  have hps : z_ps X C R q = (!(z_any C (z_its C q)) && R.any (z_pp X C q)) := rfl
  refine x_Ex.call (x_enter mwX10_isPassed (Nat.le_of_ble_eq_true rfl) ?_)
  show x_E _ _ _ _ _ [(0, x_r (some m)), (1, x_i (nI r))] _ _
  refine x_aload_n (i := 0) (o := some m) dX10_isPassed_0 rfl rfl ?_
  refine x_iload_n (i := 1) (x := nI r) dX10_isPassed_1 rfl rfl ?_
  refine x_iconst (v := 0) dX10_isPassed_2 (by decide) ?_
  rcases hh : z_any C (z_its C q) with _ | _
  · skip
    refine x_callV (a := m) (av := [x_i (nI r), x_i 0]) (rest := []) (r := (some (x_i 0))) (h1 := h) dX10_isPassed_3 sX10_isPassed_207 (mPk_0 hB.1.1) rfl rfl (Nat.le_of_ble_eq_true rfl) ⟨Nat.le_refl _, Nat.le_refl _⟩ (by have k := c_hasTests G hB hX hr false; rw [show (z_any C (z_its C q) && (z_akn X C (z_its C q) || !false)) = false by simpa using hh] at k; exact k) ?_
    show x_E _ _ _ _ 6 _ [x_i 0] _
    refine x_if_eq (tgt := 11) dX10_isPassed_6 (by decide) (fun _ => ?_) (fun c => absurd (by decide) c)
    refine x_iconst (v := 0) dX10_isPassed_11 (by decide) ?_
    refine x_istore_n (i := 2) (lv' := [(0, x_r (some m)), (1, x_i (nI r)), (2, x_i 0)]) dX10_isPassed_12 rfl (by decide) rfl ?_
    refine x_iconst (v := 0) dX10_isPassed_13 (by decide) ?_
    refine x_istore_n (i := 3) (lv' := [(0, x_r (some m)), (1, x_i (nI r)), (2, x_i 0), (3, x_i 0)]) dX10_isPassed_14 rfl (by decide) rfl ?_
    refine l_isPassed G hB hX hr _ _ 0 false (Nat.zero_le _) rfl ⟨?_, rfl⟩
    rw [hps, hh]
    rfl
  · skip
    refine x_callV (a := m) (av := [x_i (nI r), x_i 0]) (rest := []) (r := (some (x_i 1))) (h1 := h) dX10_isPassed_3 sX10_isPassed_207 (mPk_0 hB.1.1) rfl rfl (Nat.le_of_ble_eq_true rfl) ⟨Nat.le_refl _, Nat.le_refl _⟩ (by have k := c_hasTests G hB hX hr false; rw [show (z_any C (z_its C q) && (z_akn X C (z_its C q) || !false)) = true by simpa using hh] at k; exact k) ?_
    show x_E _ _ _ _ 6 _ [x_i 1] _
    refine x_if_eq (tgt := 11) dX10_isPassed_6 (by decide) (fun c => absurd c (by decide)) (fun _ => ?_)
    refine x_iconst (v := 0) dX10_isPassed_9 (by decide) ?_
    refine x_ireturn dX10_isPassed_10 rfl (rfl) ⟨Nat.le_refl _, Nat.le_refl _⟩ ?_
    exact ⟨by rw [hps, hh]; rfl, rfl⟩
theorem z_st_op {v : Int32} (h : 0 ≤ v) : z_st v = 2 := by
  unfold z_st
  rw [if_neg (by rintro rfl; exact absurd h (by decide)), if_pos h]
set_option maxHeartbeats 4000000 in
set_option maxRecDepth 100000 in
theorem c_stateOfTest (G : x_G) {h : x_H} {m : Nat} {l : List (Nat × Nat)} {C : Nat → Int32} (hK : m_K h m l C) {X : z_X} (hX : m_X h m X) {p : Nat} (h1 : q_n C 0 7 (p + 1)) (h3 : q_n C 0 9 (p + 3)) : x_Ex G mX10_stateOfTest h [x_r (some m), x_i (nI p)] (fun r h' => r = some (x_i (z_st (z_vt X C p))) ∧ ((0 ≤ z_vt X C p ∧ h' = x_sI h 1027 m (z_vt X C p)) ∨ (¬ 0 ≤ z_vt X C p ∧ h' = h))) := by
  have hll := hK.ll
  have hp2 := hK.N.n h3
  have ht := z_tn (n := 7) (by decide) h1
  refine x_enter mwX10_stateOfTest (Nat.le_of_ble_eq_true rfl) ?_
  show x_E _ _ _ _ _ [(0, x_r (some m)), (1, x_i (nI p))] _ _
  refine x_aload_n (i := 0) (o := some m) dX10_stateOfTest_0 rfl rfl ?_
  refine x_iload_n (i := 1) (x := nI p) dX10_stateOfTest_1 rfl rfl ?_
  refine x_iconst (v := 1) dX10_stateOfTest_2 (by decide) ?_
  refine x_iadd dX10_stateOfTest_3 ?_
  rw [show (nI p) + 1 = nI (p + 1) from nI_1 p]
  refine x_callV (a := m) (av := [x_i (nI (p + 1))]) (rest := []) (r := (some (x_i (C (p + 1))))) (h1 := h) dX10_stateOfTest_4 sX10_stateOfTest_172 (mPk_0 hK.1) rfl rfl (Nat.le_of_ble_eq_true rfl) ⟨Nat.le_refl _, Nat.le_refl _⟩ (k_num G hK h1.1) ?_
  show x_E _ _ _ _ 7 _ [x_i (C (p + 1))] _
  refine x_istore_n (i := 2) (lv' := [(0, x_r (some m)), (1, x_i (nI p)), (2, x_i (C (p + 1)))]) dX10_stateOfTest_7 rfl (by decide) rfl ?_
  refine x_aload_n (i := 0) (o := some m) dX10_stateOfTest_8 rfl rfl ?_
  refine x_getRv (v := some (m + 13)) dX10_stateOfTest_9 fX10_stateOfTest_48 (i := 1017) rfl rfl (mPk_0 hK.1) (mPr_1017 hK.1) ?_
  refine x_iload_n (i := 2) (x := C (p + 1)) dX10_stateOfTest_12 rfl rfl ?_
  refine x_ialoadN (n := (C (p + 1)).toNatClampNeg) (v := X.2.2.2.1 (C (p + 1)).toNatClampNeg) dX10_stateOfTest_13 (mPk_13 hK.1) (ht.1) (by rw [mPl_13 hK.1]; omega) (by rw [mPl_13 hK.1]; omega) (hX.2.1 _ (by omega)) ?_
  refine x_iconst (v := (-1)) dX10_stateOfTest_14 (by decide) ?_
  refine x_icmp_ne (tgt := 28) dX10_stateOfTest_15 (by decide) (fun c15 => ?_) (fun c15 => ?_)
  · skip
    refine x_aload_n (i := 0) (o := some m) dX10_stateOfTest_28 rfl rfl ?_
    refine x_getRv (v := some (m + 13)) dX10_stateOfTest_29 fX10_stateOfTest_48 (i := 1017) rfl rfl (mPk_0 hK.1) (mPr_1017 hK.1) ?_
    refine x_iload_n (i := 2) (x := C (p + 1)) dX10_stateOfTest_32 rfl rfl ?_
    refine x_ialoadN (n := (C (p + 1)).toNatClampNeg) (v := X.2.2.2.1 (C (p + 1)).toNatClampNeg) dX10_stateOfTest_33 (mPk_13 hK.1) (ht.1) (by rw [mPl_13 hK.1]; omega) (by rw [mPl_13 hK.1]; omega) (hX.2.1 _ (by omega)) ?_
    refine x_aload_n (i := 0) (o := some m) dX10_stateOfTest_34 rfl rfl ?_
    refine x_iload_n (i := 1) (x := nI p) dX10_stateOfTest_35 rfl rfl ?_
    refine x_iconst (v := 3) dX10_stateOfTest_36 (by decide) ?_
    refine x_iadd dX10_stateOfTest_37 ?_
    rw [show (nI p) + 3 = nI (p + 3) from nI_add p 3]
    refine x_callV (a := m) (av := [x_i (nI (p + 3))]) (rest := [x_i (X.2.2.2.1 (C (p + 1)).toNatClampNeg)]) (r := (some (x_i (C (p + 3))))) (h1 := h) dX10_stateOfTest_38 sX10_stateOfTest_172 (mPk_0 hK.1) rfl rfl (Nat.le_of_ble_eq_true rfl) ⟨Nat.le_refl _, Nat.le_refl _⟩ (k_num G hK h3.1) ?_
    show x_E _ _ _ _ 41 _ [x_i (C (p + 3)), x_i (X.2.2.2.1 (C (p + 1)).toNatClampNeg)] _
    refine x_icmp_ne (tgt := 48) dX10_stateOfTest_41 (by decide) (fun c41 => ?_) (fun c41 => ?_)
    · skip
      refine x_iconst (v := 0) dX10_stateOfTest_48 (by decide) ?_
      refine x_aload_n (i := 0) (o := some m) dX10_stateOfTest_49 rfl rfl ?_
      refine x_iload_n (i := 1) (x := nI p) dX10_stateOfTest_50 rfl rfl ?_
      refine x_iconst (v := 2) dX10_stateOfTest_51 (by decide) ?_
      refine x_iadd dX10_stateOfTest_52 ?_
      rw [show (nI p) + 2 = nI (p + 2) from nI_add p 2]
      refine x_ldc2 (v := 92531) dX10_stateOfTest_53 kX10_stateOfTest_126 ?_
      by_cases q8 : C (p + 2) = -8
      · skip
        refine x_callV (a := m) (av := [x_i (nI (p + 2)), x_l 92531]) (rest := [x_i 0]) (r := (some (x_i 1))) (h1 := h) dX10_stateOfTest_56 sX10_stateOfTest_168 (mPk_0 hK.1) rfl rfl (Nat.le_of_ble_eq_true rfl) ⟨Nat.le_refl _, Nat.le_refl _⟩ (k_has_t G hK (a := p + 2) (by omega) z_K_is q8) ?_
        show x_E _ _ _ _ 59 _ [x_i 1, x_i 0] _
        refine x_icmp_ne (tgt := 66) dX10_stateOfTest_59 (by decide) (fun _ => ?_) (fun c => absurd c (by decide))
        refine x_iconst (v := 0) dX10_stateOfTest_66 (by decide) ?_
        refine x_ireturn dX10_stateOfTest_67 rfl (rfl) ⟨Nat.le_refl _, Nat.le_refl _⟩ ?_
        have ev : z_vt X C p = -3 := by
          unfold z_vt
          rw [if_neg c15]
          rw [if_neg (by
            (first | rw [beq_eq_false_iff_ne.mpr c41] | rw [beq_iff_eq.mpr c41])
            (first | rw [beq_eq_false_iff_ne.mpr q8] | rw [beq_iff_eq.mpr q8])
            try decide)]
        exact ⟨by rw [ev]; rfl, Or.inr ⟨by rw [ev]; decide, rfl⟩⟩
      · skip
        refine x_callV (a := m) (av := [x_i (nI (p + 2)), x_l 92531]) (rest := [x_i 0]) (r := (some (x_i 0))) (h1 := h) dX10_stateOfTest_56 sX10_stateOfTest_168 (mPk_0 hK.1) rfl rfl (Nat.le_of_ble_eq_true rfl) ⟨Nat.le_refl _, Nat.le_refl _⟩ (k_has_f G hK (a := p + 2) (by omega) z_K_is q8) ?_
        show x_E _ _ _ _ 59 _ [x_i 0, x_i 0] _
        refine x_icmp_ne (tgt := 66) dX10_stateOfTest_59 (by decide) (fun c => absurd c (by decide)) (fun _ => ?_)
        refine x_iconst (v := 1) dX10_stateOfTest_62 (by decide) ?_
        refine x_goto (tgt := 67) dX10_stateOfTest_63 (by decide) ?_
        refine x_ireturn dX10_stateOfTest_67 rfl (rfl) ⟨Nat.le_refl _, Nat.le_refl _⟩ ?_
        have ev : z_vt X C p = -2 := by
          unfold z_vt
          rw [if_neg c15]
          rw [if_pos (by
            (first | rw [beq_eq_false_iff_ne.mpr c41] | rw [beq_iff_eq.mpr c41])
            (first | rw [beq_eq_false_iff_ne.mpr q8] | rw [beq_iff_eq.mpr q8])
            try decide)]
        exact ⟨by rw [ev]; rfl, Or.inr ⟨by rw [ev]; decide, rfl⟩⟩
    · skip
      refine x_iconst (v := 1) dX10_stateOfTest_44 (by decide) ?_
      refine x_goto (tgt := 49) dX10_stateOfTest_45 (by decide) ?_
      refine x_aload_n (i := 0) (o := some m) dX10_stateOfTest_49 rfl rfl ?_
      refine x_iload_n (i := 1) (x := nI p) dX10_stateOfTest_50 rfl rfl ?_
      refine x_iconst (v := 2) dX10_stateOfTest_51 (by decide) ?_
      refine x_iadd dX10_stateOfTest_52 ?_
      rw [show (nI p) + 2 = nI (p + 2) from nI_add p 2]
      refine x_ldc2 (v := 92531) dX10_stateOfTest_53 kX10_stateOfTest_126 ?_
      by_cases q8 : C (p + 2) = -8
      · skip
        refine x_callV (a := m) (av := [x_i (nI (p + 2)), x_l 92531]) (rest := [x_i 1]) (r := (some (x_i 1))) (h1 := h) dX10_stateOfTest_56 sX10_stateOfTest_168 (mPk_0 hK.1) rfl rfl (Nat.le_of_ble_eq_true rfl) ⟨Nat.le_refl _, Nat.le_refl _⟩ (k_has_t G hK (a := p + 2) (by omega) z_K_is q8) ?_
        show x_E _ _ _ _ 59 _ [x_i 1, x_i 1] _
        refine x_icmp_ne (tgt := 66) dX10_stateOfTest_59 (by decide) (fun c => absurd c (by decide)) (fun _ => ?_)
        refine x_iconst (v := 1) dX10_stateOfTest_62 (by decide) ?_
        refine x_goto (tgt := 67) dX10_stateOfTest_63 (by decide) ?_
        refine x_ireturn dX10_stateOfTest_67 rfl (rfl) ⟨Nat.le_refl _, Nat.le_refl _⟩ ?_
        have ev : z_vt X C p = -2 := by
          unfold z_vt
          rw [if_neg c15]
          rw [if_pos (by
            (first | rw [beq_eq_false_iff_ne.mpr c41] | rw [beq_iff_eq.mpr c41])
            (first | rw [beq_eq_false_iff_ne.mpr q8] | rw [beq_iff_eq.mpr q8])
            try decide)]
        exact ⟨by rw [ev]; rfl, Or.inr ⟨by rw [ev]; decide, rfl⟩⟩
      · skip
        refine x_callV (a := m) (av := [x_i (nI (p + 2)), x_l 92531]) (rest := [x_i 1]) (r := (some (x_i 0))) (h1 := h) dX10_stateOfTest_56 sX10_stateOfTest_168 (mPk_0 hK.1) rfl rfl (Nat.le_of_ble_eq_true rfl) ⟨Nat.le_refl _, Nat.le_refl _⟩ (k_has_f G hK (a := p + 2) (by omega) z_K_is q8) ?_
        show x_E _ _ _ _ 59 _ [x_i 0, x_i 1] _
        refine x_icmp_ne (tgt := 66) dX10_stateOfTest_59 (by decide) (fun _ => ?_) (fun c => absurd c (by decide))
        refine x_iconst (v := 0) dX10_stateOfTest_66 (by decide) ?_
        refine x_ireturn dX10_stateOfTest_67 rfl (rfl) ⟨Nat.le_refl _, Nat.le_refl _⟩ ?_
        have ev : z_vt X C p = -3 := by
          unfold z_vt
          rw [if_neg c15]
          rw [if_neg (by
            (first | rw [beq_eq_false_iff_ne.mpr c41] | rw [beq_iff_eq.mpr c41])
            (first | rw [beq_eq_false_iff_ne.mpr q8] | rw [beq_iff_eq.mpr q8])
            try decide)]
        exact ⟨by rw [ev]; rfl, Or.inr ⟨by rw [ev]; decide, rfl⟩⟩
  · skip
    have ev : z_vt X C p = 100 + C (p + 1) := if_pos c15
    have hnn : 0 ≤ 100 + C (p + 1) := by rw [ht.1]; exact nI_add 100 _ ▸ nI_pos' (by omega)
    refine x_aload_n (i := 0) (o := some m) dX10_stateOfTest_18 rfl rfl ?_
    refine x_bipush (v := 100) dX10_stateOfTest_19 (by decide) ?_
    refine x_iload_n (i := 2) (x := C (p + 1)) dX10_stateOfTest_21 rfl rfl ?_
    refine x_iadd dX10_stateOfTest_22 ?_
    refine x_putI (i := 1027) dX10_stateOfTest_23 pX10_stateOfTest_188 rfl rfl (mPk_0 hK.1) (rfl) (by rfl) ?_
    refine x_iconst (v := 2) dX10_stateOfTest_26 (by decide) ?_
    refine x_ireturn dX10_stateOfTest_27 rfl (rfl) ⟨Nat.le_refl _, Nat.le_refl _⟩ ?_
    exact ⟨by rw [ev, z_st_op hnn], Or.inl ⟨by rw [ev]; exact hnn, by rw [ev]⟩⟩
