/-! THE REFERENCE: stateOfHolds, stateOfSum, holds -/
def z_fd (C : Nat → Int32) (R : List (Nat × Nat)) (V : Nat → Int32) (e : Nat) (c : Int32) (i : Nat) : Int32 := if (List.range i).any (z_h1 C R V e c) = true then 1 else if (List.range i).any (z_h2 C R V e c) = true then 2 else 0
theorem z_fd_s (C : Nat → Int32) (R : List (Nat × Nat)) (V : Nat → Int32) (e : Nat) (c : Int32) (i : Nat) : z_fd C R V e c (i + 1) = if z_h1 C R V e c i = true then 1 else if z_h2 C R V e c i = true ∧ z_fd C R V e c i = 0 then 2 else z_fd C R V e c i := by
  unfold z_fd
  rw [List.range_succ, List.any_append, List.any_append]
  generalize (List.range i).any (z_h1 C R V e c) = a
  generalize (List.range i).any (z_h2 C R V e c) = b
  simp only [List.any_cons, List.any_nil, Bool.or_false]
  generalize z_h1 C R V e c i = x
  generalize z_h2 C R V e c i = y
  cases a <;> cases b <;> cases x <;> cases y <;> rfl
theorem z_st_1 {v : Int32} : z_st v = 1 ↔ v = -2 := by
  unfold z_st
  split
  · rename_i h; exact ⟨fun _ => h, fun _ => rfl⟩
  · rename_i h
    refine ⟨fun z => ?_, fun z => absurd z h⟩
    split at z
    · exact absurd z (by decide)
    · split at z
      · exact absurd z (by decide)
      · exact absurd z (by decide)
theorem z_st_2 {v : Int32} : z_st v = 2 ↔ 0 ≤ v := by
  refine ⟨fun z => ?_, z_st_op⟩
  unfold z_st at z
  split at z
  · exact absurd z (by decide)
  · split at z
    · assumption
    · split at z
      · exact absurd z (by decide)
      · exact absurd z (by decide)
/-- states of the rules before k, by verdicts -/
def m_V (h : x_H) (m : Nat) (V : Nat → Int32) (k : Nat) : Prop := ∀ r, r < k → x_rw h (m + 14) r = z_st (V r) ∧ (0 ≤ V r → x_rw h (m + 15) r = V r)
set_option maxHeartbeats 4000000 in
set_option maxRecDepth 100000 in
theorem l_stateOfHolds (G : x_G) {h : x_H} {m : Nat} {l : List (Nat × Nat)} {C : Nat → Int32} {R : List (Nat × Nat)} {E : List Int32} (hB : m_Bk h m l C R E) {V : Nat → Int32} {k : Nat} {q : Nat × Nat} (hr : R[k]? = some q) (hV : m_V h m V k) (it c : Int32) (Q : Option x_V → x_H → Prop) (hQ : Q (some (x_i (z_fd C R V q.2 c k))) (x_sI h 1027 m (300 + c))) : ∀ (n i : Nat), i ≤ k → k - i = n → x_E G mX10_stateOfHolds (x_D G mX10_stateOfHolds h Q) h 14 [(0, x_r (some m)), (1, x_i it), (2, x_i (nI k)), (3, x_i c), (4, x_i (z_fd C R V q.2 c i)), (5, x_i (nI i))] [] h := by
  obtain ⟨h7, h8, hr6, hq1, hq2, hc, e, hqs⟩ := hB.at hr
  have h60 := hB.2.2.1
  intro n
  induction n with
  | zero =>
    intro i hi hn
    have ei : i = k := by omega
    subst ei
    refine x_iload (i := 5) (x := nI i) dX10_stateOfHolds_14 rfl ?_
    refine x_iload_n (i := 2) (x := nI i) dX10_stateOfHolds_16 rfl rfl ?_
    refine x_icmp_ge (tgt := 91) dX10_stateOfHolds_17 (by decide) (fun c17 => ?_) (fun c17 => ?_)
    · skip
      refine x_aload_n (i := 0) (o := some m) dX10_stateOfHolds_91 rfl rfl ?_
      refine x_sipush (v := 300) dX10_stateOfHolds_92 (by decide) ?_
      refine x_iload_n (i := 3) (x := c) dX10_stateOfHolds_95 rfl rfl ?_
      refine x_iadd dX10_stateOfHolds_96 ?_
      refine x_putI (i := 1027) dX10_stateOfHolds_97 pX10_stateOfHolds_188 rfl rfl (mPk_0 hB.1.1) (rfl) (by rfl) ?_
      refine x_iload (i := 4) (x := z_fd C R V q.2 c i) dX10_stateOfHolds_100 rfl ?_
      refine x_ireturn dX10_stateOfHolds_102 rfl (rfl) ⟨Nat.le_refl _, Nat.le_refl _⟩ ?_
      exact hQ
    · skip
      exact absurd (nI_le (by omega) (by omega)) c17
  | succ n ih =>
    intro i hi hn
    refine x_iload (i := 5) (x := nI i) dX10_stateOfHolds_14 rfl ?_
    refine x_iload_n (i := 2) (x := nI k) dX10_stateOfHolds_16 rfl rfl ?_
    refine x_icmp_ge (tgt := 91) dX10_stateOfHolds_17 (by decide) (fun c17 => ?_) (fun c17 => ?_)
    · skip
      exact absurd ((nI_leI (by omega) (by omega)).mp c17) (by omega)
    · skip
      have q17 : i < k := Nat.lt_of_not_le fun z => c17 (nI_le z (by omega))
      have hkl := (List.getElem?_eq_some_iff.mp hr).1
      obtain ⟨s, hs⟩ : ∃ s, R[i]? = some s := ⟨_, List.getElem?_eq_getElem (by omega)⟩
      obtain ⟨g7, g8, g6, g1, g2, gc, e2, gq⟩ := hB.at hs
      obtain ⟨v1, v2⟩ := hV i q17
      have e1 : z_h1 C R V q.2 c i = (s.2 == q.2 && C (s.1 + 1) == c && V i == -2) := by unfold z_h1; rw [hs]
      have e3 : z_h2 C R V q.2 c i = (s.2 == q.2 && C (s.1 + 1) == c && decide (0 ≤ V i)) := by unfold z_h2; rw [hs]
      refine x_aload_n (i := 0) (o := some m) dX10_stateOfHolds_20 rfl rfl ?_
      refine x_getRv (v := some (m + 8)) dX10_stateOfHolds_21 fX10_stateOfHolds_32 (i := 1010) rfl rfl (mPk_0 hB.1.1) (mPr_1010 hB.1.1) ?_
      refine x_iload (i := 5) (x := nI i) dX10_stateOfHolds_24 rfl ?_
      refine x_ialoadN (n := i) (v := nI s.2) dX10_stateOfHolds_26 (mPk_8 hB.1.1) (rfl) (by rw [mPl_8 hB.1.1]; omega) (by rw [mPl_8 hB.1.1]; omega) (g8) ?_
      refine x_aload_n (i := 0) (o := some m) dX10_stateOfHolds_27 rfl rfl ?_
      refine x_getRv (v := some (m + 8)) dX10_stateOfHolds_28 fX10_stateOfHolds_32 (i := 1010) rfl rfl (mPk_0 hB.1.1) (mPr_1010 hB.1.1) ?_
      refine x_iload_n (i := 2) (x := nI k) dX10_stateOfHolds_31 rfl rfl ?_
      refine x_ialoadN (n := k) (v := nI q.2) dX10_stateOfHolds_32 (mPk_8 hB.1.1) (rfl) (by rw [mPl_8 hB.1.1]; omega) (by rw [mPl_8 hB.1.1]; omega) (h8) ?_
      refine x_icmp_ne (tgt := 85) dX10_stateOfHolds_33 (by decide) (fun c33 => ?_) (fun c33 => ?_)
      · skip
        have e33 : ¬ s.2 = q.2 := fun z => c33 (by rw [z])
        refine x_iinc (i := 5) (x := nI i) (v := nI (i + 1)) (lv' := [(0, x_r (some m)), (1, x_i it), (2, x_i (nI k)), (3, x_i c), (4, x_i (z_fd C R V q.2 c i)), (5, x_i (nI (i + 1)))]) dX10_stateOfHolds_85 rfl (nI_1 i) (by decide) rfl ?_
        refine x_goto (tgt := 14) dX10_stateOfHolds_88 (by decide) ?_
        have k9 := ih (i + 1) (by omega) (by omega)
        rw [show z_fd C R V q.2 c (i + 1) = z_fd C R V q.2 c i by
            rw [z_fd_s, if_neg (by rw [e1]; simp [e33]), if_neg (by rw [e3]; simp [e33])]] at k9
        exact k9
      · skip
        have e33 : s.2 = q.2 := (nI_eq (by omega) (by omega)).mp c33
        refine x_aload_n (i := 0) (o := some m) dX10_stateOfHolds_36 rfl rfl ?_
        refine x_iload (i := 5) (x := nI i) dX10_stateOfHolds_37 rfl ?_
        refine x_callV (a := m) (av := [x_i (nI i)]) (rest := []) (r := (some (x_i (C (s.1 + 1))))) (h1 := h) dX10_stateOfHolds_39 sX10_stateOfHolds_198 (mPk_0 hB.1.1) rfl rfl (Nat.le_of_ble_eq_true rfl) ⟨Nat.le_refl _, Nat.le_refl _⟩ (c_classOf G hB hs) ?_
        show x_E _ _ _ _ 42 _ [x_i (C (s.1 + 1))] _
        refine x_iload_n (i := 3) (x := c) dX10_stateOfHolds_42 rfl rfl ?_
        refine x_icmp_ne (tgt := 85) dX10_stateOfHolds_43 (by decide) (fun c43 => ?_) (fun c43 => ?_)
        · skip
          refine x_iinc (i := 5) (x := nI i) (v := nI (i + 1)) (lv' := [(0, x_r (some m)), (1, x_i it), (2, x_i (nI k)), (3, x_i c), (4, x_i (z_fd C R V q.2 c i)), (5, x_i (nI (i + 1)))]) dX10_stateOfHolds_85 rfl (nI_1 i) (by decide) rfl ?_
          refine x_goto (tgt := 14) dX10_stateOfHolds_88 (by decide) ?_
          have k9 := ih (i + 1) (by omega) (by omega)
          rw [show z_fd C R V q.2 c (i + 1) = z_fd C R V q.2 c i by
              rw [z_fd_s, if_neg (by rw [e1]; simp [c43]), if_neg (by rw [e3]; simp [c43])]] at k9
          exact k9
        · skip
          refine x_aload_n (i := 0) (o := some m) dX10_stateOfHolds_46 rfl rfl ?_
          refine x_getRv (v := some (m + 14)) dX10_stateOfHolds_47 fX10_stateOfHolds_59 (i := 1020) rfl rfl (mPk_0 hB.1.1) (mPr_1020 hB.1.1) ?_
          refine x_iload (i := 5) (x := nI i) dX10_stateOfHolds_50 rfl ?_
          refine x_ialoadN (n := i) (v := z_st (V i)) dX10_stateOfHolds_52 (mPk_14 hB.1.1) (rfl) (by rw [mPl_14 hB.1.1]; omega) (by rw [mPl_14 hB.1.1]; omega) (v1) ?_
          refine x_iconst (v := 1) dX10_stateOfHolds_53 (by decide) ?_
          refine x_icmp_ne (tgt := 61) dX10_stateOfHolds_54 (by decide) (fun c54 => ?_) (fun c54 => ?_)
          · skip
            have e54 : ¬ V i = -2 := fun z => c54 (z_st_1.mpr z)
            refine x_aload_n (i := 0) (o := some m) dX10_stateOfHolds_61 rfl rfl ?_
            refine x_getRv (v := some (m + 14)) dX10_stateOfHolds_62 fX10_stateOfHolds_59 (i := 1020) rfl rfl (mPk_0 hB.1.1) (mPr_1020 hB.1.1) ?_
            refine x_iload (i := 5) (x := nI i) dX10_stateOfHolds_65 rfl ?_
            refine x_ialoadN (n := i) (v := z_st (V i)) dX10_stateOfHolds_67 (mPk_14 hB.1.1) (rfl) (by rw [mPl_14 hB.1.1]; omega) (by rw [mPl_14 hB.1.1]; omega) (v1) ?_
            refine x_iconst (v := 2) dX10_stateOfHolds_68 (by decide) ?_
            refine x_icmp_ne (tgt := 81) dX10_stateOfHolds_69 (by decide) (fun c69 => ?_) (fun c69 => ?_)
            · skip
              have e69 : ¬ 0 ≤ V i := fun z => c69 (z_st_2.mpr z)
              refine x_iload (i := 4) (x := z_fd C R V q.2 c i) dX10_stateOfHolds_81 rfl ?_
              refine x_istore (i := 4) (lv' := [(0, x_r (some m)), (1, x_i it), (2, x_i (nI k)), (3, x_i c), (4, x_i (z_fd C R V q.2 c i)), (5, x_i (nI i))]) dX10_stateOfHolds_83 (by decide) rfl ?_
              refine x_iinc (i := 5) (x := nI i) (v := nI (i + 1)) (lv' := [(0, x_r (some m)), (1, x_i it), (2, x_i (nI k)), (3, x_i c), (4, x_i (z_fd C R V q.2 c i)), (5, x_i (nI (i + 1)))]) dX10_stateOfHolds_85 rfl (nI_1 i) (by decide) rfl ?_
              refine x_goto (tgt := 14) dX10_stateOfHolds_88 (by decide) ?_
              have k9 := ih (i + 1) (by omega) (by omega)
              rw [show z_fd C R V q.2 c (i + 1) = z_fd C R V q.2 c i by
                  rw [z_fd_s, if_neg (by rw [e1]; simp [e54]), if_neg (by rw [e3]; simp [e69])]] at k9
              exact k9
            · skip
              have e69 : 0 ≤ V i := z_st_2.mp c69
              refine x_iload (i := 4) (x := z_fd C R V q.2 c i) dX10_stateOfHolds_72 rfl ?_
              refine x_if_ne (tgt := 81) dX10_stateOfHolds_74 (by decide) (fun c74 => ?_) (fun c74 => ?_)
              · skip
                refine x_iload (i := 4) (x := z_fd C R V q.2 c i) dX10_stateOfHolds_81 rfl ?_
                refine x_istore (i := 4) (lv' := [(0, x_r (some m)), (1, x_i it), (2, x_i (nI k)), (3, x_i c), (4, x_i (z_fd C R V q.2 c i)), (5, x_i (nI i))]) dX10_stateOfHolds_83 (by decide) rfl ?_
                refine x_iinc (i := 5) (x := nI i) (v := nI (i + 1)) (lv' := [(0, x_r (some m)), (1, x_i it), (2, x_i (nI k)), (3, x_i c), (4, x_i (z_fd C R V q.2 c i)), (5, x_i (nI (i + 1)))]) dX10_stateOfHolds_85 rfl (nI_1 i) (by decide) rfl ?_
                refine x_goto (tgt := 14) dX10_stateOfHolds_88 (by decide) ?_
                have k9 := ih (i + 1) (by omega) (by omega)
                rw [show z_fd C R V q.2 c (i + 1) = z_fd C R V q.2 c i by
                    rw [z_fd_s, if_neg (by rw [e1]; simp [e54]), if_neg (fun z => c74 z.2)]] at k9
                exact k9
              · skip
                refine x_iconst (v := 2) dX10_stateOfHolds_77 (by decide) ?_
                refine x_goto (tgt := 83) dX10_stateOfHolds_78 (by decide) ?_
                refine x_istore (i := 4) (lv' := [(0, x_r (some m)), (1, x_i it), (2, x_i (nI k)), (3, x_i c), (4, x_i 2), (5, x_i (nI i))]) dX10_stateOfHolds_83 (by decide) rfl ?_
                refine x_iinc (i := 5) (x := nI i) (v := nI (i + 1)) (lv' := [(0, x_r (some m)), (1, x_i it), (2, x_i (nI k)), (3, x_i c), (4, x_i 2), (5, x_i (nI (i + 1)))]) dX10_stateOfHolds_85 rfl (nI_1 i) (by decide) rfl ?_
                refine x_goto (tgt := 14) dX10_stateOfHolds_88 (by decide) ?_
                have k9 := ih (i + 1) (by omega) (by omega)
                rw [show z_fd C R V q.2 c (i + 1) = 2 by
                    rw [z_fd_s, if_neg (by rw [e1]; simp [e54]), if_pos ⟨by rw [e3]; simp [e33, c43, e69], c74⟩]] at k9
                exact k9
          · skip
            have e54 : V i = -2 := z_st_1.mp c54
            refine x_iconst (v := 1) dX10_stateOfHolds_57 (by decide) ?_
            refine x_goto (tgt := 83) dX10_stateOfHolds_58 (by decide) ?_
            refine x_istore (i := 4) (lv' := [(0, x_r (some m)), (1, x_i it), (2, x_i (nI k)), (3, x_i c), (4, x_i 1), (5, x_i (nI i))]) dX10_stateOfHolds_83 (by decide) rfl ?_
            refine x_iinc (i := 5) (x := nI i) (v := nI (i + 1)) (lv' := [(0, x_r (some m)), (1, x_i it), (2, x_i (nI k)), (3, x_i c), (4, x_i 1), (5, x_i (nI (i + 1)))]) dX10_stateOfHolds_85 rfl (nI_1 i) (by decide) rfl ?_
            refine x_goto (tgt := 14) dX10_stateOfHolds_88 (by decide) ?_
            have k9 := ih (i + 1) (by omega) (by omega)
            rw [show z_fd C R V q.2 c (i + 1) = 1 by
                rw [z_fd_s, if_pos (by rw [e1]; simp [e33, c43, e54])]] at k9
            exact k9
set_option maxHeartbeats 4000000 in
set_option maxRecDepth 100000 in
theorem c_stateOfHolds (G : x_G) {h : x_H} {m : Nat} {l : List (Nat × Nat)} {C : Nat → Int32} {R : List (Nat × Nat)} {E : List Int32} (hB : m_Bk h m l C R E) {V : Nat → Int32} {k : Nat} {q : Nat × Nat} (hr : R[k]? = some q) (hV : m_V h m V k) {p : Nat} (h1 : q_n C 0 19 (p + 1)) : x_Call G mX10_stateOfHolds h [x_r (some m), x_i (nI p), x_i (nI k)] (some (x_i (z_st (z_vh C R V k q.2 p)))) (x_sI h 1027 m (300 + C (p + 1))) := by
  have ht := z_tn (n := 19) (by decide) h1
  have hz : z_st (z_vh C R V k q.2 p) = z_fd C R V q.2 (C (p + 1)) k := by
    unfold z_vh z_fd
    split
    · rfl
    · split
      · rw [ht.1]
        exact z_st_op (nI_add 300 _ ▸ nI_pos' (by omega))
      · rfl
  refine x_Ex.call (x_enter mwX10_stateOfHolds (Nat.le_of_ble_eq_true rfl) ?_)
  show x_E _ _ _ _ _ [(0, x_r (some m)), (1, x_i (nI p)), (2, x_i (nI k))] _ _
  refine x_aload_n (i := 0) (o := some m) dX10_stateOfHolds_0 rfl rfl ?_
  refine x_iload_n (i := 1) (x := nI p) dX10_stateOfHolds_1 rfl rfl ?_
  refine x_iconst (v := 1) dX10_stateOfHolds_2 (by decide) ?_
  refine x_iadd dX10_stateOfHolds_3 ?_
  rw [show (nI p) + 1 = nI (p + 1) from nI_1 p]
  refine x_callV (a := m) (av := [x_i (nI (p + 1))]) (rest := []) (r := (some (x_i (C (p + 1))))) (h1 := h) dX10_stateOfHolds_4 sX10_stateOfHolds_172 (mPk_0 hB.1.1) rfl rfl (Nat.le_of_ble_eq_true rfl) ⟨Nat.le_refl _, Nat.le_refl _⟩ (k_num G hB.1 h1.1) ?_
  show x_E _ _ _ _ 7 _ [x_i (C (p + 1))] _
  refine x_istore_n (i := 3) (lv' := [(0, x_r (some m)), (1, x_i (nI p)), (2, x_i (nI k)), (3, x_i (C (p + 1)))]) dX10_stateOfHolds_7 rfl (by decide) rfl ?_
  refine x_iconst (v := 0) dX10_stateOfHolds_8 (by decide) ?_
  refine x_istore (i := 4) (lv' := [(0, x_r (some m)), (1, x_i (nI p)), (2, x_i (nI k)), (3, x_i (C (p + 1))), (4, x_i 0)]) dX10_stateOfHolds_9 (by decide) rfl ?_
  refine x_iconst (v := 0) dX10_stateOfHolds_11 (by decide) ?_
  refine x_istore (i := 5) (lv' := [(0, x_r (some m)), (1, x_i (nI p)), (2, x_i (nI k)), (3, x_i (C (p + 1))), (4, x_i 0), (5, x_i 0)]) dX10_stateOfHolds_12 (by decide) rfl ?_
  exact l_stateOfHolds G hB hr hV (nI p) (C (p + 1)) _ ⟨by rw [hz], rfl⟩ _ 0 (Nat.zero_le _) rfl
set_option maxHeartbeats 4000000 in
set_option maxRecDepth 100000 in
theorem l_holdsM (G : x_G) {h : x_H} {m : Nat} (hp : mP h m) {O : List Int32} (hO : x_fi h 1023 m = nI O.length ∧ ∀ (j : Nat) (c : Int32), O[j]? = some c → x_rw h (m + 16) j = c) (h20 : O.length ≤ 20) (c : Int32) (Q : Option x_V → x_H → Prop) : ∀ (n i : Nat) (u : Bool), i ≤ O.length → O.length - i = n → Q (some (x_i (if (u || (O.drop i).any (fun s => s == c)) = true then 1 else 0))) h → x_E G mX10_holds (x_D G mX10_holds h Q) h 4 [(0, x_r (some m)), (1, x_i c), (2, x_i (if u = true then 1 else 0)), (3, x_i (nI i))] [] h := by
  intro n
  induction n with
  | zero =>
    intro i u hi hn hQ
    have ei : i = O.length := by omega
    subst ei
    refine x_iload_n (i := 3) (x := nI O.length) dX10_holds_4 rfl rfl ?_
    refine x_aload_n (i := 0) (o := some m) dX10_holds_5 rfl rfl ?_
    refine x_getIv (v := nI O.length) dX10_holds_6 fX10_holds_179 (i := 1023) rfl rfl (mPk_0 hp) (hO.1) ?_
    refine x_icmp_ge (tgt := 38) dX10_holds_9 (by decide) (fun c9 => ?_) (fun c9 => ?_)
    · skip
      refine x_iload_n (i := 2) (x := if u = true then 1 else 0) dX10_holds_38 rfl rfl ?_
      refine x_ireturn dX10_holds_39 rfl (by cases u <;> rfl) ⟨Nat.le_refl _, Nat.le_refl _⟩ ?_
      rw [List.drop_of_length_le (Nat.le_refl _)] at hQ
      simpa using hQ
    · skip
      exact absurd (nI_le (by omega) (by omega)) c9
  | succ n ih =>
    intro i u hi hn hQ
    rcases u with _ | _
    · skip
      refine x_iload_n (i := 3) (x := nI i) dX10_holds_4 rfl rfl ?_
      refine x_aload_n (i := 0) (o := some m) dX10_holds_5 rfl rfl ?_
      refine x_getIv (v := nI O.length) dX10_holds_6 fX10_holds_179 (i := 1023) rfl rfl (mPk_0 hp) (hO.1) ?_
      refine x_icmp_ge (tgt := 38) dX10_holds_9 (by decide) (fun c9 => ?_) (fun c9 => ?_)
      · skip
        have q9 := (nI_leI (by omega) (by omega)).mp c9
        refine x_iload_n (i := 2) (x := 0) dX10_holds_38 rfl rfl ?_
        refine x_ireturn dX10_holds_39 rfl (rfl) ⟨Nat.le_refl _, Nat.le_refl _⟩ ?_
        rw [List.drop_of_length_le q9] at hQ
        simpa using hQ
      · skip
        have q9 : i < O.length := Nat.lt_of_not_le fun z => c9 (nI_le z (by omega))
        obtain ⟨s, hs⟩ : ∃ s, O[i]? = some s := ⟨_, List.getElem?_eq_getElem q9⟩
        have hdr : O.drop i = s :: O.drop (i + 1) := by rw [List.drop_eq_getElem_cons q9, ← (List.getElem?_eq_some_iff.mp hs).2]
        refine x_iload_n (i := 2) (x := 0) dX10_holds_12 rfl rfl ?_
        refine x_if_ne (tgt := 26) dX10_holds_13 (by decide) (fun c => absurd c (by decide)) (fun _ => ?_)
        refine x_aload_n (i := 0) (o := some m) dX10_holds_16 rfl rfl ?_
        refine x_getRv (v := some (m + 16)) dX10_holds_17 fX10_holds_65 (i := 1022) rfl rfl (mPk_0 hp) (mPr_1022 hp) ?_
        refine x_iload_n (i := 3) (x := nI i) dX10_holds_20 rfl rfl ?_
        refine x_ialoadN (n := i) (v := s) dX10_holds_21 (mPk_16 hp) (rfl) (by rw [mPl_16 hp]; omega) (by rw [mPl_16 hp]; omega) (hO.2 i s hs) ?_
        refine x_iload_n (i := 1) (x := c) dX10_holds_22 rfl rfl ?_
        refine x_icmp_ne (tgt := 30) dX10_holds_23 (by decide) (fun c23 => ?_) (fun c23 => ?_)
        · skip
          refine x_iconst (v := 0) dX10_holds_30 (by decide) ?_
          refine x_istore_n (i := 2) (lv' := [(0, x_r (some m)), (1, x_i c), (2, x_i 0), (3, x_i (nI i))]) dX10_holds_31 rfl (by decide) rfl ?_
          refine x_iinc (i := 3) (x := nI i) (v := nI (i + 1)) (lv' := [(0, x_r (some m)), (1, x_i c), (2, x_i 0), (3, x_i (nI (i + 1)))]) dX10_holds_32 rfl (nI_1 i) (by decide) rfl ?_
          refine x_goto (tgt := 4) dX10_holds_35 (by decide) ?_
          refine ih (i + 1) false (by omega) (by omega) ?_
          rw [hdr, List.any_cons, show (s == c) = false by simp [c23]] at hQ
          exact hQ
        · skip
          refine x_iconst (v := 1) dX10_holds_26 (by decide) ?_
          refine x_goto (tgt := 31) dX10_holds_27 (by decide) ?_
          refine x_istore_n (i := 2) (lv' := [(0, x_r (some m)), (1, x_i c), (2, x_i 1), (3, x_i (nI i))]) dX10_holds_31 rfl (by decide) rfl ?_
          refine x_iinc (i := 3) (x := nI i) (v := nI (i + 1)) (lv' := [(0, x_r (some m)), (1, x_i c), (2, x_i 1), (3, x_i (nI (i + 1)))]) dX10_holds_32 rfl (nI_1 i) (by decide) rfl ?_
          refine x_goto (tgt := 4) dX10_holds_35 (by decide) ?_
          refine ih (i + 1) true (by omega) (by omega) ?_
          rw [hdr, List.any_cons, show (s == c) = true by simp [c23]] at hQ
          exact hQ
    · skip
      refine x_iload_n (i := 3) (x := nI i) dX10_holds_4 rfl rfl ?_
      refine x_aload_n (i := 0) (o := some m) dX10_holds_5 rfl rfl ?_
      refine x_getIv (v := nI O.length) dX10_holds_6 fX10_holds_179 (i := 1023) rfl rfl (mPk_0 hp) (hO.1) ?_
      refine x_icmp_ge (tgt := 38) dX10_holds_9 (by decide) (fun c9 => ?_) (fun c9 => ?_)
      · skip
        have q9 := (nI_leI (by omega) (by omega)).mp c9
        refine x_iload_n (i := 2) (x := 1) dX10_holds_38 rfl rfl ?_
        refine x_ireturn dX10_holds_39 rfl (rfl) ⟨Nat.le_refl _, Nat.le_refl _⟩ ?_
        rw [List.drop_of_length_le q9] at hQ
        simpa using hQ
      · skip
        have q9 : i < O.length := Nat.lt_of_not_le fun z => c9 (nI_le z (by omega))
        obtain ⟨s, hs⟩ : ∃ s, O[i]? = some s := ⟨_, List.getElem?_eq_getElem q9⟩
        have hdr : O.drop i = s :: O.drop (i + 1) := by rw [List.drop_eq_getElem_cons q9, ← (List.getElem?_eq_some_iff.mp hs).2]
        refine x_iload_n (i := 2) (x := 1) dX10_holds_12 rfl rfl ?_
        refine x_if_ne (tgt := 26) dX10_holds_13 (by decide) (fun _ => ?_) (fun c => absurd c (by decide))
        refine x_iconst (v := 1) dX10_holds_26 (by decide) ?_
        refine x_goto (tgt := 31) dX10_holds_27 (by decide) ?_
        refine x_istore_n (i := 2) (lv' := [(0, x_r (some m)), (1, x_i c), (2, x_i 1), (3, x_i (nI i))]) dX10_holds_31 rfl (by decide) rfl ?_
        refine x_iinc (i := 3) (x := nI i) (v := nI (i + 1)) (lv' := [(0, x_r (some m)), (1, x_i c), (2, x_i 1), (3, x_i (nI (i + 1)))]) dX10_holds_32 rfl (nI_1 i) (by decide) rfl ?_
        refine x_goto (tgt := 4) dX10_holds_35 (by decide) ?_
        refine ih (i + 1) true (by omega) (by omega) ?_
        rw [Bool.true_or] at hQ ⊢
        exact hQ
set_option maxHeartbeats 4000000 in
set_option maxRecDepth 100000 in
theorem c_holds (G : x_G) {h : x_H} {m : Nat} (hp : mP h m) {O : List Int32} (hO : x_fi h 1023 m = nI O.length ∧ ∀ (j : Nat) (c : Int32), O[j]? = some c → x_rw h (m + 16) j = c) (h20 : O.length ≤ 20) (c : Int32) : x_Call G mX10_holds h [x_r (some m), x_i c] (some (x_i (if c ∈ O then 1 else 0))) h := by
  refine x_Ex.call (x_enter mwX10_holds (Nat.le_of_ble_eq_true rfl) ?_)
  show x_E _ _ _ _ _ [(0, x_r (some m)), (1, x_i c)] _ _
  refine x_iconst (v := 0) dX10_holds_0 (by decide) ?_
  refine x_istore_n (i := 2) (lv' := [(0, x_r (some m)), (1, x_i c), (2, x_i 0)]) dX10_holds_1 rfl (by decide) rfl ?_
  refine x_iconst (v := 0) dX10_holds_2 (by decide) ?_
  refine x_istore_n (i := 3) (lv' := [(0, x_r (some m)), (1, x_i c), (2, x_i 0), (3, x_i 0)]) dX10_holds_3 rfl (by decide) rfl ?_
  refine l_holdsM G hp hO h20 c _ _ 0 false (Nat.zero_le _) rfl ⟨?_, rfl⟩
  rw [Bool.false_or, List.drop_zero]
  congr 3
  simp [List.any_eq_true]
