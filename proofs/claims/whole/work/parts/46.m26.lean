/-! THE REFERENCE: write, unit, part, test, way, clearParts, thrown -/
def z_tx (T : Nat → Int32) : List (Nat × Nat) → List Int32
  | [] => []
  | q :: r => z_sl T q.1 q.2 ++ (if r.isEmpty then [] else 32 :: z_tx T r)
theorem z_kt_skip : ∀ (A B : List Int32) (s : Nat) (k : Int32), (∀ j, j < A.length → ¬ nI (s + j) = k) → z_kt (A ++ B) s k = z_kt B (s + A.length) k
  | [], B, s, k, _ => rfl
  | y :: A, B, s, k, h => by
    have h1 := z_kt_skip A B (s + 1) k (fun j hj => by
      have := h (j + 1) (by simp; omega)
      rw [show s + 1 + j = s + (j + 1) by omega]
      exact this)
    rw [List.length_cons, show s + (A.length + 1) = s + 1 + A.length by omega, ← h1]
    exact if_neg (h 0 (by simp))
theorem z_sl_get {T : Nat → Int32} {s e j : Nat} (h : j < e - s) : (z_sl T s e)[j]? = some (T (s + j)) := by
  unfold z_sl
  rw [List.getElem?_map, List.getElem?_range' (by omega)]
  simp
theorem z_tx_ne {T : Nat → Int32} {l : List (Nat × Nat)} {k : Nat} {q : Nat × Nat} (h : k + 1 < l.length) : z_tx T (q :: l.drop (k + 1)) = z_sl T q.1 q.2 ++ 32 :: z_tx T (l.drop (k + 1)) := by
  show _ ++ (if (l.drop (k + 1)).isEmpty then [] else _) = _
  rw [if_neg (by
    rw [List.isEmpty_iff]
    intro z
    have := congrArg List.length z
    rw [List.length_drop, List.length_nil] at this
    omega)]
theorem z_tx_le {T : Nat → Int32} {r : List (Nat × Nat)} {q : Nat × Nat} (h : r = []) : z_tx T (q :: r) = z_sl T q.1 q.2 := by
  subst h
  show _ ++ (if ([] : List (Nat × Nat)).isEmpty then [] else _) = _
  exact List.append_nil _
theorem z_tx_hd {T : Nat → Int32} {r : List (Nat × Nat)} {q : Nat × Nat} : z_tx T (q :: r) = z_sl T q.1 q.2 ++ (if r.isEmpty then [] else 32 :: z_tx T r) := rfl
theorem z_kt_skip0 (A : List Int32) (s : Nat) (k : Int32) (h : ∀ j, j < A.length → ¬ nI (s + j) = k) : z_kt A s k = -1 := z_kt_out A s k h
set_option maxHeartbeats 4000000 in
set_option maxRecDepth 100000 in
theorem l_write (G : x_G) {h : x_H} {m : Nat} {l : List (Nat × Nat)} {C : Nat → Int32} (hK : m_K h m l C) (i : Int32) (Q : Option x_V → x_H → Prop) : ∀ (n k s : Nat), k ≤ l.length → l.length - k = n → s ≤ 3001 * k → Q (some (x_i (z_kt ((z_tx (x_rw h (m + 2)) (l.drop k)).map (fun b => b &&& 255)) s i))) (x_sI h 1024 m 0) → x_E G mX10_write (x_D G mX10_write h Q) h 9 [(0, x_r (some m)), (1, x_i i), (2, x_i (nI s)), (3, x_i (nI k))] [] (x_sI h 1024 m 0) := by
  have hll := hK.ll
  intro n
  induction n with
  | zero =>
    intro k s hk hn hs hQ
    rw [List.drop_of_length_le (by omega)] at hQ
    refine x_iload_n (i := 3) (x := nI k) dX10_write_9 rfl rfl ?_
    refine x_aload_n (i := 0) (o := some m) dX10_write_10 rfl rfl ?_
    refine x_getIv (v := nI l.length) dX10_write_11 fX10_write_159 (i := 1005) rfl rfl (mPk_0 hK.1) ((by rw [x_fi_sI, if_neg (by omega)]; exact hK.2.2.1)) ?_
    refine x_icmp_ge (tgt := 99) dX10_write_14 (by decide) (fun c14 => ?_) (fun c14 => ?_)
    · skip
      refine x_iconst (v := (-1)) dX10_write_99 (by decide) ?_
      refine x_ireturn dX10_write_100 rfl (rfl) ⟨Nat.le_refl _, Nat.le_refl _⟩ ?_
      exact hQ
    · skip
      exact absurd (nI_le (by omega) (by omega)) c14
  | succ n ih =>
    intro k s hk hn hs hQ
    obtain ⟨q, hq⟩ : ∃ q, l[k]? = some q := ⟨_, List.getElem?_eq_getElem (by omega)⟩
    have hd : l.drop k = q :: l.drop (k + 1) := by
      rw [List.drop_eq_getElem_cons (by omega), (List.getElem?_eq_some_iff.mp hq).2]
    obtain ⟨hw1, hw2, hw3, hw4⟩ := hK.2.1.2.2 k q hq
    refine x_iload_n (i := 3) (x := nI k) dX10_write_9 rfl rfl ?_
    refine x_aload_n (i := 0) (o := some m) dX10_write_10 rfl rfl ?_
    refine x_getIv (v := nI l.length) dX10_write_11 fX10_write_159 (i := 1005) rfl rfl (mPk_0 hK.1) ((by rw [x_fi_sI, if_neg (by omega)]; exact hK.2.2.1)) ?_
    refine x_icmp_ge (tgt := 99) dX10_write_14 (by decide) (fun c14 => ?_) (fun c14 => ?_)
    · skip
      exact absurd ((nI_leI (by omega) (by omega)).mp c14) (by omega)
    · skip
      refine x_aload_n (i := 0) (o := some m) dX10_write_17 rfl rfl ?_
      refine x_getRv (v := some (m + 4)) dX10_write_18 fX10_write_20 (i := 1004) rfl rfl (mPk_0 hK.1) (mPr_1004 hK.1) ?_
      refine x_iload_n (i := 3) (x := nI k) dX10_write_21 rfl rfl ?_
      refine x_ialoadN (n := k) (v := nI q.2) dX10_write_22 (mPk_4 hK.1) (rfl) (by show _ < x_ln h _; rw [mPl_4 hK.1]; omega) (by show x_ln h _ < _; rw [mPl_4 hK.1]; omega) (hw2) ?_
      refine x_aload_n (i := 0) (o := some m) dX10_write_23 rfl rfl ?_
      refine x_getRv (v := some (m + 3)) dX10_write_24 fX10_write_16 (i := 1003) rfl rfl (mPk_0 hK.1) (mPr_1003 hK.1) ?_
      refine x_iload_n (i := 3) (x := nI k) dX10_write_27 rfl rfl ?_
      refine x_ialoadN (n := k) (v := nI q.1) dX10_write_28 (mPk_3 hK.1) (rfl) (by show _ < x_ln h _; rw [mPl_3 hK.1]; omega) (by show x_ln h _ < _; rw [mPl_3 hK.1]; omega) (hw1) ?_
      refine x_isub dX10_write_29 ?_
      rw [show (nI q.2) - (nI q.1) = nI (q.2 - q.1) from pk_sub (by omega)]
      refine x_istore (i := 4) (lv' := [(0, x_r (some m)), (1, x_i i), (2, x_i (nI s)), (3, x_i (nI k)), (4, x_i (nI (q.2 - q.1)))]) dX10_write_30 (by decide) rfl ?_
      refine x_iload_n (i := 1) (x := i) dX10_write_32 rfl rfl ?_
      refine x_iload_n (i := 2) (x := nI s) dX10_write_33 rfl rfl ?_
      refine x_icmp_lt (tgt := 65) dX10_write_34 (by decide) (fun c34 => ?_) (fun c34 => ?_)
      · skip
        have nh : ∀ j, j < q.2 - q.1 → ¬ nI (s + j) = i := fun j hj z => by
          rw [← z] at c34
          exact absurd c34 (nI_nlt (by omega) (by omega))
        refine x_iload_n (i := 1) (x := i) dX10_write_65 rfl rfl ?_
        refine x_iload_n (i := 2) (x := nI s) dX10_write_66 rfl rfl ?_
        refine x_iload (i := 4) (x := nI (q.2 - q.1)) dX10_write_67 rfl ?_
        refine x_iadd dX10_write_69 ?_
        rw [show (nI s) + (nI (q.2 - q.1)) = nI (s + (q.2 - q.1)) from nI_add _ _]
        refine x_icmp_ne (tgt := 86) dX10_write_70 (by decide) (fun c70 => ?_) (fun c70 => ?_)
        · skip
          refine x_iload_n (i := 2) (x := nI s) dX10_write_86 rfl rfl ?_
          refine x_iload (i := 4) (x := nI (q.2 - q.1)) dX10_write_87 rfl ?_
          refine x_iconst (v := 1) dX10_write_89 (by decide) ?_
          refine x_iadd dX10_write_90 ?_
          rw [show (nI (q.2 - q.1)) + 1 = nI (q.2 - q.1 + 1) from nI_1 _]
          refine x_iadd dX10_write_91 ?_
          rw [show (nI s) + (nI (q.2 - q.1 + 1)) = nI (s + (q.2 - q.1) + 1) from (nI_add _ _).trans (by rw [show s + (q.2 - q.1 + 1) = s + (q.2 - q.1) + 1 by omega])]
          refine x_istore_n (i := 2) (lv' := [(0, x_r (some m)), (1, x_i i), (2, x_i (nI (s + (q.2 - q.1) + 1))), (3, x_i (nI k)), (4, x_i (nI (q.2 - q.1)))]) dX10_write_92 rfl (by decide) rfl ?_
          refine x_iinc (i := 3) (x := nI k) (v := nI (k + 1)) (lv' := [(0, x_r (some m)), (1, x_i i), (2, x_i (nI (s + (q.2 - q.1) + 1))), (3, x_i (nI (k + 1))), (4, x_i (nI (q.2 - q.1)))]) dX10_write_93 rfl (nI_1 k) (by decide) rfl ?_
          refine x_goto (tgt := 9) dX10_write_96 (by decide) ?_
          show x_E _ _ _ _ 9 _ _ _
          rw [hd] at hQ
          refine x_drop [0, 1, 2, 3] rfl ?_
          refine ih (k + 1) _ (by omega) (by omega) (by omega) ?_
          by_cases q80 : k + 1 < l.length
          · rw [z_tx_ne q80, List.map_append, z_kt_skip _ _ _ _ (fun j hj => nh j (by rw [List.length_map, z_sl_len] at hj; exact hj)), List.length_map, z_sl_len, List.map_cons] at hQ
            rw [show z_kt ((32 &&& 255) :: (z_tx (x_rw h (m + 2)) (l.drop (k + 1))).map (fun b => b &&& 255)) (s + (q.2 - q.1)) i = z_kt ((z_tx (x_rw h (m + 2)) (l.drop (k + 1))).map (fun b => b &&& 255)) (s + (q.2 - q.1) + 1) i from if_neg (fun z => c70 z.symm)] at hQ
            exact hQ
          · have er : l.drop (k + 1) = [] := List.drop_of_length_le (by omega)
            rw [z_tx_le er, z_kt_skip0 _ _ _ (fun j hj => nh j (by rw [List.length_map, z_sl_len] at hj; exact hj))] at hQ
            rw [er]
            exact hQ
        · skip
          refine x_iload_n (i := 3) (x := nI k) dX10_write_73 rfl rfl ?_
          refine x_iconst (v := 1) dX10_write_74 (by decide) ?_
          refine x_iadd dX10_write_75 ?_
          rw [show (nI k) + 1 = nI (k + 1) from nI_1 k]
          refine x_aload_n (i := 0) (o := some m) dX10_write_76 rfl rfl ?_
          refine x_getIv (v := nI l.length) dX10_write_77 fX10_write_159 (i := 1005) rfl rfl (mPk_0 hK.1) ((by rw [x_fi_sI, if_neg (by omega)]; exact hK.2.2.1)) ?_
          refine x_icmp_ge (tgt := 86) dX10_write_80 (by decide) (fun c80 => ?_) (fun c80 => ?_)
          · skip
            have q80 := (nI_leI (by omega) (by omega)).mp c80
            refine x_iload_n (i := 2) (x := nI s) dX10_write_86 rfl rfl ?_
            refine x_iload (i := 4) (x := nI (q.2 - q.1)) dX10_write_87 rfl ?_
            refine x_iconst (v := 1) dX10_write_89 (by decide) ?_
            refine x_iadd dX10_write_90 ?_
            rw [show (nI (q.2 - q.1)) + 1 = nI (q.2 - q.1 + 1) from nI_1 _]
            refine x_iadd dX10_write_91 ?_
            rw [show (nI s) + (nI (q.2 - q.1 + 1)) = nI (s + (q.2 - q.1) + 1) from (nI_add _ _).trans (by rw [show s + (q.2 - q.1 + 1) = s + (q.2 - q.1) + 1 by omega])]
            refine x_istore_n (i := 2) (lv' := [(0, x_r (some m)), (1, x_i i), (2, x_i (nI (s + (q.2 - q.1) + 1))), (3, x_i (nI k)), (4, x_i (nI (q.2 - q.1)))]) dX10_write_92 rfl (by decide) rfl ?_
            refine x_iinc (i := 3) (x := nI k) (v := nI (k + 1)) (lv' := [(0, x_r (some m)), (1, x_i i), (2, x_i (nI (s + (q.2 - q.1) + 1))), (3, x_i (nI (k + 1))), (4, x_i (nI (q.2 - q.1)))]) dX10_write_93 rfl (nI_1 k) (by decide) rfl ?_
            refine x_goto (tgt := 9) dX10_write_96 (by decide) ?_
            show x_E _ _ _ _ 9 _ _ _
            rw [hd] at hQ
            have er : l.drop (k + 1) = [] := List.drop_of_length_le q80
            rw [z_tx_le er, z_kt_skip0 _ _ _ (fun j hj => nh j (by rw [List.length_map, z_sl_len] at hj; exact hj))] at hQ
            refine x_drop [0, 1, 2, 3] rfl ?_
            refine ih (k + 1) _ (by omega) (by omega) (by omega) ?_
            rw [er]
            exact hQ
          · skip
            have q80 : k + 1 < l.length := Nat.lt_of_not_le fun z => c80 (nI_le z (by omega))
            refine x_bipush (v := 32) dX10_write_83 (by decide) ?_
            refine x_ireturn dX10_write_85 rfl (rfl) ⟨Nat.le_refl _, Nat.le_refl _⟩ ?_
            refine (show z_kt _ s i = 32 from ?_) ▸ hQ
            rw [hd, z_tx_ne q80, List.map_append, z_kt_skip _ _ _ _ (fun j hj => nh j (by rw [List.length_map, z_sl_len] at hj; exact hj)), List.length_map, z_sl_len, List.map_cons]
            exact if_pos c70.symm
      · skip
        refine x_iload_n (i := 1) (x := i) dX10_write_37 rfl rfl ?_
        refine x_iload_n (i := 2) (x := nI s) dX10_write_38 rfl rfl ?_
        refine x_iload (i := 4) (x := nI (q.2 - q.1)) dX10_write_39 rfl ?_
        refine x_iadd dX10_write_41 ?_
        rw [show (nI s) + (nI (q.2 - q.1)) = nI (s + (q.2 - q.1)) from nI_add _ _]
        refine x_icmp_ge (tgt := 65) dX10_write_42 (by decide) (fun c42 => ?_) (fun c42 => ?_)
        · skip
          have nh : ∀ j, j < q.2 - q.1 → ¬ nI (s + j) = i := fun j hj z => by
            rw [← z] at c42
            exact absurd ((nI_leI (by omega) (by omega)).mp c42) (by omega)
          refine x_iload_n (i := 1) (x := i) dX10_write_65 rfl rfl ?_
          refine x_iload_n (i := 2) (x := nI s) dX10_write_66 rfl rfl ?_
          refine x_iload (i := 4) (x := nI (q.2 - q.1)) dX10_write_67 rfl ?_
          refine x_iadd dX10_write_69 ?_
          rw [show (nI s) + (nI (q.2 - q.1)) = nI (s + (q.2 - q.1)) from nI_add _ _]
          refine x_icmp_ne (tgt := 86) dX10_write_70 (by decide) (fun c70 => ?_) (fun c70 => ?_)
          · skip
            refine x_iload_n (i := 2) (x := nI s) dX10_write_86 rfl rfl ?_
            refine x_iload (i := 4) (x := nI (q.2 - q.1)) dX10_write_87 rfl ?_
            refine x_iconst (v := 1) dX10_write_89 (by decide) ?_
            refine x_iadd dX10_write_90 ?_
            rw [show (nI (q.2 - q.1)) + 1 = nI (q.2 - q.1 + 1) from nI_1 _]
            refine x_iadd dX10_write_91 ?_
            rw [show (nI s) + (nI (q.2 - q.1 + 1)) = nI (s + (q.2 - q.1) + 1) from (nI_add _ _).trans (by rw [show s + (q.2 - q.1 + 1) = s + (q.2 - q.1) + 1 by omega])]
            refine x_istore_n (i := 2) (lv' := [(0, x_r (some m)), (1, x_i i), (2, x_i (nI (s + (q.2 - q.1) + 1))), (3, x_i (nI k)), (4, x_i (nI (q.2 - q.1)))]) dX10_write_92 rfl (by decide) rfl ?_
            refine x_iinc (i := 3) (x := nI k) (v := nI (k + 1)) (lv' := [(0, x_r (some m)), (1, x_i i), (2, x_i (nI (s + (q.2 - q.1) + 1))), (3, x_i (nI (k + 1))), (4, x_i (nI (q.2 - q.1)))]) dX10_write_93 rfl (nI_1 k) (by decide) rfl ?_
            refine x_goto (tgt := 9) dX10_write_96 (by decide) ?_
            show x_E _ _ _ _ 9 _ _ _
            rw [hd] at hQ
            refine x_drop [0, 1, 2, 3] rfl ?_
            refine ih (k + 1) _ (by omega) (by omega) (by omega) ?_
            by_cases q80 : k + 1 < l.length
            · rw [z_tx_ne q80, List.map_append, z_kt_skip _ _ _ _ (fun j hj => nh j (by rw [List.length_map, z_sl_len] at hj; exact hj)), List.length_map, z_sl_len, List.map_cons] at hQ
              rw [show z_kt ((32 &&& 255) :: (z_tx (x_rw h (m + 2)) (l.drop (k + 1))).map (fun b => b &&& 255)) (s + (q.2 - q.1)) i = z_kt ((z_tx (x_rw h (m + 2)) (l.drop (k + 1))).map (fun b => b &&& 255)) (s + (q.2 - q.1) + 1) i from if_neg (fun z => c70 z.symm)] at hQ
              exact hQ
            · have er : l.drop (k + 1) = [] := List.drop_of_length_le (by omega)
              rw [z_tx_le er, z_kt_skip0 _ _ _ (fun j hj => nh j (by rw [List.length_map, z_sl_len] at hj; exact hj))] at hQ
              rw [er]
              exact hQ
          · skip
            refine x_iload_n (i := 3) (x := nI k) dX10_write_73 rfl rfl ?_
            refine x_iconst (v := 1) dX10_write_74 (by decide) ?_
            refine x_iadd dX10_write_75 ?_
            rw [show (nI k) + 1 = nI (k + 1) from nI_1 k]
            refine x_aload_n (i := 0) (o := some m) dX10_write_76 rfl rfl ?_
            refine x_getIv (v := nI l.length) dX10_write_77 fX10_write_159 (i := 1005) rfl rfl (mPk_0 hK.1) ((by rw [x_fi_sI, if_neg (by omega)]; exact hK.2.2.1)) ?_
            refine x_icmp_ge (tgt := 86) dX10_write_80 (by decide) (fun c80 => ?_) (fun c80 => ?_)
            · skip
              have q80 := (nI_leI (by omega) (by omega)).mp c80
              refine x_iload_n (i := 2) (x := nI s) dX10_write_86 rfl rfl ?_
              refine x_iload (i := 4) (x := nI (q.2 - q.1)) dX10_write_87 rfl ?_
              refine x_iconst (v := 1) dX10_write_89 (by decide) ?_
              refine x_iadd dX10_write_90 ?_
              rw [show (nI (q.2 - q.1)) + 1 = nI (q.2 - q.1 + 1) from nI_1 _]
              refine x_iadd dX10_write_91 ?_
              rw [show (nI s) + (nI (q.2 - q.1 + 1)) = nI (s + (q.2 - q.1) + 1) from (nI_add _ _).trans (by rw [show s + (q.2 - q.1 + 1) = s + (q.2 - q.1) + 1 by omega])]
              refine x_istore_n (i := 2) (lv' := [(0, x_r (some m)), (1, x_i i), (2, x_i (nI (s + (q.2 - q.1) + 1))), (3, x_i (nI k)), (4, x_i (nI (q.2 - q.1)))]) dX10_write_92 rfl (by decide) rfl ?_
              refine x_iinc (i := 3) (x := nI k) (v := nI (k + 1)) (lv' := [(0, x_r (some m)), (1, x_i i), (2, x_i (nI (s + (q.2 - q.1) + 1))), (3, x_i (nI (k + 1))), (4, x_i (nI (q.2 - q.1)))]) dX10_write_93 rfl (nI_1 k) (by decide) rfl ?_
              refine x_goto (tgt := 9) dX10_write_96 (by decide) ?_
              show x_E _ _ _ _ 9 _ _ _
              rw [hd] at hQ
              have er : l.drop (k + 1) = [] := List.drop_of_length_le q80
              rw [z_tx_le er, z_kt_skip0 _ _ _ (fun j hj => nh j (by rw [List.length_map, z_sl_len] at hj; exact hj))] at hQ
              refine x_drop [0, 1, 2, 3] rfl ?_
              refine ih (k + 1) _ (by omega) (by omega) (by omega) ?_
              rw [er]
              exact hQ
            · skip
              have q80 : k + 1 < l.length := Nat.lt_of_not_le fun z => c80 (nI_le z (by omega))
              refine x_bipush (v := 32) dX10_write_83 (by decide) ?_
              refine x_ireturn dX10_write_85 rfl (rfl) ⟨Nat.le_refl _, Nat.le_refl _⟩ ?_
              refine (show z_kt _ s i = 32 from ?_) ▸ hQ
              rw [hd, z_tx_ne q80, List.map_append, z_kt_skip _ _ _ _ (fun j hj => nh j (by rw [List.length_map, z_sl_len] at hj; exact hj)), List.length_map, z_sl_len, List.map_cons]
              exact if_pos c70.symm
        · skip
          obtain ⟨j, hj, rfl⟩ : ∃ j, j < q.2 - q.1 ∧ i = nI (s + j) := by
            obtain ⟨u, hu, rfl⟩ := nI_of (x := i) (fun z => c34 (Int32.lt_of_lt_of_le z (nI_pos' (by omega))))
            have g1 : s ≤ u := Nat.le_of_not_lt fun z => c34 (nI_lt z (by omega))
            have g2 : u < s + (q.2 - q.1) := Nat.lt_of_not_le fun z => c42 (nI_le z hu)
            exact ⟨u - s, by omega, by rw [show s + (u - s) = u by omega]⟩
          refine x_aload_n (i := 0) (o := some m) dX10_write_45 rfl rfl ?_
          refine x_getRv (v := some (m + 2)) dX10_write_46 fX10_write_13 (i := 1002) rfl rfl (mPk_0 hK.1) (mPr_1002 hK.1) ?_
          refine x_aload_n (i := 0) (o := some m) dX10_write_49 rfl rfl ?_
          refine x_getRv (v := some (m + 3)) dX10_write_50 fX10_write_16 (i := 1003) rfl rfl (mPk_0 hK.1) (mPr_1003 hK.1) ?_
          refine x_iload_n (i := 3) (x := nI k) dX10_write_53 rfl rfl ?_
          refine x_ialoadN (n := k) (v := nI q.1) dX10_write_54 (mPk_3 hK.1) (rfl) (by show _ < x_ln h _; rw [mPl_3 hK.1]; omega) (by show x_ln h _ < _; rw [mPl_3 hK.1]; omega) (hw1) ?_
          refine x_iload_n (i := 1) (x := nI (s + j)) dX10_write_55 rfl rfl ?_
          refine x_iadd dX10_write_56 ?_
          rw [show (nI q.1) + (nI (s + j)) = nI (q.1 + (s + j)) from nI_add _ _]
          refine x_iload_n (i := 2) (x := nI s) dX10_write_57 rfl rfl ?_
          refine x_isub dX10_write_58 ?_
          rw [show (nI (q.1 + (s + j))) - (nI s) = nI (q.1 + j) from (pk_sub (by omega)).trans (by rw [show q.1 + (s + j) - s = q.1 + j by omega])]
          refine x_baloadN (n := q.1 + j) (v := x_rw h (m + 2) (q.1 + j)) dX10_write_59 (mPk_2 hK.1) (rfl) (by show _ < x_ln h _; rw [mPl_2 hK.1]; omega) (by show x_ln h _ < _; rw [mPl_2 hK.1]; omega) (rfl) ?_
          refine x_sipush (v := 255) dX10_write_60 (by decide) ?_
          refine x_iand dX10_write_63 ?_
          refine x_ireturn dX10_write_64 rfl (rfl) ⟨Nat.le_refl _, Nat.le_refl _⟩ ?_
          rw [hd, z_tx_hd, z_kt_get _ s j (x_rw h (m + 2) (q.1 + j) &&& 255) ?_ (by omega)] at hQ
          · exact hQ
          · rw [List.map_append, List.getElem?_append_left (by rw [List.length_map, z_sl_len]; omega), List.getElem?_map, z_sl_get hj]
            rfl
set_option maxHeartbeats 4000000 in
set_option maxRecDepth 100000 in
theorem c_writeM (G : x_G) {h : x_H} {m : Nat} {l : List (Nat × Nat)} {C : Nat → Int32} (hK : m_K h m l C) (i : Int32) : x_Call G mX10_write h [x_r (some m), x_i i] (some (x_i (z_kt ((z_tx (x_rw h (m + 2)) l).map (fun b => b &&& 255)) 0 i))) (x_sI h 1024 m 0) := by
  refine x_Ex.call (x_enter mwX10_write (Nat.le_of_ble_eq_true rfl) ?_)
  show x_E _ _ _ _ _ [(0, x_r (some m)), (1, x_i i)] _ _
  refine x_aload_n (i := 0) (o := some m) dX10_write_0 rfl rfl ?_
  refine x_iconst (v := 0) dX10_write_1 (by decide) ?_
  refine x_putI (i := 1024) dX10_write_2 pX10_write_68 rfl rfl (mPk_0 hK.1) (rfl) (by rfl) ?_
  refine x_iconst (v := 0) dX10_write_5 (by decide) ?_
  refine x_istore_n (i := 2) (lv' := [(0, x_r (some m)), (1, x_i i), (2, x_i 0)]) dX10_write_6 rfl (by decide) rfl ?_
  refine x_iconst (v := 0) dX10_write_7 (by decide) ?_
  refine x_istore_n (i := 3) (lv' := [(0, x_r (some m)), (1, x_i i), (2, x_i 0), (3, x_i 0)]) dX10_write_8 rfl (by decide) rfl ?_
  show x_E _ _ _ _ 9 _ _ _
  exact l_write G hK i _ _ 0 0 (Nat.zero_le _) rfl (Nat.zero_le _) ⟨by rw [List.drop_zero], rfl⟩
set_option maxHeartbeats 4000000 in
set_option maxRecDepth 100000 in
theorem c_unitM_t (G : x_G) {h : x_H} {m : Nat} (hp : mP h m) {n : Nat} (hn : x_fi h 1001 m = nI n) (h3 : n < 3000) {u : Int32} (hu : 0 ≤ u ∧ u ≤ 255) : x_Call G mX10_unit h [x_r (some m), x_i u] (some (x_i 1)) (x_sI (x_sA (x_sI h 1024 m 0) (m + 1) n u.toInt8.toInt32) 1001 m (nI (n + 1))) := by
  refine x_Ex.call (x_enter mwX10_unit (Nat.le_of_ble_eq_true rfl) ?_)
  show x_E _ _ _ _ _ [(0, x_r (some m)), (1, x_i u)] _ _
  refine x_aload_n (i := 0) (o := some m) dX10_unit_0 rfl rfl ?_
  refine x_iconst (v := 0) dX10_unit_1 (by decide) ?_
  refine x_putI (i := 1024) dX10_unit_2 pX10_unit_68 rfl rfl (mPk_0 hp) (rfl) (by rfl) ?_
  refine x_iload_n (i := 1) (x := u) dX10_unit_5 rfl rfl ?_
  refine x_if_lt (tgt := 26) dX10_unit_6 (by decide) (fun c6 => ?_) (fun c6 => ?_)
  · skip
    exact absurd hu.1 (Int32.not_le.mpr c6)
  · skip
    refine x_iload_n (i := 1) (x := u) dX10_unit_9 rfl rfl ?_
    refine x_sipush (v := 255) dX10_unit_10 (by decide) ?_
    refine x_icmp_gt (tgt := 26) dX10_unit_13 (by decide) (fun c13 => ?_) (fun c13 => ?_)
    · skip
      exact absurd hu.2 (Int32.not_le.mpr c13)
    · skip
      refine x_aload_n (i := 0) (o := some m) dX10_unit_16 rfl rfl ?_
      refine x_getIv (v := nI n) dX10_unit_17 fX10_unit_71 (i := 1001) rfl rfl (mPk_0 hp) ((by rw [x_fi_sI, if_neg (by omega)]; exact hn)) ?_
      refine x_sipush (v := 3000) dX10_unit_20 (by decide) ?_
      refine x_icmp_ne (tgt := 28) dX10_unit_23 (by decide) (fun c23 => ?_) (fun c23 => ?_)
      · skip
        refine x_aload_n (i := 0) (o := some m) dX10_unit_28 rfl rfl ?_
        refine x_getRv (v := some (m + 1)) dX10_unit_29 fX10_unit_7 (i := 1000) rfl rfl (mPk_0 hp) (mPr_1000 hp) ?_
        refine x_aload_n (i := 0) (o := some m) dX10_unit_32 rfl rfl ?_
        refine x_getIv (v := nI n) dX10_unit_33 fX10_unit_71 (i := 1001) rfl rfl (mPk_0 hp) ((by rw [x_fi_sI, if_neg (by omega)]; exact hn)) ?_
        refine x_iload_n (i := 1) (x := u) dX10_unit_36 rfl rfl ?_
        refine x_i2b dX10_unit_37 ?_
        refine x_bastoreN (n := n) (v := u.toInt8.toInt32) dX10_unit_38 (mPk_1 hp) (rfl) (by show _ < x_ln h _; rw [mPl_1 hp]; omega) (by show x_ln h _ < _; rw [mPl_1 hp]; omega) (by show (.int (u.toInt8.toInt32.toInt8.toInt32) : Value) = _; simp) ?_
        refine x_aload_n (i := 0) (o := some m) dX10_unit_39 rfl rfl ?_
        refine x_dup dX10_unit_40 rfl ?_
        refine x_getIv (v := nI n) dX10_unit_41 fX10_unit_71 (i := 1001) rfl rfl (mPk_0 hp) ((by rw [x_fi_sA, x_fi_sI, if_neg (by omega)]; exact hn)) ?_
        refine x_iconst (v := 1) dX10_unit_44 (by decide) ?_
        refine x_iadd dX10_unit_45 ?_
        rw [show (nI n) + 1 = nI (n + 1) from nI_1 n]
        refine x_putI (i := 1001) dX10_unit_46 pX10_unit_71 rfl rfl (mPk_0 hp) (rfl) (by rfl) ?_
        refine x_iconst (v := 1) dX10_unit_49 (by decide) ?_
        refine x_ireturn dX10_unit_50 rfl (rfl) ⟨Nat.le_refl _, Nat.le_refl _⟩ ?_
        exact ⟨rfl, rfl⟩
      · skip
        exact absurd ((nI_eq (b := 3000) (by omega) (by omega)).mp c23) (by omega)
set_option maxHeartbeats 4000000 in
set_option maxRecDepth 100000 in
theorem c_unitM_f (G : x_G) {h : x_H} {m : Nat} (hp : mP h m) {n : Nat} (hn : x_fi h 1001 m = nI n) (h3 : n ≤ 3000) {u : Int32} (hu : ¬ (0 ≤ u ∧ u ≤ 255 ∧ n < 3000)) : x_Call G mX10_unit h [x_r (some m), x_i u] (some (x_i 0)) (x_sI h 1024 m 0) := by
  refine x_Ex.call (x_enter mwX10_unit (Nat.le_of_ble_eq_true rfl) ?_)
  show x_E _ _ _ _ _ [(0, x_r (some m)), (1, x_i u)] _ _
  refine x_aload_n (i := 0) (o := some m) dX10_unit_0 rfl rfl ?_
  refine x_iconst (v := 0) dX10_unit_1 (by decide) ?_
  refine x_putI (i := 1024) dX10_unit_2 pX10_unit_68 rfl rfl (mPk_0 hp) (rfl) (by rfl) ?_
  refine x_iload_n (i := 1) (x := u) dX10_unit_5 rfl rfl ?_
  refine x_if_lt (tgt := 26) dX10_unit_6 (by decide) (fun c6 => ?_) (fun c6 => ?_)
  · skip
    refine x_iconst (v := 0) dX10_unit_26 (by decide) ?_
    refine x_ireturn dX10_unit_27 rfl (rfl) ⟨Nat.le_refl _, Nat.le_refl _⟩ ?_
    exact ⟨rfl, rfl⟩
  · skip
    refine x_iload_n (i := 1) (x := u) dX10_unit_9 rfl rfl ?_
    refine x_sipush (v := 255) dX10_unit_10 (by decide) ?_
    refine x_icmp_gt (tgt := 26) dX10_unit_13 (by decide) (fun c13 => ?_) (fun c13 => ?_)
    · skip
      refine x_iconst (v := 0) dX10_unit_26 (by decide) ?_
      refine x_ireturn dX10_unit_27 rfl (rfl) ⟨Nat.le_refl _, Nat.le_refl _⟩ ?_
      exact ⟨rfl, rfl⟩
    · skip
      have hu2 : 0 ≤ u ∧ u ≤ 255 := ⟨Int32.not_lt.mp c6, Int32.not_lt.mp c13⟩
      refine x_aload_n (i := 0) (o := some m) dX10_unit_16 rfl rfl ?_
      refine x_getIv (v := nI n) dX10_unit_17 fX10_unit_71 (i := 1001) rfl rfl (mPk_0 hp) ((by rw [x_fi_sI, if_neg (by omega)]; exact hn)) ?_
      refine x_sipush (v := 3000) dX10_unit_20 (by decide) ?_
      refine x_icmp_ne (tgt := 28) dX10_unit_23 (by decide) (fun c23 => ?_) (fun c23 => ?_)
      · skip
        refine absurd ?_ hu
        exact ⟨hu2.1, hu2.2, Nat.lt_of_le_of_ne h3 fun z => c23 (by rw [z]; rfl)⟩
      · skip
        refine x_iconst (v := 0) dX10_unit_26 (by decide) ?_
        refine x_ireturn dX10_unit_27 rfl (rfl) ⟨Nat.le_refl _, Nat.le_refl _⟩ ?_
        exact ⟨rfl, rfl⟩
set_option maxHeartbeats 4000000 in
set_option maxRecDepth 100000 in
theorem c_partM_t (G : x_G) {h : x_H} {m : Nat} (hp : mP h m) {p : Nat} (h16 : p < 16) {lo hi : Int64} (h1 : 0 ≤ lo) (h2 : lo ≤ hi) (h3 : hi ≤ 1000000) : x_Call G mX10_part h [x_r (some m), x_i (nI p), x_l lo, x_l hi] (some (x_i 1)) (x_sA (x_sA (x_sA (x_sI h 1024 m 0) (m + 12) p 1) (m + 10) p lo.toInt32) (m + 11) p hi.toInt32) := by
  refine x_Ex.call (x_enter mwX10_part (Nat.le_of_ble_eq_true rfl) ?_)
  show x_E _ _ _ _ _ [(0, x_r (some m)), (1, x_i (nI p)), (2, x_l lo), (4, x_l hi)] _ _
  refine x_aload_n (i := 0) (o := some m) dX10_part_0 rfl rfl ?_
  refine x_iconst (v := 0) dX10_part_1 (by decide) ?_
  refine x_putI (i := 1024) dX10_part_2 pX10_part_68 rfl rfl (mPk_0 hp) (rfl) (by rfl) ?_
  refine x_iload_n (i := 1) (x := nI p) dX10_part_5 rfl rfl ?_
  refine x_if_lt (tgt := 37) dX10_part_6 (by decide) (fun c6 => ?_) (fun c6 => ?_)
  · skip
    exact absurd c6 (nI_pos (by omega))
  · skip
    refine x_iload_n (i := 1) (x := nI p) dX10_part_9 rfl rfl ?_
    refine x_bipush (v := 15) dX10_part_10 (by decide) ?_
    refine x_icmp_gt (tgt := 37) dX10_part_12 (by decide) (fun c12 => ?_) (fun c12 => ?_)
    · skip
      exact absurd ((nI_ltI (a := 15) (by omega) (by omega)).mp c12) (by omega)
    · skip
      refine x_lload_n (i := 2) (x := lo) dX10_part_15 rfl rfl ?_
      refine x_lconst (v := 0) dX10_part_16 (by decide) ?_
      refine x_lcmp dX10_part_17 ?_
      refine x_if_lt (tgt := 37) dX10_part_18 (by decide) (fun c18 => ?_) (fun c18 => ?_)
      · skip
        exact absurd h1 (Int64.not_le.mpr ((lg_cmp_lt _ _).mp c18))
      · skip
        refine x_lload_n (i := 2) (x := lo) dX10_part_21 rfl rfl ?_
        refine x_lload (i := 4) (x := hi) dX10_part_22 rfl ?_
        refine x_lcmp dX10_part_24 ?_
        refine x_if_gt (tgt := 37) dX10_part_25 (by decide) (fun c25 => ?_) (fun c25 => ?_)
        · skip
          exact absurd h2 (Int64.not_le.mpr ((lg_cmp_gt _ _).mp c25))
        · skip
          refine x_lload (i := 4) (x := hi) dX10_part_28 rfl ?_
          refine x_ldc2 (v := 1000000) dX10_part_30 kX10_part_182 ?_
          refine x_lcmp dX10_part_33 ?_
          refine x_if_le (tgt := 39) dX10_part_34 (by decide) (fun c34 => ?_) (fun c34 => ?_)
          · skip
            refine x_aload_n (i := 0) (o := some m) dX10_part_39 rfl rfl ?_
            refine x_getRv (v := some (m + 12)) dX10_part_40 fX10_part_44 (i := 1016) rfl rfl (mPk_0 hp) (mPr_1016 hp) ?_
            refine x_iload_n (i := 1) (x := nI p) dX10_part_43 rfl rfl ?_
            refine x_iconst (v := 1) dX10_part_44 (by decide) ?_
            refine x_zastoreN (n := p) (v := 1) dX10_part_45 (mPk_12 hp) (rfl) (by show _ < x_ln h _; rw [mPl_12 hp]; omega) (by show x_ln h _ < _; rw [mPl_12 hp]; omega) (rfl) ?_
            refine x_aload_n (i := 0) (o := some m) dX10_part_46 rfl rfl ?_
            refine x_getRv (v := some (m + 10)) dX10_part_47 fX10_part_38 (i := 1014) rfl rfl (mPk_0 hp) (mPr_1014 hp) ?_
            refine x_iload_n (i := 1) (x := nI p) dX10_part_50 rfl rfl ?_
            refine x_lload_n (i := 2) (x := lo) dX10_part_51 rfl rfl ?_
            refine x_l2i dX10_part_52 ?_
            refine x_iastoreN (n := p) (v := Int64.toInt32 lo) dX10_part_53 (mPk_10 hp) (rfl) (by show _ < x_ln h _; rw [mPl_10 hp]; omega) (by show x_ln h _ < _; rw [mPl_10 hp]; omega) (rfl) ?_
            refine x_aload_n (i := 0) (o := some m) dX10_part_54 rfl rfl ?_
            refine x_getRv (v := some (m + 11)) dX10_part_55 fX10_part_41 (i := 1015) rfl rfl (mPk_0 hp) (mPr_1015 hp) ?_
            refine x_iload_n (i := 1) (x := nI p) dX10_part_58 rfl rfl ?_
            refine x_lload (i := 4) (x := hi) dX10_part_59 rfl ?_
            refine x_l2i dX10_part_61 ?_
            refine x_iastoreN (n := p) (v := Int64.toInt32 hi) dX10_part_62 (mPk_11 hp) (rfl) (by show _ < x_ln h _; rw [mPl_11 hp]; omega) (by show x_ln h _ < _; rw [mPl_11 hp]; omega) (rfl) ?_
            refine x_iconst (v := 1) dX10_part_63 (by decide) ?_
            refine x_ireturn dX10_part_64 rfl (rfl) ⟨Nat.le_refl _, Nat.le_refl _⟩ ?_
            exact ⟨rfl, rfl⟩
          · skip
            exact absurd ((lg_cmp_le _ _).mpr h3) c34
set_option maxHeartbeats 4000000 in
set_option maxRecDepth 100000 in
theorem c_partM_f (G : x_G) {h : x_H} {m : Nat} (hp : mP h m) {p : Int32} {lo hi : Int64} (hn : ¬ (0 ≤ p ∧ p ≤ 15 ∧ 0 ≤ lo ∧ lo ≤ hi ∧ hi ≤ 1000000)) : x_Call G mX10_part h [x_r (some m), x_i p, x_l lo, x_l hi] (some (x_i 0)) (x_sI h 1024 m 0) := by
  refine x_Ex.call (x_enter mwX10_part (Nat.le_of_ble_eq_true rfl) ?_)
  show x_E _ _ _ _ _ [(0, x_r (some m)), (1, x_i p), (2, x_l lo), (4, x_l hi)] _ _
  refine x_aload_n (i := 0) (o := some m) dX10_part_0 rfl rfl ?_
  refine x_iconst (v := 0) dX10_part_1 (by decide) ?_
  refine x_putI (i := 1024) dX10_part_2 pX10_part_68 rfl rfl (mPk_0 hp) (rfl) (by rfl) ?_
  refine x_iload_n (i := 1) (x := p) dX10_part_5 rfl rfl ?_
  refine x_if_lt (tgt := 37) dX10_part_6 (by decide) (fun c6 => ?_) (fun c6 => ?_)
  · skip
    refine x_iconst (v := 0) dX10_part_37 (by decide) ?_
    refine x_ireturn dX10_part_38 rfl (rfl) ⟨Nat.le_refl _, Nat.le_refl _⟩ ?_
    exact ⟨rfl, rfl⟩
  · skip
    refine x_iload_n (i := 1) (x := p) dX10_part_9 rfl rfl ?_
    refine x_bipush (v := 15) dX10_part_10 (by decide) ?_
    refine x_icmp_gt (tgt := 37) dX10_part_12 (by decide) (fun c12 => ?_) (fun c12 => ?_)
    · skip
      refine x_iconst (v := 0) dX10_part_37 (by decide) ?_
      refine x_ireturn dX10_part_38 rfl (rfl) ⟨Nat.le_refl _, Nat.le_refl _⟩ ?_
      exact ⟨rfl, rfl⟩
    · skip
      refine x_lload_n (i := 2) (x := lo) dX10_part_15 rfl rfl ?_
      refine x_lconst (v := 0) dX10_part_16 (by decide) ?_
      refine x_lcmp dX10_part_17 ?_
      refine x_if_lt (tgt := 37) dX10_part_18 (by decide) (fun c18 => ?_) (fun c18 => ?_)
      · skip
        refine x_iconst (v := 0) dX10_part_37 (by decide) ?_
        refine x_ireturn dX10_part_38 rfl (rfl) ⟨Nat.le_refl _, Nat.le_refl _⟩ ?_
        exact ⟨rfl, rfl⟩
      · skip
        refine x_lload_n (i := 2) (x := lo) dX10_part_21 rfl rfl ?_
        refine x_lload (i := 4) (x := hi) dX10_part_22 rfl ?_
        refine x_lcmp dX10_part_24 ?_
        refine x_if_gt (tgt := 37) dX10_part_25 (by decide) (fun c25 => ?_) (fun c25 => ?_)
        · skip
          refine x_iconst (v := 0) dX10_part_37 (by decide) ?_
          refine x_ireturn dX10_part_38 rfl (rfl) ⟨Nat.le_refl _, Nat.le_refl _⟩ ?_
          exact ⟨rfl, rfl⟩
        · skip
          refine x_lload (i := 4) (x := hi) dX10_part_28 rfl ?_
          refine x_ldc2 (v := 1000000) dX10_part_30 kX10_part_182 ?_
          refine x_lcmp dX10_part_33 ?_
          refine x_if_le (tgt := 39) dX10_part_34 (by decide) (fun c34 => ?_) (fun c34 => ?_)
          · skip
            exact absurd ⟨Int32.not_lt.mp c6, Int32.not_lt.mp c12, Int64.not_lt.mp fun z => c18 ((lg_cmp_lt _ _).mpr z), Int64.not_lt.mp fun z => c25 ((lg_cmp_gt _ _).mpr z), (lg_cmp_le _ _).mp c34⟩ hn
          · skip
            refine x_iconst (v := 0) dX10_part_37 (by decide) ?_
            refine x_ireturn dX10_part_38 rfl (rfl) ⟨Nat.le_refl _, Nat.le_refl _⟩ ?_
            exact ⟨rfl, rfl⟩
set_option maxHeartbeats 4000000 in
set_option maxRecDepth 100000 in
theorem c_testM_t (G : x_G) {h : x_H} {m : Nat} (hp : mP h m) {p : Nat} (h8 : p < 8) {v : Int32} (h1 : -1 ≤ v) (h2 : v ≤ 9) : x_Call G mX10_test h [x_r (some m), x_i (nI p), x_i v] (some (x_i 1)) (x_sA (x_sI h 1024 m 0) (m + 13) p v) := by
  refine x_Ex.call (x_enter mwX10_test (Nat.le_of_ble_eq_true rfl) ?_)
  show x_E _ _ _ _ _ [(0, x_r (some m)), (1, x_i (nI p)), (2, x_i v)] _ _
  refine x_aload_n (i := 0) (o := some m) dX10_test_0 rfl rfl ?_
  refine x_iconst (v := 0) dX10_test_1 (by decide) ?_
  refine x_putI (i := 1024) dX10_test_2 pX10_test_68 rfl rfl (mPk_0 hp) (rfl) (by rfl) ?_
  refine x_iload_n (i := 1) (x := nI p) dX10_test_5 rfl rfl ?_
  refine x_if_lt (tgt := 26) dX10_test_6 (by decide) (fun c6 => ?_) (fun c6 => ?_)
  · skip
    exact absurd c6 (nI_pos (by omega))
  · skip
    refine x_iload_n (i := 1) (x := nI p) dX10_test_9 rfl rfl ?_
    refine x_bipush (v := 7) dX10_test_10 (by decide) ?_
    refine x_icmp_gt (tgt := 26) dX10_test_12 (by decide) (fun c12 => ?_) (fun c12 => ?_)
    · skip
      exact absurd ((nI_ltI (a := 7) (by omega) (by omega)).mp c12) (by omega)
    · skip
      refine x_iload_n (i := 2) (x := v) dX10_test_15 rfl rfl ?_
      refine x_iconst (v := (-1)) dX10_test_16 (by decide) ?_
      refine x_icmp_lt (tgt := 26) dX10_test_17 (by decide) (fun c17 => ?_) (fun c17 => ?_)
      · skip
        exact absurd h1 (Int32.not_le.mpr c17)
      · skip
        refine x_iload_n (i := 2) (x := v) dX10_test_20 rfl rfl ?_
        refine x_bipush (v := 9) dX10_test_21 (by decide) ?_
        refine x_icmp_le (tgt := 28) dX10_test_23 (by decide) (fun c23 => ?_) (fun c23 => ?_)
        · skip
          refine x_aload_n (i := 0) (o := some m) dX10_test_28 rfl rfl ?_
          refine x_getRv (v := some (m + 13)) dX10_test_29 fX10_test_48 (i := 1017) rfl rfl (mPk_0 hp) (mPr_1017 hp) ?_
          refine x_iload_n (i := 1) (x := nI p) dX10_test_32 rfl rfl ?_
          refine x_iload_n (i := 2) (x := v) dX10_test_33 rfl rfl ?_
          refine x_iastoreN (n := p) (v := v) dX10_test_34 (mPk_13 hp) (rfl) (by show _ < x_ln h _; rw [mPl_13 hp]; omega) (by show x_ln h _ < _; rw [mPl_13 hp]; omega) (rfl) ?_
          refine x_iconst (v := 1) dX10_test_35 (by decide) ?_
          refine x_ireturn dX10_test_36 rfl (rfl) ⟨Nat.le_refl _, Nat.le_refl _⟩ ?_
          exact ⟨rfl, rfl⟩
        · skip
          exact absurd h2 c23
set_option maxHeartbeats 4000000 in
set_option maxRecDepth 100000 in
theorem c_testM_f (G : x_G) {h : x_H} {m : Nat} (hp : mP h m) {p v : Int32} (hn : ¬ (0 ≤ p ∧ p ≤ 7 ∧ -1 ≤ v ∧ v ≤ 9)) : x_Call G mX10_test h [x_r (some m), x_i p, x_i v] (some (x_i 0)) (x_sI h 1024 m 0) := by
  refine x_Ex.call (x_enter mwX10_test (Nat.le_of_ble_eq_true rfl) ?_)
  show x_E _ _ _ _ _ [(0, x_r (some m)), (1, x_i p), (2, x_i v)] _ _
  refine x_aload_n (i := 0) (o := some m) dX10_test_0 rfl rfl ?_
  refine x_iconst (v := 0) dX10_test_1 (by decide) ?_
  refine x_putI (i := 1024) dX10_test_2 pX10_test_68 rfl rfl (mPk_0 hp) (rfl) (by rfl) ?_
  refine x_iload_n (i := 1) (x := p) dX10_test_5 rfl rfl ?_
  refine x_if_lt (tgt := 26) dX10_test_6 (by decide) (fun c6 => ?_) (fun c6 => ?_)
  · skip
    refine x_iconst (v := 0) dX10_test_26 (by decide) ?_
    refine x_ireturn dX10_test_27 rfl (rfl) ⟨Nat.le_refl _, Nat.le_refl _⟩ ?_
    exact ⟨rfl, rfl⟩
  · skip
    refine x_iload_n (i := 1) (x := p) dX10_test_9 rfl rfl ?_
    refine x_bipush (v := 7) dX10_test_10 (by decide) ?_
    refine x_icmp_gt (tgt := 26) dX10_test_12 (by decide) (fun c12 => ?_) (fun c12 => ?_)
    · skip
      refine x_iconst (v := 0) dX10_test_26 (by decide) ?_
      refine x_ireturn dX10_test_27 rfl (rfl) ⟨Nat.le_refl _, Nat.le_refl _⟩ ?_
      exact ⟨rfl, rfl⟩
    · skip
      refine x_iload_n (i := 2) (x := v) dX10_test_15 rfl rfl ?_
      refine x_iconst (v := (-1)) dX10_test_16 (by decide) ?_
      refine x_icmp_lt (tgt := 26) dX10_test_17 (by decide) (fun c17 => ?_) (fun c17 => ?_)
      · skip
        refine x_iconst (v := 0) dX10_test_26 (by decide) ?_
        refine x_ireturn dX10_test_27 rfl (rfl) ⟨Nat.le_refl _, Nat.le_refl _⟩ ?_
        exact ⟨rfl, rfl⟩
      · skip
        refine x_iload_n (i := 2) (x := v) dX10_test_20 rfl rfl ?_
        refine x_bipush (v := 9) dX10_test_21 (by decide) ?_
        refine x_icmp_le (tgt := 28) dX10_test_23 (by decide) (fun c23 => ?_) (fun c23 => ?_)
        · skip
          exact absurd ⟨Int32.not_lt.mp c6, Int32.not_lt.mp c12, Int32.not_lt.mp c17, c23⟩ hn
        · skip
          refine x_iconst (v := 0) dX10_test_26 (by decide) ?_
          refine x_ireturn dX10_test_27 rfl (rfl) ⟨Nat.le_refl _, Nat.le_refl _⟩ ?_
          exact ⟨rfl, rfl⟩
set_option maxHeartbeats 4000000 in
set_option maxRecDepth 100000 in
theorem c_wayM (G : x_G) {h : x_H} {m : Nat} (hp : mP h m) {s : Bool} (hs : x_fi h 1018 m = if s = true then 1 else 0) (b : Bool) : x_Call G mX10_way h [x_r (some m), x_i (if b = true then 1 else 0)] (some (x_i (if s = true then 1 else 0))) (x_sI (x_sI h 1024 m 0) 1018 m (if b = true then 1 else 0)) := by
  refine x_Ex.call (x_enter mwX10_way (Nat.le_of_ble_eq_true rfl) ?_)
  show x_E _ _ _ _ _ [(0, x_r (some m)), (1, x_i (if b = true then 1 else 0))] _ _
  refine x_aload_n (i := 0) (o := some m) dX10_way_0 rfl rfl ?_
  refine x_iconst (v := 0) dX10_way_1 (by decide) ?_
  refine x_putI (i := 1024) dX10_way_2 pX10_way_68 rfl rfl (mPk_0 hp) (rfl) (by rfl) ?_
  refine x_aload_n (i := 0) (o := some m) dX10_way_5 rfl rfl ?_
  refine x_getIv (v := if s = true then 1 else 0) dX10_way_6 fX10_way_51 (i := 1018) rfl rfl (mPk_0 hp) ((by rw [x_fi_sI, if_neg (by omega)]; exact hs)) ?_
  refine x_istore_n (i := 2) (lv' := [(0, x_r (some m)), (1, x_i (if b = true then 1 else 0)), (2, x_i (if s = true then 1 else 0))]) dX10_way_9 rfl (by decide) rfl ?_
  refine x_aload_n (i := 0) (o := some m) dX10_way_10 rfl rfl ?_
  refine x_iload_n (i := 1) (x := if b = true then 1 else 0) dX10_way_11 rfl rfl ?_
  refine x_putI (i := 1018) dX10_way_12 pX10_way_51 rfl rfl (mPk_0 hp) (by cases b <;> rfl) (by cases b <;> rfl) ?_
  refine x_iload_n (i := 2) (x := if s = true then 1 else 0) dX10_way_15 rfl rfl ?_
  refine x_ireturn dX10_way_16 rfl (by cases s <;> rfl) ⟨Nat.le_refl _, Nat.le_refl _⟩ ?_
  exact ⟨rfl, rfl⟩
set_option maxHeartbeats 4000000 in
set_option maxRecDepth 100000 in
theorem c_thrownM (G : x_G) {h : x_H} {m : Nat} (hp : mP h m) : x_Call G mX10_thrown h [x_r (some m)] (some (x_i (x_fi h 1024 m))) h := by
  refine x_Ex.call (x_enter mwX10_thrown (Nat.le_of_ble_eq_true rfl) ?_)
  show x_E _ _ _ _ _ [(0, x_r (some m))] _ _
  refine x_aload_n (i := 0) (o := some m) dX10_thrown_0 rfl rfl ?_
  refine x_getIv (v := x_fi h 1024 m) dX10_thrown_1 fX10_thrown_68 (i := 1024) rfl rfl (mPk_0 hp) (rfl) ?_
  refine x_ireturn dX10_thrown_4 rfl (rfl) ⟨Nat.le_refl _, Nat.le_refl _⟩ ?_
  exact ⟨rfl, rfl⟩
set_option maxHeartbeats 4000000 in
set_option maxRecDepth 100000 in
theorem l_clear2 (G : x_G) {h : x_H} {m : Nat} (hp : mP h m) (Q : Option x_V → x_H → Prop) : ∀ (n i : Nat) (h1 : x_H), i ≤ 8 → 8 - i = n → x_F h h1 (fun i a => a = m ∧ i = 1024) (fun a => a = m + 12 ∨ a = m + 13) → (∀ t, t < i → x_rw h1 (m + 13) t = -1) → (∀ p, p < 16 → x_rw h1 (m + 12) p = 0) → (∀ h2, x_F h h2 (fun i a => a = m ∧ i = 1024) (fun a => a = m + 12 ∨ a = m + 13) → (∀ t, t < 8 → x_rw h2 (m + 13) t = -1) → (∀ p, p < 16 → x_rw h2 (m + 12) p = 0) → x_fi h2 1024 m = x_fi h1 1024 m → Q none h2) → x_E G mX10_clearParts (x_D G mX10_clearParts h Q) h 28 [(0, x_r (some m)), (1, x_i (nI i))] [] h1 := by
  intro n
  induction n with
  | zero =>
    intro i h1 hi hn hF1 h8 h16 hQ
    have ei : i = 8 := by omega
    subst ei
    have hp1 := hF1.pm hp
    refine x_iload_n (i := 1) (x := nI 8) dX10_clearParts_28 rfl rfl ?_
    refine x_bipush (v := 7) dX10_clearParts_29 (by decide) ?_
    refine x_icmp_gt (tgt := 47) dX10_clearParts_31 (by decide) (fun c31 => ?_) (fun c31 => ?_)
    · skip
      refine x_return dX10_clearParts_47 rfl hF1.le ?_
      exact hQ _ hF1 h8 h16 rfl
    · skip
      exact absurd (by decide) c31
  | succ n ih =>
    intro i h1 hi hn hF1 h8 h16 hQ
    have hp1 := hF1.pm hp
    refine x_iload_n (i := 1) (x := nI i) dX10_clearParts_28 rfl rfl ?_
    refine x_bipush (v := 7) dX10_clearParts_29 (by decide) ?_
    refine x_icmp_gt (tgt := 47) dX10_clearParts_31 (by decide) (fun c31 => ?_) (fun c31 => ?_)
    · skip
      exact absurd ((nI_ltI (a := 7) (by omega) (by omega)).mp c31) (by omega)
    · skip
      refine x_aload_n (i := 0) (o := some m) dX10_clearParts_34 rfl rfl ?_
      refine x_getRv (v := some (m + 13)) dX10_clearParts_35 fX10_clearParts_48 (i := 1017) rfl rfl (mPk_0 hp1) (mPr_1017 hp1) ?_
      refine x_iload_n (i := 1) (x := nI i) dX10_clearParts_38 rfl rfl ?_
      refine x_iconst (v := (-1)) dX10_clearParts_39 (by decide) ?_
      refine x_iastoreN (n := i) (v := (-1)) dX10_clearParts_40 (mPk_13 hp1) (rfl) (by rw [mPl_13 hp1]; omega) (by rw [mPl_13 hp1]; omega) (rfl) ?_
      refine x_iinc (i := 1) (x := nI i) (v := nI (i + 1)) (lv' := [(0, x_r (some m)), (1, x_i (nI (i + 1)))]) dX10_clearParts_41 rfl (nI_1 i) (by decide) rfl ?_
      refine x_goto (tgt := 28) dX10_clearParts_44 (by decide) ?_
      show x_E _ _ _ _ 28 _ _ _
      refine ih (i + 1) _ (by omega) (by omega) (hF1.A (Or.inr rfl)) ?_ (fun p hp16 => ?_) hQ
      · intro t ht
        rw [x_rw_sA]
        split
        · rfl
        · exact h8 t (by omega)
      · rw [x_rw_sA, if_neg (by omega)]
        exact h16 p hp16
set_option maxHeartbeats 4000000 in
set_option maxRecDepth 100000 in
theorem l_clear1 (G : x_G) {h : x_H} {m : Nat} (hp : mP h m) (Q : Option x_V → x_H → Prop) : ∀ (n i : Nat) (h1 : x_H), i ≤ 16 → 16 - i = n → x_F h h1 (fun i a => a = m ∧ i = 1024) (fun a => a = m + 12 ∨ a = m + 13) → (∀ p, p < i → x_rw h1 (m + 12) p = 0) → (∀ h2, x_F h h2 (fun i a => a = m ∧ i = 1024) (fun a => a = m + 12 ∨ a = m + 13) → (∀ t, t < 8 → x_rw h2 (m + 13) t = -1) → (∀ p, p < 16 → x_rw h2 (m + 12) p = 0) → x_fi h2 1024 m = x_fi h1 1024 m → Q none h2) → x_E G mX10_clearParts (x_D G mX10_clearParts h Q) h 7 [(0, x_r (some m)), (1, x_i (nI i))] [] h1 := by
  intro n
  induction n with
  | zero =>
    intro i h1 hi hn hF1 h16 hQ
    have ei : i = 16 := by omega
    subst ei
    have hp1 := hF1.pm hp
    refine x_iload_n (i := 1) (x := nI 16) dX10_clearParts_7 rfl rfl ?_
    refine x_bipush (v := 15) dX10_clearParts_8 (by decide) ?_
    refine x_icmp_gt (tgt := 26) dX10_clearParts_10 (by decide) (fun c10 => ?_) (fun c10 => ?_)
    · skip
      refine x_iconst (v := 0) dX10_clearParts_26 (by decide) ?_
      refine x_istore_n (i := 1) (lv' := [(0, x_r (some m)), (1, x_i 0)]) dX10_clearParts_27 rfl (by decide) rfl ?_
      show x_E _ _ _ _ 28 _ _ _
      exact l_clear2 G hp Q 8 0 h1 (by omega) rfl hF1 (fun _ z => absurd z (Nat.not_lt_zero _)) h16 hQ
    · skip
      exact absurd (by decide) c10
  | succ n ih =>
    intro i h1 hi hn hF1 h16 hQ
    have hp1 := hF1.pm hp
    refine x_iload_n (i := 1) (x := nI i) dX10_clearParts_7 rfl rfl ?_
    refine x_bipush (v := 15) dX10_clearParts_8 (by decide) ?_
    refine x_icmp_gt (tgt := 26) dX10_clearParts_10 (by decide) (fun c10 => ?_) (fun c10 => ?_)
    · skip
      exact absurd ((nI_ltI (a := 15) (by omega) (by omega)).mp c10) (by omega)
    · skip
      refine x_aload_n (i := 0) (o := some m) dX10_clearParts_13 rfl rfl ?_
      refine x_getRv (v := some (m + 12)) dX10_clearParts_14 fX10_clearParts_44 (i := 1016) rfl rfl (mPk_0 hp1) (mPr_1016 hp1) ?_
      refine x_iload_n (i := 1) (x := nI i) dX10_clearParts_17 rfl rfl ?_
      refine x_iconst (v := 0) dX10_clearParts_18 (by decide) ?_
      refine x_zastoreN (n := i) (v := 0) dX10_clearParts_19 (mPk_12 hp1) (rfl) (by rw [mPl_12 hp1]; omega) (by rw [mPl_12 hp1]; omega) (rfl) ?_
      refine x_iinc (i := 1) (x := nI i) (v := nI (i + 1)) (lv' := [(0, x_r (some m)), (1, x_i (nI (i + 1)))]) dX10_clearParts_20 rfl (nI_1 i) (by decide) rfl ?_
      refine x_goto (tgt := 7) dX10_clearParts_23 (by decide) ?_
      show x_E _ _ _ _ 7 _ _ _
      refine ih (i + 1) _ (by omega) (by omega) (hF1.A (Or.inl rfl)) (fun p hp16 => ?_) hQ
      rw [x_rw_sA]
      split
      · rfl
      · exact h16 p (by omega)
set_option maxHeartbeats 4000000 in
set_option maxRecDepth 100000 in
theorem c_clearM (G : x_G) {h : x_H} {m : Nat} (hp : mP h m) : x_Ex G mX10_clearParts h [x_r (some m)] (fun r h2 => r = none ∧ x_F h h2 (fun i a => a = m ∧ i = 1024) (fun a => a = m + 12 ∨ a = m + 13) ∧ (∀ t, t < 8 → x_rw h2 (m + 13) t = -1) ∧ (∀ p, p < 16 → x_rw h2 (m + 12) p = 0) ∧ x_fi h2 1024 m = 0) := by
  refine x_enter mwX10_clearParts (Nat.le_of_ble_eq_true rfl) ?_
  show x_E _ _ _ _ _ [(0, x_r (some m))] _ _
  refine x_aload_n (i := 0) (o := some m) dX10_clearParts_0 rfl rfl ?_
  refine x_iconst (v := 0) dX10_clearParts_1 (by decide) ?_
  refine x_putI (i := 1024) dX10_clearParts_2 pX10_clearParts_68 rfl rfl (mPk_0 hp) (rfl) (by rfl) ?_
  refine x_iconst (v := 0) dX10_clearParts_5 (by decide) ?_
  refine x_istore_n (i := 1) (lv' := [(0, x_r (some m)), (1, x_i 0)]) dX10_clearParts_6 rfl (by decide) rfl ?_
  show x_E _ _ _ _ 7 _ _ _
  refine l_clear1 G hp _ 16 0 _ (by omega) rfl (x_F.rf.I ⟨rfl, rfl⟩) (fun _ z => absurd z (Nat.not_lt_zero _)) (fun h2 a1 a2 a3 a4 => ⟨rfl, a1, a2, a3, a4.trans ?_⟩)
  rw [x_fi_sI, if_pos ⟨rfl, rfl⟩]
