/-! THE REFERENCE: split -/
/-- what split has done so far: the words l, from the text of h -/
def m_S (h h1 : x_H) (m n : Nat) (l : List (Nat × Nat)) (k : Nat) : Prop := x_F h h1 (fun i a => i = 1008 ∧ a = m) (fun a => a = m + 5 ∨ a = m + 6) ∧ x_fi h1 1008 m = nI l.length ∧ 2 * l.length ≤ k ∧ k ≤ n + 1 ∧ ∀ (j : Nat) (q : Nat × Nat), l[j]? = some q → x_rw h1 (m + 5) j = nI q.1 ∧ x_rw h1 (m + 6) j = nI q.2 ∧ q.1 < q.2 ∧ q.2 ≤ n
theorem m_S.step {h h1 : x_H} {m n : Nat} {l : List (Nat × Nat)} {k s : Nat} (a : m_S h h1 m n l k) (h1k : k < s) (h2 : s ≤ n) : m_S h (x_sI (x_sA (x_sA h1 (m + 5) l.length (nI k)) (m + 6) l.length (nI s)) 1008 m (nI (l.length + 1))) m n (l ++ [(k, s)]) (s + 1) := by
  obtain ⟨a1, a2, a3, a4, a5⟩ := a
  refine ⟨((a1.A (Or.inl rfl)).A (Or.inr rfl)).I ⟨rfl, rfl⟩, ?_, ?_, by omega, fun j q hj => ?_⟩
  · rw [x_fi_sI, if_pos ⟨rfl, rfl⟩, List.length_append]
    rfl
  · rw [List.length_append]
    simp
    omega
  · by_cases hl : j < l.length
    · rw [List.getElem?_append_left hl] at hj
      obtain ⟨b1, b2, b3⟩ := a5 j q hj
      refine ⟨?_, ?_, b3⟩
      · simp only [x_rw_sI, x_rw_sA]
        rw [if_neg (by omega), if_neg (by omega)]
        exact b1
      · simp only [x_rw_sI, x_rw_sA]
        rw [if_neg (by omega), if_neg (by omega)]
        exact b2
    · have hz := (List.getElem?_eq_some_iff.mp hj).1
      rw [List.length_append] at hz
      have hj0 : j = l.length := by simp at hz; omega
      subst hj0
      rw [List.getElem?_append_right (by omega), Nat.sub_self] at hj
      cases hj
      refine ⟨?_, ?_, h1k, h2⟩
      · simp only [x_rw_sI, x_rw_sA]
        rw [if_neg (by omega), if_pos (by simp)]
      · simp only [x_rw_sI, x_rw_sA]
        rw [if_pos (by simp)]
set_option maxHeartbeats 4000000 in
set_option maxRecDepth 100000 in
theorem l_split_i (G : x_G) {h h1 : x_H} {m n : Nat} (hp : mP h m) (hn : x_fi h 1001 m = nI n) (hn2 : n ≤ 3000) {l : List (Nat × Nat)} {k : Nat} (hS : m_S h h1 m n l k) (Q : Option x_V → x_H → Prop) : ∀ (f s : Nat), s ≤ n → n - s ≤ f → x_E G mX10_split (x_D G mX10_split h Q) h 43 [(0, x_r (some m)), (1, x_i (nI k)), (2, x_i (nI (z_stop (x_rw h (m + 1)) n f s)))] [] h1 → x_E G mX10_split (x_D G mX10_split h Q) h 17 [(0, x_r (some m)), (1, x_i (nI k)), (2, x_i (nI s))] [] h1 := by
  intro f
  induction f with
  | zero =>
    intro s hs hf hk
    refine x_iload_n (i := 2) (x := nI s) dX10_split_17 rfl rfl ?_
    refine x_aload_n (i := 0) (o := some m) dX10_split_18 rfl rfl ?_
    refine x_getIv (v := nI n) dX10_split_19 fX10_split_71 (i := 1001) rfl rfl (mPk_0 (hS.1.pm hp)) ((hS.1.fi (by omega)).trans hn) ?_
    refine x_icmp_ge (tgt := 43) dX10_split_22 (by decide) (fun c22 => ?_) (fun c22 => ?_)
    · skip
      exact hk
    · skip
      exact absurd (nI_le (by omega) (by omega)) c22
  | succ f ih =>
    intro s hs hf hk
    unfold z_stop at hk
    refine x_iload_n (i := 2) (x := nI s) dX10_split_17 rfl rfl ?_
    refine x_aload_n (i := 0) (o := some m) dX10_split_18 rfl rfl ?_
    refine x_getIv (v := nI n) dX10_split_19 fX10_split_71 (i := 1001) rfl rfl (mPk_0 (hS.1.pm hp)) ((hS.1.fi (by omega)).trans hn) ?_
    refine x_icmp_ge (tgt := 43) dX10_split_22 (by decide) (fun c22 => ?_) (fun c22 => ?_)
    · skip
      have q22 := (nI_leI (by omega) (by omega)).mp c22
      rw [if_pos q22] at hk
      exact hk
    · skip
      have q22 : ¬ n ≤ s := fun z => c22 (nI_le z (by omega))
      refine x_aload_n (i := 0) (o := some m) dX10_split_25 rfl rfl ?_
      refine x_getRv (v := some (m + 1)) dX10_split_26 fX10_split_7 (i := 1000) rfl rfl (mPk_0 (hS.1.pm hp)) (mPr_1000 (hS.1.pm hp)) ?_
      refine x_iload_n (i := 2) (x := nI s) dX10_split_29 rfl rfl ?_
      refine x_baloadN (n := s) (v := x_rw h (m + 1) s) dX10_split_30 (mPk_1 (hS.1.pm hp)) (rfl) (by rw [mPl_1 (hS.1.pm hp)]; omega) (by rw [mPl_1 (hS.1.pm hp)]; omega) (by rw [hS.1.rw (by omega)]) ?_
      refine x_callS (av := [x_i (x_rw h (m + 1) s)]) (rest := []) (r := (some (x_i (if z_gap (x_rw h (m + 1) s) = true then 1 else 0)))) (h1 := h1) dX10_split_31 sX10_split_77 rfl rfl (Nat.le_of_ble_eq_true rfl) hS.1.le (c_isGap G h1 _) ?_
      show x_E _ _ _ _ 34 _ [x_i (if z_gap (x_rw h (m + 1) s) = true then 1 else 0)] _
      refine x_if_ne (tgt := 43) dX10_split_34 (by decide) (fun c34 => ?_) (fun c34 => ?_)
      · skip
        have q34 : z_gap (x_rw h (m + 1) s) = true := by
          by_cases z : z_gap (x_rw h (m + 1) s) = true
          · exact z
          · rw [if_neg z] at c34; exact absurd rfl c34
        rw [if_neg q22, if_pos q34] at hk
        exact hk
      · skip
        have q34 : ¬ z_gap (x_rw h (m + 1) s) = true := by
          intro z
          rw [if_pos z] at c34
          exact absurd c34 (by decide)
        refine x_iinc (i := 2) (x := nI s) (v := nI (s + 1)) (lv' := [(0, x_r (some m)), (1, x_i (nI k)), (2, x_i (nI (s + 1)))]) dX10_split_37 rfl (nI_1 s) (by decide) rfl ?_
        refine x_goto (tgt := 17) dX10_split_40 (by decide) ?_
        refine ih (s + 1) (by omega) (by omega) ?_
        rw [if_neg q22, if_neg q34] at hk
        exact hk
set_option maxHeartbeats 4000000 in
set_option maxRecDepth 100000 in
theorem l_split (G : x_G) {h : x_H} {m n : Nat} (hp : mP h m) (hn : x_fi h 1001 m = nI n) (hn2 : n ≤ 3000) (Q : Option x_V → x_H → Prop) : ∀ (f : Nat) (h1 : x_H) (l : List (Nat × Nat)) (k : Nat), m_S h h1 m n l k → n - k < f → (∀ h2, m_S h h2 m n (l ++ z_wd (x_rw h (m + 1)) n f k) (n + 1) → Q none h2) → x_E G mX10_split (x_D G mX10_split h Q) h 7 [(0, x_r (some m)), (1, x_i (nI k))] [] h1 := by
  intro f
  induction f with
  | zero => intro h1 l k hS hf hQ; omega
  | succ f ih =>
    intro h1 l k hS hf hQ
    have hk2 := hS.2.2.2.1
    have hll := hS.2.2.1
    refine x_iload_n (i := 1) (x := nI k) dX10_split_7 rfl rfl ?_
    refine x_aload_n (i := 0) (o := some m) dX10_split_8 rfl rfl ?_
    refine x_getIv (v := nI n) dX10_split_9 fX10_split_71 (i := 1001) rfl rfl (mPk_0 (hS.1.pm hp)) ((hS.1.fi (by omega)).trans hn) ?_
    refine x_icmp_ge (tgt := 85) dX10_split_12 (by decide) (fun c12 => ?_) (fun c12 => ?_)
    · skip
      have q12 := (nI_leI (by omega) (by omega)).mp c12
      refine x_return dX10_split_85 rfl hS.1.le ?_
      unfold z_wd at hQ
      rw [if_pos q12, List.append_nil] at hQ
      exact hQ h1 ⟨hS.1, hS.2.1, by omega, Nat.le_refl _, hS.2.2.2.2⟩
    · skip
      have q12 : ¬ n ≤ k := fun z => c12 (nI_le z (by omega))
      refine x_iload_n (i := 1) (x := nI k) dX10_split_15 rfl rfl ?_
      refine x_istore_n (i := 2) (lv' := [(0, x_r (some m)), (1, x_i (nI k)), (2, x_i (nI k))]) dX10_split_16 rfl (by decide) rfl ?_
      refine l_split_i G hp hn hn2 hS Q (n - k) k (by omega) (Nat.le_refl _) ?_
      have hb := z_stop_bd (x_rw h (m + 1)) n (n - k) k (by omega)
      unfold z_wd at hQ
      rw [if_neg q12] at hQ
      generalize z_stop (x_rw h (m + 1)) n (n - k) k = s at hb hQ ⊢
      refine x_iload_n (i := 2) (x := nI s) dX10_split_43 rfl rfl ?_
      refine x_iload_n (i := 1) (x := nI k) dX10_split_44 rfl rfl ?_
      refine x_icmp_le (tgt := 78) dX10_split_45 (by decide) (fun c45 => ?_) (fun c45 => ?_)
      · skip
        have q45 := (nI_leI (by omega) (by omega)).mp c45
        rw [if_neg (show ¬ k < s by omega)] at hQ
        refine x_iload_n (i := 2) (x := nI s) dX10_split_78 rfl rfl ?_
        refine x_iconst (v := 1) dX10_split_79 (by decide) ?_
        refine x_iadd dX10_split_80 ?_
        rw [show (nI s) + 1 = nI (s + 1) from nI_1 s]
        refine x_istore_n (i := 1) (lv' := [(0, x_r (some m)), (1, x_i (nI (s + 1))), (2, x_i (nI s))]) dX10_split_81 rfl (by decide) rfl ?_
        refine x_goto (tgt := 7) dX10_split_82 (by decide) ?_
        refine x_drop [0, 1] rfl ?_
        exact ih h1 l (s + 1) ⟨hS.1, hS.2.1, by have := hS.2.2.1; omega, by omega, hS.2.2.2.2⟩ (by omega) hQ
      · skip
        have q45 : k < s := Nat.lt_of_not_le fun z => c45 (nI_le z (by omega))
        rw [if_pos q45] at hQ
        refine x_aload_n (i := 0) (o := some m) dX10_split_48 rfl rfl ?_
        refine x_getRv (v := some (m + 5)) dX10_split_49 fX10_split_23 (i := 1006) rfl rfl (mPk_0 (hS.1.pm hp)) (mPr_1006 (hS.1.pm hp)) ?_
        refine x_aload_n (i := 0) (o := some m) dX10_split_52 rfl rfl ?_
        refine x_getIv (v := nI l.length) dX10_split_53 fX10_split_74 (i := 1008) rfl rfl (mPk_0 (hS.1.pm hp)) (hS.2.1) ?_
        refine x_iload_n (i := 1) (x := nI k) dX10_split_56 rfl rfl ?_
        refine x_iastoreN (n := l.length) (v := nI k) dX10_split_57 (mPk_5 (hS.1.pm hp)) (rfl) (by rw [mPl_5 (hS.1.pm hp)]; omega) (by rw [mPl_5 (hS.1.pm hp)]; omega) (rfl) ?_
        refine x_aload_n (i := 0) (o := some m) dX10_split_58 rfl rfl ?_
        refine x_getRv (v := some (m + 6)) dX10_split_59 fX10_split_26 (i := 1007) rfl rfl (mPk_0 (hS.1.pm hp)) (mPr_1007 (hS.1.pm hp)) ?_
        refine x_aload_n (i := 0) (o := some m) dX10_split_62 rfl rfl ?_
        refine x_getIv (v := nI l.length) dX10_split_63 fX10_split_74 (i := 1008) rfl rfl (mPk_0 (hS.1.pm hp)) (hS.2.1) ?_
        refine x_iload_n (i := 2) (x := nI s) dX10_split_66 rfl rfl ?_
        refine x_iastoreN (n := l.length) (v := nI s) dX10_split_67 (mPk_6 (hS.1.pm hp)) (rfl) (by rw [show x_ln (x_sA h1 (m + 5) l.length (nI k)) (m + 6) = 1501 from mPl_6 (hS.1.pm hp)]; omega) (by rw [show x_ln (x_sA h1 (m + 5) l.length (nI k)) (m + 6) = 1501 from mPl_6 (hS.1.pm hp)]; omega) (rfl) ?_
        refine x_aload_n (i := 0) (o := some m) dX10_split_68 rfl rfl ?_
        refine x_dup dX10_split_69 rfl ?_
        refine x_getIv (v := nI l.length) dX10_split_70 fX10_split_74 (i := 1008) rfl rfl (mPk_0 (hS.1.pm hp)) (hS.2.1) ?_
        refine x_iconst (v := 1) dX10_split_73 (by decide) ?_
        refine x_iadd dX10_split_74 ?_
        rw [show (nI l.length) + 1 = nI (l.length + 1) from nI_1 _]
        refine x_putI (i := 1008) dX10_split_75 pX10_split_74 rfl rfl (mPk_0 (hS.1.pm hp)) (rfl) (by rfl) ?_
        refine x_iload_n (i := 2) (x := nI s) dX10_split_78 rfl rfl ?_
        refine x_iconst (v := 1) dX10_split_79 (by decide) ?_
        refine x_iadd dX10_split_80 ?_
        rw [show (nI s) + 1 = nI (s + 1) from nI_1 s]
        refine x_istore_n (i := 1) (lv' := [(0, x_r (some m)), (1, x_i (nI (s + 1))), (2, x_i (nI s))]) dX10_split_81 rfl (by decide) rfl ?_
        refine x_goto (tgt := 7) dX10_split_82 (by decide) ?_
        refine x_drop [0, 1] rfl ?_
        exact ih _ _ (s + 1) (hS.step q45 hb.2) (by omega) (by rw [List.append_assoc]; exact hQ)
set_option maxHeartbeats 4000000 in
set_option maxRecDepth 100000 in
theorem c_split (G : x_G) {h : x_H} {m n : Nat} (hp : mP h m) (hn : x_fi h 1001 m = nI n) (hn2 : n ≤ 3000) : x_Ex G mX10_split h [x_r (some m)] (fun r h1 => r = none ∧ m_S h h1 m n (z_words (x_rw h (m + 1)) n) (n + 1)) := by
  refine x_enter mwX10_split (Nat.le_of_ble_eq_true rfl) ?_
  show x_E _ _ _ _ _ [(0, x_r (some m))] _ _
  refine x_aload_n (i := 0) (o := some m) dX10_split_0 rfl rfl ?_
  refine x_iconst (v := 0) dX10_split_1 (by decide) ?_
  refine x_putI (i := 1008) dX10_split_2 pX10_split_74 rfl rfl (mPk_0 hp) (rfl) (by rfl) ?_
  refine x_iconst (v := 0) dX10_split_5 (by decide) ?_
  refine x_istore_n (i := 1) (lv' := [(0, x_r (some m)), (1, x_i 0)]) dX10_split_6 rfl (by decide) rfl ?_
  refine l_split G hp hn hn2 _ (n + 1) _ [] 0 ⟨x_F.rf.I ⟨rfl, rfl⟩, ?_, Nat.zero_le _, Nat.zero_le _, fun j q hj => by simp at hj⟩ (by omega) (fun h2 hS => ?_)
  · rw [x_fi_sI, if_pos ⟨rfl, rfl⟩]
    rfl
  · rw [List.nil_append] at hS
    exact ⟨rfl, hS⟩
