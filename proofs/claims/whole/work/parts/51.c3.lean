/-! THE CLASS: Words -/
def c_W (h : x_H) (w : Nat) : Prop := x_kd h w = 8 ∧ x_fr h 800 w = some (w + 1) ∧ x_kd h (w + 1) = 20 ∧ x_ln h (w + 1) = 1500
/-- the words of a text: n codes, taken up to a -/
def c_T (h : x_H) (w n a : Nat) (C : Nat → Int32) : Prop := c_W h w ∧ x_fi h 801 w = nI n ∧ x_fi h 802 w = nI a ∧ n ≤ 1500 ∧ a ≤ n ∧ (∀ k, k < n → x_rw h (w + 1) k = C k) ∧ q_N C n
theorem z_stop_eq {T : Nat → Int32} {n i : Nat} : ∀ (f s : Nat), i - s ≤ f → s ≤ i → i ≤ n → (∀ j, s ≤ j → j < i → z_gap (T j) = false) → (i = n ∨ z_gap (T i) = true) → z_stop T n f s = i
  | 0, s, hf, hs, _, _, _ => by
    show s = i
    omega
  | f + 1, s, hf, hs, hi, hg, he => by
    unfold z_stop
    split
    · omega
    · rename_i hn
      by_cases e : s = i
      · subst e
        rcases he with he | he
        · omega
        · rw [if_pos he]
      · rw [if_neg (by rw [hg s (Nat.le_refl _) (by omega)]; decide)]
        exact z_stop_eq f (s + 1) (by omega) (by omega) hi (fun j h1 h2 => hg j (by omega) h2) he
def z_wq (T : Nat → Int32) (n s : Nat) : List (Nat × Nat) := z_wd T n (n + 1) s
theorem z_wq_e {T : Nat → Int32} {n s : Nat} (h : n ≤ s) : z_wq T n s = [] := if_pos h
theorem z_wq_w {T : Nat → Int32} {n s i : Nat} (hs : s < i) (hi : i ≤ n) (hg : ∀ j, s ≤ j → j < i → z_gap (T j) = false) (he : i = n ∨ z_gap (T i) = true) : z_wq T n s = (s, i) :: z_wq T n (i + 1) := by
  have e := z_stop_eq (n - s) s (by omega) (by omega) hi hg he
  unfold z_wq
  rw [show z_wd T n (n + 1) s = if n ≤ s then [] else if s < z_stop T n (n - s) s then (s, z_stop T n (n - s) s) :: z_wd T n n (z_stop T n (n - s) s + 1) else z_wd T n n (z_stop T n (n - s) s + 1) from rfl, e, if_neg (by omega), if_pos hs]
  by_cases hn : n ≤ i
  · rw [show z_wd T n (n + 1) (i + 1) = [] from if_pos (by omega)]
    cases n with
    | zero => rfl
    | succ n => rw [show z_wd T (n + 1) (n + 1) (i + 1) = [] from if_pos (by omega)]
  · rw [z_wd_f T n n (n + 1) (i + 1) (by omega) (by omega)]
theorem z_wq_g {T : Nat → Int32} {n s : Nat} (hs : s < n) (he : z_gap (T s) = true) : z_wq T n s = z_wq T n (s + 1) := by
  have e := z_stop_eq (T := T) (n := n) (i := s) (n - s) s (by omega) (Nat.le_refl _) (by omega) (fun j h1 h2 => by omega) (Or.inr he)
  unfold z_wq
  rw [show z_wd T n (n + 1) s = if n ≤ s then [] else if s < z_stop T n (n - s) s then (s, z_stop T n (n - s) s) :: z_wd T n n (z_stop T n (n - s) s + 1) else z_wd T n n (z_stop T n (n - s) s + 1) from rfl, e, if_neg (by omega), if_neg (by omega)]
  exact z_wd_f T n n (n + 1) (s + 1) (by omega) (by omega)
/-- what split has done so far -/
def c_S (h h1 : x_H) (w : Nat) (T : Nat → Int32) (l : List (Nat × Nat)) : Prop := x_F h h1 (fun i b => b = w ∧ (i = 801 ∨ i = 802)) (fun b => b = w + 1) ∧ x_fi h1 801 w = nI l.length ∧ x_fi h1 802 w = 0 ∧ ∀ (j : Nat) (q : Nat × Nat), l[j]? = some q → x_rw h1 (w + 1) j = z_code (z_sl T q.1 q.2)
theorem c_S.W {h h1 : x_H} {w : Nat} {T : Nat → Int32} {l : List (Nat × Nat)} (a : c_S h h1 w T l) (hW : c_W h w) : c_W h1 w := by
  obtain ⟨f1, f2, f3, f4, f5, f6⟩ := a.1
  unfold c_W
  rw [f3, f4, f5]
  exact hW
theorem c_S.step {h h1 : x_H} {w : Nat} {T : Nat → Int32} {l : List (Nat × Nat)} (a : c_S h h1 w T l) (s i : Nat) : c_S h (x_sI (x_sA h1 (w + 1) l.length (z_code (z_sl T s i))) 801 w (nI (l.length + 1))) w T (l ++ [(s, i)]) := by
  obtain ⟨a1, a2, a3, a4⟩ := a
  refine ⟨(a1.A rfl).I ⟨rfl, Or.inl rfl⟩, ?_, ?_, fun j q hj => ?_⟩
  · rw [x_fi_sI, if_pos ⟨rfl, rfl⟩, List.length_append]
    rfl
  · rw [x_fi_sI, if_neg (by omega), x_fi_sA]
    exact a3
  · rw [x_rw_sI, x_rw_sA]
    by_cases hl : j < l.length
    · rw [List.getElem?_append_left hl] at hj
      rw [if_neg (by omega)]
      exact a4 j q hj
    · have hz := (List.getElem?_eq_some_iff.mp hj).1
      rw [List.length_append] at hz
      have hj0 : j = l.length := by simp at hz; omega
      subst hj0
      rw [List.getElem?_append_right (by omega), Nat.sub_self] at hj
      cases hj
      rw [if_pos ⟨rfl, rfl⟩]
set_option maxHeartbeats 4000000 in
set_option maxRecDepth 100000 in
theorem l_splitX {G : x_G} {ad st vl : Nat → Nat} {kt : Nat × Option Nat} (hG : x_GS G ad st vl kt) {h : x_H} {w a n : Nat} (hW : c_W h w) (hk : x_kd h a = 21) (hl3 : x_ln h a = 3000) (hn3 : n ≤ 3000) (Q : Option x_V → x_H → Prop) (hQ : ∀ h2, c_S h h2 w (x_rw h a) (z_words (x_rw h a) n) → (z_words (x_rw h a) n).length ≤ 1500 → Q none h2) : ∀ (f i s : Nat) (l : List (Nat × Nat)) (h1 : x_H), s ≤ i → i ≤ n + 1 → n + 1 - i = f → (i ≤ n ∨ s = i) → 2 * l.length ≤ s → c_S h h1 w (x_rw h a) l → z_words (x_rw h a) n = l ++ z_wq (x_rw h a) n s → (∀ j, s ≤ j → j < i → z_gap (x_rw h a j) = false) → x_E G mX8_split (x_D G mX8_split h Q) h 23 [(0, x_r (some w)), (1, x_r (some a)), (2, x_i (nI n)), (3, x_i (nI n)), (4, x_i (nI s)), (5, x_i (nI i))] [] h1 := by
  have hna : ¬ a = w + 1 := fun z => by rw [z, hW.2.2.1] at hk; exact absurd hk (by decide)
  intro f
  induction f with
  | zero =>
    intro i s l h1 hsi hi hf hzz h2l hS hw hg
    have ei : i = n + 1 := by omega
    subst ei
    have hW1 := hS.W hW
    refine x_iload (i := 5) (x := nI (n + 1)) dX8_split_23 rfl ?_
    refine x_iload_n (i := 3) (x := nI n) dX8_split_25 rfl rfl ?_
    refine x_icmp_gt (tgt := 103) dX8_split_26 (by decide) (fun c26 => ?_) (fun c26 => ?_)
    · skip
      refine x_return dX8_split_103 rfl hS.1.le ?_
      rw [z_wq_e (by omega), List.append_nil] at hw
      exact hQ h1 (by rw [hw]; exact hS) (by rw [hw]; omega)
    · skip
      exact absurd (nI_lt (by omega) (by omega)) c26
  | succ f ih =>
    intro i s l h1 hsi hi hf hzz h2l hS hw hg
    have hW1 := hS.W hW
    refine x_iload (i := 5) (x := nI i) dX8_split_23 rfl ?_
    refine x_iload_n (i := 3) (x := nI n) dX8_split_25 rfl rfl ?_
    refine x_icmp_gt (tgt := 103) dX8_split_26 (by decide) (fun c26 => ?_) (fun c26 => ?_)
    · skip
      exact absurd ((nI_ltI (by omega) (by omega)).mp c26) (by omega)
    · skip
      refine x_iload (i := 5) (x := nI i) dX8_split_29 rfl ?_
      refine x_iload_n (i := 3) (x := nI n) dX8_split_31 rfl rfl ?_
      refine x_icmp_eq (tgt := 45) dX8_split_32 (by decide) (fun c32 => ?_) (fun c32 => ?_)
      · skip
        have q32 := (nI_eq (by omega) (by omega)).mp c32
        have qe : i = n ∨ z_gap (x_rw h a i) = true := Or.inl q32
        refine x_iload (i := 5) (x := nI i) dX8_split_45 rfl ?_
        refine x_iload (i := 4) (x := nI s) dX8_split_47 rfl ?_
        refine x_icmp_le (tgt := 91) dX8_split_49 (by decide) (fun c49 => ?_) (fun c49 => ?_)
        · skip
          have q49 : i = s := Nat.le_antisymm ((nI_leI (by omega) (by omega)).mp c49) hsi
          refine x_iload (i := 5) (x := nI i) dX8_split_91 rfl ?_
          refine x_iconst (v := 1) dX8_split_93 (by decide) ?_
          refine x_iadd dX8_split_94 ?_
          rw [show (nI i) + 1 = nI (i + 1) from nI_1 i]
          refine x_istore (i := 4) (lv' := [(0, x_r (some w)), (1, x_r (some a)), (2, x_i (nI n)), (3, x_i (nI n)), (4, x_i (nI (i + 1))), (5, x_i (nI i))]) dX8_split_95 (by decide) rfl ?_
          refine x_iinc (i := 5) (x := nI i) (v := nI (i + 1)) (lv' := [(0, x_r (some w)), (1, x_r (some a)), (2, x_i (nI n)), (3, x_i (nI n)), (4, x_i (nI (i + 1))), (5, x_i (nI (i + 1)))]) dX8_split_97 rfl (nI_1 i) (by decide) rfl ?_
          refine x_goto (tgt := 23) dX8_split_100 (by decide) ?_
          show x_E _ _ _ _ 23 _ _ _
          refine ih (i + 1) (i + 1) l h1 (by omega) (by omega) (by omega) (Or.inr rfl) (by omega) hS ?_ (fun j g1 g2 => by omega)
          rw [hw, q49]
          subst q49
          rcases Nat.lt_or_ge i n with q | q
          · rcases qe with qe | qe
            · omega
            · rw [z_wq_g q qe]
          · rw [z_wq_e q, z_wq_e (by omega)]
        · skip
          have q49 : s < i := Nat.lt_of_not_le fun z => c49 (nI_le z (by omega))
          have hl15 : l.length < 1500 := by omega
          refine x_aload_n (i := 0) (o := some w) dX8_split_52 rfl rfl ?_
          refine x_getIv (v := nI l.length) dX8_split_53 fX8_split_15 (i := 801) rfl rfl hW1.1 (hS.2.1) ?_
          refine x_aload_n (i := 0) (o := some w) dX8_split_56 rfl rfl ?_
          refine x_getRv (v := some (w + 1)) dX8_split_57 fX8_split_9 (i := 800) rfl rfl hW1.1 (hW1.2.1) ?_
          refine x_alen (kd := 20) (t0 := 0) dX8_split_60 hW1.2.2.1 (by omega) (by omega) rfl ?_
          rw [hW1.2.2.2]
          refine x_icmp_ge (tgt := 91) dX8_split_61 (by decide) (fun c61 => ?_) (fun c61 => ?_)
          · skip
            exact absurd ((nI_leI (b := l.length) (by omega) (by omega)).mp c61) (by omega)
          · skip
            refine x_aload_n (i := 0) (o := some w) dX8_split_64 rfl rfl ?_
            refine x_getRv (v := some (w + 1)) dX8_split_65 fX8_split_9 (i := 800) rfl rfl hW1.1 (hW1.2.1) ?_
            refine x_aload_n (i := 0) (o := some w) dX8_split_68 rfl rfl ?_
            refine x_getIv (v := nI l.length) dX8_split_69 fX8_split_15 (i := 801) rfl rfl hW1.1 (hS.2.1) ?_
            refine x_aload_n (i := 1) (o := some a) dX8_split_72 rfl rfl ?_
            refine x_iload (i := 4) (x := nI s) dX8_split_73 rfl ?_
            refine x_iload (i := 5) (x := nI i) dX8_split_75 rfl ?_
            refine x_callS (av := [x_r (some a), x_i (nI s), x_i (nI i)]) (rest := [x_i (nI l.length), x_r (some (w + 1))]) (r := (some (x_i (z_code (z_sl (x_rw h a) s i))))) (h1 := h1) dX8_split_77 sX8_split_32 rfl rfl (Nat.le_of_ble_eq_true rfl) hS.1.le (by have k := c_codeOf hG (h := h1) (a := a) (s := s) (e := i) (by rw [hS.1.2.2.1]; exact hk) (by rw [hS.1.2.2.2.2.1, hl3]; omega) q49 (by rw [hS.1.2.2.2.2.1, hl3]; omega); rw [hS.1.rw hna] at k; exact k) ?_
            show x_E _ _ _ _ 80 _ [x_i (z_code (z_sl (x_rw h a) s i)), x_i (nI l.length), x_r (some (w + 1))] _
            refine x_iastoreN (n := l.length) (v := z_code (z_sl (x_rw h a) s i)) dX8_split_80 hW1.2.2.1 (rfl) (by rw [hW1.2.2.2]; exact hl15) (by rw [hW1.2.2.2]; omega) (rfl) ?_
            refine x_aload_n (i := 0) (o := some w) dX8_split_81 rfl rfl ?_
            refine x_dup dX8_split_82 rfl ?_
            refine x_getIv (v := nI l.length) dX8_split_83 fX8_split_15 (i := 801) rfl rfl hW1.1 (hS.2.1) ?_
            refine x_iconst (v := 1) dX8_split_86 (by decide) ?_
            refine x_iadd dX8_split_87 ?_
            rw [show (nI l.length) + 1 = nI (l.length + 1) from nI_1 _]
            refine x_putI (i := 801) dX8_split_88 pX8_split_15 rfl rfl hW1.1 (rfl) (by rfl) ?_
            refine x_iload (i := 5) (x := nI i) dX8_split_91 rfl ?_
            refine x_iconst (v := 1) dX8_split_93 (by decide) ?_
            refine x_iadd dX8_split_94 ?_
            rw [show (nI i) + 1 = nI (i + 1) from nI_1 i]
            refine x_istore (i := 4) (lv' := [(0, x_r (some w)), (1, x_r (some a)), (2, x_i (nI n)), (3, x_i (nI n)), (4, x_i (nI (i + 1))), (5, x_i (nI i))]) dX8_split_95 (by decide) rfl ?_
            refine x_iinc (i := 5) (x := nI i) (v := nI (i + 1)) (lv' := [(0, x_r (some w)), (1, x_r (some a)), (2, x_i (nI n)), (3, x_i (nI n)), (4, x_i (nI (i + 1))), (5, x_i (nI (i + 1)))]) dX8_split_97 rfl (nI_1 i) (by decide) rfl ?_
            refine x_goto (tgt := 23) dX8_split_100 (by decide) ?_
            show x_E _ _ _ _ 23 _ _ _
            refine ih (i + 1) (i + 1) (l ++ [(s, i)]) _ (by omega) (by omega) (by omega) (Or.inr rfl) ?_ (hS.step s i) ?_ (fun j g1 g2 => by omega)
            · rw [List.length_append]
              simp only [List.length_cons, List.length_nil]
              omega
            · rw [hw, z_wq_w q49 (by omega) hg qe, List.append_assoc]
              rfl
      · skip
        have q32 : ¬ i = n := fun z => c32 (by rw [z])
        have hal : i < x_ln h1 a := by rw [hS.1.2.2.2.2.1, hl3]; omega
        refine x_aload_n (i := 1) (o := some a) dX8_split_35 rfl rfl ?_
        refine x_iload (i := 5) (x := nI i) dX8_split_36 rfl ?_
        refine x_baloadN (n := i) (v := x_rw h a i) dX8_split_38 (by rw [hS.1.2.2.1]; exact hk) (rfl) (hal) (by rw [hS.1.2.2.2.2.1, hl3]; omega) (by rw [hS.1.rw hna]) ?_
        by_cases qg : z_gap (x_rw h a i) = true
        · skip
          have qe : i = n ∨ z_gap (x_rw h a i) = true := Or.inr qg
          refine x_callSN (host := "HazardRules") (av := [x_i (x_rw h a i)]) (rest := []) (r := (some (x_i 1))) (h1 := h1) dX8_split_39 sX8_split_28 (fun U hU => (hG U hU).2.2.2.2.2 _ (by simp [x_nl])) rfl rfl (Nat.le_of_ble_eq_true rfl) hS.1.le (by have k := c_isGapX G h1 (x_rw h a i); rw [if_pos qg] at k; exact k) ?_
          show x_E _ _ _ _ 42 _ [x_i 1] _
          refine x_if_eq (tgt := 97) dX8_split_42 (by decide) (fun c => absurd c (by decide)) (fun _ => ?_)
          refine x_iload (i := 5) (x := nI i) dX8_split_45 rfl ?_
          refine x_iload (i := 4) (x := nI s) dX8_split_47 rfl ?_
          refine x_icmp_le (tgt := 91) dX8_split_49 (by decide) (fun c49 => ?_) (fun c49 => ?_)
          · skip
            have q49 : i = s := Nat.le_antisymm ((nI_leI (by omega) (by omega)).mp c49) hsi
            refine x_iload (i := 5) (x := nI i) dX8_split_91 rfl ?_
            refine x_iconst (v := 1) dX8_split_93 (by decide) ?_
            refine x_iadd dX8_split_94 ?_
            rw [show (nI i) + 1 = nI (i + 1) from nI_1 i]
            refine x_istore (i := 4) (lv' := [(0, x_r (some w)), (1, x_r (some a)), (2, x_i (nI n)), (3, x_i (nI n)), (4, x_i (nI (i + 1))), (5, x_i (nI i))]) dX8_split_95 (by decide) rfl ?_
            refine x_iinc (i := 5) (x := nI i) (v := nI (i + 1)) (lv' := [(0, x_r (some w)), (1, x_r (some a)), (2, x_i (nI n)), (3, x_i (nI n)), (4, x_i (nI (i + 1))), (5, x_i (nI (i + 1)))]) dX8_split_97 rfl (nI_1 i) (by decide) rfl ?_
            refine x_goto (tgt := 23) dX8_split_100 (by decide) ?_
            show x_E _ _ _ _ 23 _ _ _
            refine ih (i + 1) (i + 1) l h1 (by omega) (by omega) (by omega) (Or.inr rfl) (by omega) hS ?_ (fun j g1 g2 => by omega)
            rw [hw, q49]
            subst q49
            rcases Nat.lt_or_ge i n with q | q
            · rcases qe with qe | qe
              · omega
              · rw [z_wq_g q qe]
            · rw [z_wq_e q, z_wq_e (by omega)]
          · skip
            have q49 : s < i := Nat.lt_of_not_le fun z => c49 (nI_le z (by omega))
            have hl15 : l.length < 1500 := by omega
            refine x_aload_n (i := 0) (o := some w) dX8_split_52 rfl rfl ?_
            refine x_getIv (v := nI l.length) dX8_split_53 fX8_split_15 (i := 801) rfl rfl hW1.1 (hS.2.1) ?_
            refine x_aload_n (i := 0) (o := some w) dX8_split_56 rfl rfl ?_
            refine x_getRv (v := some (w + 1)) dX8_split_57 fX8_split_9 (i := 800) rfl rfl hW1.1 (hW1.2.1) ?_
            refine x_alen (kd := 20) (t0 := 0) dX8_split_60 hW1.2.2.1 (by omega) (by omega) rfl ?_
            rw [hW1.2.2.2]
            refine x_icmp_ge (tgt := 91) dX8_split_61 (by decide) (fun c61 => ?_) (fun c61 => ?_)
            · skip
              exact absurd ((nI_leI (b := l.length) (by omega) (by omega)).mp c61) (by omega)
            · skip
              refine x_aload_n (i := 0) (o := some w) dX8_split_64 rfl rfl ?_
              refine x_getRv (v := some (w + 1)) dX8_split_65 fX8_split_9 (i := 800) rfl rfl hW1.1 (hW1.2.1) ?_
              refine x_aload_n (i := 0) (o := some w) dX8_split_68 rfl rfl ?_
              refine x_getIv (v := nI l.length) dX8_split_69 fX8_split_15 (i := 801) rfl rfl hW1.1 (hS.2.1) ?_
              refine x_aload_n (i := 1) (o := some a) dX8_split_72 rfl rfl ?_
              refine x_iload (i := 4) (x := nI s) dX8_split_73 rfl ?_
              refine x_iload (i := 5) (x := nI i) dX8_split_75 rfl ?_
              refine x_callS (av := [x_r (some a), x_i (nI s), x_i (nI i)]) (rest := [x_i (nI l.length), x_r (some (w + 1))]) (r := (some (x_i (z_code (z_sl (x_rw h a) s i))))) (h1 := h1) dX8_split_77 sX8_split_32 rfl rfl (Nat.le_of_ble_eq_true rfl) hS.1.le (by have k := c_codeOf hG (h := h1) (a := a) (s := s) (e := i) (by rw [hS.1.2.2.1]; exact hk) (by rw [hS.1.2.2.2.2.1, hl3]; omega) q49 (by rw [hS.1.2.2.2.2.1, hl3]; omega); rw [hS.1.rw hna] at k; exact k) ?_
              show x_E _ _ _ _ 80 _ [x_i (z_code (z_sl (x_rw h a) s i)), x_i (nI l.length), x_r (some (w + 1))] _
              refine x_iastoreN (n := l.length) (v := z_code (z_sl (x_rw h a) s i)) dX8_split_80 hW1.2.2.1 (rfl) (by rw [hW1.2.2.2]; exact hl15) (by rw [hW1.2.2.2]; omega) (rfl) ?_
              refine x_aload_n (i := 0) (o := some w) dX8_split_81 rfl rfl ?_
              refine x_dup dX8_split_82 rfl ?_
              refine x_getIv (v := nI l.length) dX8_split_83 fX8_split_15 (i := 801) rfl rfl hW1.1 (hS.2.1) ?_
              refine x_iconst (v := 1) dX8_split_86 (by decide) ?_
              refine x_iadd dX8_split_87 ?_
              rw [show (nI l.length) + 1 = nI (l.length + 1) from nI_1 _]
              refine x_putI (i := 801) dX8_split_88 pX8_split_15 rfl rfl hW1.1 (rfl) (by rfl) ?_
              refine x_iload (i := 5) (x := nI i) dX8_split_91 rfl ?_
              refine x_iconst (v := 1) dX8_split_93 (by decide) ?_
              refine x_iadd dX8_split_94 ?_
              rw [show (nI i) + 1 = nI (i + 1) from nI_1 i]
              refine x_istore (i := 4) (lv' := [(0, x_r (some w)), (1, x_r (some a)), (2, x_i (nI n)), (3, x_i (nI n)), (4, x_i (nI (i + 1))), (5, x_i (nI i))]) dX8_split_95 (by decide) rfl ?_
              refine x_iinc (i := 5) (x := nI i) (v := nI (i + 1)) (lv' := [(0, x_r (some w)), (1, x_r (some a)), (2, x_i (nI n)), (3, x_i (nI n)), (4, x_i (nI (i + 1))), (5, x_i (nI (i + 1)))]) dX8_split_97 rfl (nI_1 i) (by decide) rfl ?_
              refine x_goto (tgt := 23) dX8_split_100 (by decide) ?_
              show x_E _ _ _ _ 23 _ _ _
              refine ih (i + 1) (i + 1) (l ++ [(s, i)]) _ (by omega) (by omega) (by omega) (Or.inr rfl) ?_ (hS.step s i) ?_ (fun j g1 g2 => by omega)
              · rw [List.length_append]
                simp only [List.length_cons, List.length_nil]
                omega
              · rw [hw, z_wq_w q49 (by omega) hg qe, List.append_assoc]
                rfl
        · skip
          refine x_callSN (host := "HazardRules") (av := [x_i (x_rw h a i)]) (rest := []) (r := (some (x_i 0))) (h1 := h1) dX8_split_39 sX8_split_28 (fun U hU => (hG U hU).2.2.2.2.2 _ (by simp [x_nl])) rfl rfl (Nat.le_of_ble_eq_true rfl) hS.1.le (by have k := c_isGapX G h1 (x_rw h a i); rw [if_neg qg] at k; exact k) ?_
          show x_E _ _ _ _ 42 _ [x_i 0] _
          refine x_if_eq (tgt := 97) dX8_split_42 (by decide) (fun _ => ?_) (fun c => absurd (by decide) c)
          refine x_iinc (i := 5) (x := nI i) (v := nI (i + 1)) (lv' := [(0, x_r (some w)), (1, x_r (some a)), (2, x_i (nI n)), (3, x_i (nI n)), (4, x_i (nI s)), (5, x_i (nI (i + 1)))]) dX8_split_97 rfl (nI_1 i) (by decide) rfl ?_
          refine x_goto (tgt := 23) dX8_split_100 (by decide) ?_
          show x_E _ _ _ _ 23 _ _ _
          exact ih (i + 1) s l h1 (by omega) (by omega) (by omega) (by omega) h2l hS hw (fun j g1 g2 => by
            by_cases e : j = i
            · subst e
              simpa using qg
            · exact hg j g1 (by omega))
