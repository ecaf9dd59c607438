/-! THE REFERENCE: edition, open rules -/
set_option maxHeartbeats 4000000 in
set_option maxRecDepth 100000 in
theorem l_edition (G : x_G) {h : x_H} {m : Nat} {l : List (Nat × Nat)} {C : Nat → Int32} {R : List (Nat × Nat)} {E : List Int32} (hB : m_Bk h m l C R E) (day : Int64) : ∀ (n i : Nat), i ≤ E.length → E.length - i = n → x_E G mX10_edition (x_D G mX10_edition h (fun r h1 => r = some (x_i (z_ed E day E.length)) ∧ h1 = x_sI h 1024 m 0)) h 10 [(0, x_r (some m)), (1, x_l day), (3, x_i (z_ed E day i)), (4, x_i (nI i))] [] (x_sI h 1024 m 0) := by
  have h15 := hB.2.2.2.1
  intro n
  induction n with
  | zero =>
    intro i hi hn
    have ei : i = E.length := by omega
    subst ei
    refine x_iload (i := 4) (x := nI E.length) dX10_edition_10 rfl ?_
    refine x_aload_n (i := 0) (o := some m) dX10_edition_12 rfl rfl ?_
    refine x_getIv (v := nI E.length) dX10_edition_13 fX10_edition_165 (i := 1013) rfl rfl (mPk_0 hB.1.1) ((by show x_fi (x_sI h 1024 m 0) 1013 m = _; rw [x_fi_sI, if_neg (by omega)]; exact hB.2.1.2.1)) ?_
    refine x_icmp_ge (tgt := 45) dX10_edition_16 (by decide) (fun c16 => ?_) (fun c16 => ?_)
    · skip
      refine x_iload_n (i := 3) (x := z_ed E day E.length) dX10_edition_45 rfl rfl ?_
      refine x_ireturn dX10_edition_46 rfl (rfl) ⟨Nat.le_refl _, Nat.le_refl _⟩ ?_
      exact ⟨rfl, rfl⟩
    · skip
      exact absurd (nI_le (by omega) (by omega)) c16
  | succ n ih =>
    intro i hi hn
    refine x_iload (i := 4) (x := nI i) dX10_edition_10 rfl ?_
    refine x_aload_n (i := 0) (o := some m) dX10_edition_12 rfl rfl ?_
    refine x_getIv (v := nI E.length) dX10_edition_13 fX10_edition_165 (i := 1013) rfl rfl (mPk_0 hB.1.1) ((by show x_fi (x_sI h 1024 m 0) 1013 m = _; rw [x_fi_sI, if_neg (by omega)]; exact hB.2.1.2.1)) ?_
    refine x_icmp_ge (tgt := 45) dX10_edition_16 (by decide) (fun c16 => ?_) (fun c16 => ?_)
    · skip
      exact absurd ((nI_leI (by omega) (by omega)).mp c16) (by omega)
    · skip
      have q16 : i < E.length := Nat.lt_of_not_le fun z => c16 (nI_le z (by omega))
      obtain ⟨d, hd⟩ : ∃ d, E[i]? = some d := ⟨_, List.getElem?_eq_getElem q16⟩
      have es : z_ed E day (i + 1) = if d.toInt64 ≤ day then nI i else z_ed E day i := by
        show (match E[i]? with | some d => if d.toInt64 ≤ day then nI i else z_ed E day i | none => z_ed E day i) = _
        rw [hd]
      refine x_aload_n (i := 0) (o := some m) dX10_edition_19 rfl rfl ?_
      refine x_getRv (v := some (m + 9)) dX10_edition_20 fX10_edition_35 (i := 1012) rfl rfl (mPk_0 hB.1.1) (mPr_1012 hB.1.1) ?_
      refine x_iload (i := 4) (x := nI i) dX10_edition_23 rfl ?_
      refine x_ialoadN (n := i) (v := d) dX10_edition_25 (mPk_9 hB.1.1) (rfl) (by show i < x_ln h _; rw [mPl_9 hB.1.1]; omega) (by show x_ln h _ < _; rw [mPl_9 hB.1.1]; omega) (hB.2.1.2.2.2 i d hd) ?_
      refine x_i2l dX10_edition_26 ?_
      refine x_lload_n (i := 1) (x := day) dX10_edition_27 rfl rfl ?_
      refine x_lcmp dX10_edition_28 ?_
      refine x_if_gt (tgt := 37) dX10_edition_29 (by decide) (fun c29 => ?_) (fun c29 => ?_)
      · skip
        rw [if_neg (fun z => Int64.not_lt.mpr z ((lg_cmp_gt _ _).mp c29))] at es
        refine x_iload_n (i := 3) (x := z_ed E day i) dX10_edition_37 rfl rfl ?_
        refine x_istore_n (i := 3) (lv' := [(0, x_r (some m)), (1, x_l day), (3, x_i (z_ed E day i)), (4, x_i (nI i))]) dX10_edition_38 rfl (by decide) rfl ?_
        refine x_iinc (i := 4) (x := nI i) (v := nI (i + 1)) (lv' := [(0, x_r (some m)), (1, x_l day), (3, x_i (z_ed E day i)), (4, x_i (nI (i + 1)))]) dX10_edition_39 rfl (nI_1 i) (by decide) rfl ?_
        refine x_goto (tgt := 10) dX10_edition_42 (by decide) ?_
        show x_E _ _ _ _ 10 _ _ _
        have k9 := ih (i + 1) (by omega) (by omega)
        rw [es] at k9
        exact k9
      · skip
        rw [if_pos (Int64.not_lt.mp fun z => c29 ((lg_cmp_gt _ _).mpr z))] at es
        refine x_iload (i := 4) (x := nI i) dX10_edition_32 rfl ?_
        refine x_goto (tgt := 38) dX10_edition_34 (by decide) ?_
        refine x_istore_n (i := 3) (lv' := [(0, x_r (some m)), (1, x_l day), (3, x_i (nI i)), (4, x_i (nI i))]) dX10_edition_38 rfl (by decide) rfl ?_
        refine x_iinc (i := 4) (x := nI i) (v := nI (i + 1)) (lv' := [(0, x_r (some m)), (1, x_l day), (3, x_i (nI i)), (4, x_i (nI (i + 1)))]) dX10_edition_39 rfl (nI_1 i) (by decide) rfl ?_
        refine x_goto (tgt := 10) dX10_edition_42 (by decide) ?_
        show x_E _ _ _ _ 10 _ _ _
        have k9 := ih (i + 1) (by omega) (by omega)
        rw [es] at k9
        exact k9
set_option maxHeartbeats 4000000 in
set_option maxRecDepth 100000 in
theorem c_edition (G : x_G) {h : x_H} {m : Nat} {l : List (Nat × Nat)} {C : Nat → Int32} {R : List (Nat × Nat)} {E : List Int32} (hB : m_Bk h m l C R E) (day : Int64) : x_Call G mX10_edition h [x_r (some m), x_l day] (some (x_i (z_ed E day E.length))) (x_sI h 1024 m 0) := by
  refine x_Ex.call (x_enter mwX10_edition (Nat.le_of_ble_eq_true rfl) ?_)
  show x_E _ _ _ _ _ [(0, x_r (some m)), (1, x_l day)] _ _
  refine x_aload_n (i := 0) (o := some m) dX10_edition_0 rfl rfl ?_
  refine x_iconst (v := 0) dX10_edition_1 (by decide) ?_
  refine x_putI (i := 1024) dX10_edition_2 pX10_edition_68 rfl rfl (mPk_0 hB.1.1) (rfl) (by rfl) ?_
  refine x_iconst (v := (-1)) dX10_edition_5 (by decide) ?_
  refine x_istore_n (i := 3) (lv' := [(0, x_r (some m)), (1, x_l day), (3, x_i ((-1)))]) dX10_edition_6 rfl (by decide) rfl ?_
  refine x_iconst (v := 0) dX10_edition_7 (by decide) ?_
  refine x_istore (i := 4) (lv' := [(0, x_r (some m)), (1, x_l day), (3, x_i ((-1))), (4, x_i 0)]) dX10_edition_8 (by decide) rfl ?_
  show x_E _ _ _ _ 10 _ _ _
  exact l_edition G hB day _ 0 (Nat.zero_le _) rfl
/-- the k-th of a list, from 0 on; -1 when there is none such -/
def z_kt : List Int32 → Nat → Int32 → Int32
  | [], _, _ => -1
  | x :: r, s, k => if nI s = k then x else z_kt r (s + 1) k
/-- rule r is open, and its class does not hold -/
def z_op (C : Nat → Int32) (R : List (Nat × Nat)) (V : Nat → Int32) (O : List Int32) (r : Nat) : Bool := match R[r]? with
  | some q => decide (0 ≤ V r) && !(decide (C (q.1 + 1) ∈ O))
  | none => false
def z_ops (C : Nat → Int32) (R : List (Nat × Nat)) (V : Nat → Int32) (O : List Int32) (i : Nat) : List Nat := (List.range' i (R.length - i)).filter (z_op C R V O)
theorem z_ops_s {C : Nat → Int32} {R : List (Nat × Nat)} {V : Nat → Int32} {O : List Int32} {i : Nat} (h : i < R.length) : z_ops C R V O i = if z_op C R V O i = true then i :: z_ops C R V O (i + 1) else z_ops C R V O (i + 1) := by
  unfold z_ops
  rw [show R.length - i = (R.length - (i + 1)) + 1 by omega, List.range'_succ, List.filter_cons]
theorem z_ops_e {C : Nat → Int32} {R : List (Nat × Nat)} {V : Nat → Int32} {O : List Int32} {i : Nat} (h : R.length ≤ i) : z_ops C R V O i = [] := by
  unfold z_ops
  rw [show R.length - i = 0 by omega]
  rfl
set_option maxHeartbeats 4000000 in
set_option maxRecDepth 100000 in
theorem c_isOpen (G : x_G) {h : x_H} {m : Nat} {l : List (Nat × Nat)} {C : Nat → Int32} {R : List (Nat × Nat)} {E : List Int32} (hB : m_Bk h m l C R E) {V : Nat → Int32} (hV : m_V h m V R.length) {O : List Int32} (hO : m_O h m O) (h20 : O.length ≤ 20) {r : Nat} (hrl : r < R.length) : x_Call G mX10_isOpen h [x_r (some m), x_i (nI r)] (some (x_i (if z_op C R V O r = true then 1 else 0))) h := by
  obtain ⟨q, hr⟩ : ∃ q, R[r]? = some q := ⟨_, List.getElem?_eq_getElem hrl⟩
  have h60 := hB.2.2.1
  have eo : z_op C R V O r = (decide (0 ≤ V r) && !(decide (C (q.1 + 1) ∈ O))) := by unfold z_op; rw [hr]
  refine x_Ex.call (x_enter mwX10_isOpen (Nat.le_of_ble_eq_true rfl) ?_)
  show x_E _ _ _ _ _ [(0, x_r (some m)), (1, x_i (nI r))] _ _
  refine x_aload_n (i := 0) (o := some m) dX10_isOpen_0 rfl rfl ?_
  refine x_getRv (v := some (m + 14)) dX10_isOpen_1 fX10_isOpen_59 (i := 1020) rfl rfl (mPk_0 hB.1.1) (mPr_1020 hB.1.1) ?_
  refine x_iload_n (i := 1) (x := nI r) dX10_isOpen_4 rfl rfl ?_
  refine x_ialoadN (n := r) (v := z_st (V r)) dX10_isOpen_5 (mPk_14 hB.1.1) (rfl) (by rw [mPl_14 hB.1.1]; omega) (by rw [mPl_14 hB.1.1]; omega) ((hV r hrl).1) ?_
  refine x_iconst (v := 2) dX10_isOpen_6 (by decide) ?_
  refine x_icmp_ne (tgt := 26) dX10_isOpen_7 (by decide) (fun c7 => ?_) (fun c7 => ?_)
  · skip
    have e7 : ¬ 0 ≤ V r := fun z => c7 (z_st_2.mpr z)
    refine x_iconst (v := 0) dX10_isOpen_26 (by decide) ?_
    refine x_ireturn dX10_isOpen_27 rfl (rfl) ⟨Nat.le_refl _, Nat.le_refl _⟩ ?_
    exact ⟨by rw [eo]; simp [e7], rfl⟩
  · skip
    have e7 : 0 ≤ V r := z_st_2.mp c7
    refine x_aload_n (i := 0) (o := some m) dX10_isOpen_10 rfl rfl ?_
    refine x_aload_n (i := 0) (o := some m) dX10_isOpen_11 rfl rfl ?_
    refine x_iload_n (i := 1) (x := nI r) dX10_isOpen_12 rfl rfl ?_
    refine x_callV (a := m) (av := [x_i (nI r)]) (rest := [x_r (some m)]) (r := (some (x_i (C (q.1 + 1))))) (h1 := h) dX10_isOpen_13 sX10_isOpen_198 (mPk_0 hB.1.1) rfl rfl (Nat.le_of_ble_eq_true rfl) ⟨Nat.le_refl _, Nat.le_refl _⟩ (c_classOf G hB hr) ?_
    show x_E _ _ _ _ 16 _ [x_i (C (q.1 + 1)), x_r (some m)] _
    by_cases qm : C (q.1 + 1) ∈ O
    · skip
      refine x_callV (a := m) (av := [x_i (C (q.1 + 1))]) (rest := []) (r := (some (x_i 1))) (h1 := h) dX10_isOpen_16 sX10_isOpen_224 (mPk_0 hB.1.1) rfl rfl (Nat.le_of_ble_eq_true rfl) ⟨Nat.le_refl _, Nat.le_refl _⟩ (by have k := c_holds G hB.1.1 hO h20 (C (q.1 + 1)); rw [if_pos qm] at k; exact k) ?_
      show x_E _ _ _ _ 19 _ [x_i 1] _
      refine x_if_ne (tgt := 26) dX10_isOpen_19 (by decide) (fun _ => ?_) (fun c => absurd c (by decide))
      refine x_iconst (v := 0) dX10_isOpen_26 (by decide) ?_
      refine x_ireturn dX10_isOpen_27 rfl (rfl) ⟨Nat.le_refl _, Nat.le_refl _⟩ ?_
      exact ⟨by rw [eo]; simp [e7, qm], rfl⟩
    · skip
      refine x_callV (a := m) (av := [x_i (C (q.1 + 1))]) (rest := []) (r := (some (x_i 0))) (h1 := h) dX10_isOpen_16 sX10_isOpen_224 (mPk_0 hB.1.1) rfl rfl (Nat.le_of_ble_eq_true rfl) ⟨Nat.le_refl _, Nat.le_refl _⟩ (by have k := c_holds G hB.1.1 hO h20 (C (q.1 + 1)); rw [if_neg qm] at k; exact k) ?_
      show x_E _ _ _ _ 19 _ [x_i 0] _
      refine x_if_ne (tgt := 26) dX10_isOpen_19 (by decide) (fun c => absurd c (by decide)) (fun _ => ?_)
      refine x_iconst (v := 1) dX10_isOpen_22 (by decide) ?_
      refine x_goto (tgt := 27) dX10_isOpen_23 (by decide) ?_
      refine x_ireturn dX10_isOpen_27 rfl (rfl) ⟨Nat.le_refl _, Nat.le_refl _⟩ ?_
      exact ⟨by rw [eo]; simp [e7, qm], rfl⟩
set_option maxHeartbeats 4000000 in
set_option maxRecDepth 100000 in
theorem l_openRule (G : x_G) {h : x_H} {m : Nat} {l : List (Nat × Nat)} {C : Nat → Int32} {R : List (Nat × Nat)} {E : List Int32} (hB : m_Bk h m l C R E) {V : Nat → Int32} (hV : m_V h m V R.length) {O : List Int32} (hO : m_O h m O) (h20 : O.length ≤ 20) (k : Int32) (Q : Option x_V → x_H → Prop) : ∀ (n i s : Nat), s ≤ i → i ≤ R.length → R.length - i = n → Q (some (x_i (z_kt ((z_ops C R V O i).map nI) s k))) h → x_E G mX10_openRule (x_D G mX10_openRule h Q) h 4 [(0, x_r (some m)), (1, x_i k), (2, x_i (nI s)), (3, x_i (nI i))] [] h := by
  have h60 := hB.2.2.1
  intro n
  induction n with
  | zero =>
    intro i s hs hi hn hQ
    have ei : i = R.length := by omega
    subst ei
    have q9 : R.length ≤ R.length := Nat.le_refl _
    refine x_iload_n (i := 3) (x := nI R.length) dX10_openRule_4 rfl rfl ?_
    refine x_aload_n (i := 0) (o := some m) dX10_openRule_5 rfl rfl ?_
    refine x_getIv (v := nI R.length) dX10_openRule_6 fX10_openRule_162 (i := 1011) rfl rfl (mPk_0 hB.1.1) (hB.2.1.1) ?_
    refine x_icmp_ge (tgt := 36) dX10_openRule_9 (by decide) (fun c9 => ?_) (fun c9 => ?_)
    · skip
      refine x_iconst (v := (-1)) dX10_openRule_36 (by decide) ?_
      refine x_ireturn dX10_openRule_37 rfl (rfl) ⟨Nat.le_refl _, Nat.le_refl _⟩ ?_
      rw [z_ops_e q9] at hQ
      exact hQ
    · skip
      exact absurd (nI_le (by omega) (by omega)) c9
  | succ n ih =>
    intro i s hs hi hn hQ
    refine x_iload_n (i := 3) (x := nI i) dX10_openRule_4 rfl rfl ?_
    refine x_aload_n (i := 0) (o := some m) dX10_openRule_5 rfl rfl ?_
    refine x_getIv (v := nI R.length) dX10_openRule_6 fX10_openRule_162 (i := 1011) rfl rfl (mPk_0 hB.1.1) (hB.2.1.1) ?_
    refine x_icmp_ge (tgt := 36) dX10_openRule_9 (by decide) (fun c9 => ?_) (fun c9 => ?_)
    · skip
      have q9 := (nI_leI (by omega) (by omega)).mp c9
      refine x_iconst (v := (-1)) dX10_openRule_36 (by decide) ?_
      refine x_ireturn dX10_openRule_37 rfl (rfl) ⟨Nat.le_refl _, Nat.le_refl _⟩ ?_
      rw [z_ops_e q9] at hQ
      exact hQ
    · skip
      have q9 : i < R.length := Nat.lt_of_not_le fun z => c9 (nI_le z (by omega))
      refine x_aload_n (i := 0) (o := some m) dX10_openRule_12 rfl rfl ?_
      refine x_iload_n (i := 3) (x := nI i) dX10_openRule_13 rfl rfl ?_
      by_cases qo : z_op C R V O i = true
      · skip
        refine x_callV (a := m) (av := [x_i (nI i)]) (rest := []) (r := (some (x_i 1))) (h1 := h) dX10_openRule_14 sX10_openRule_244 (mPk_0 hB.1.1) rfl rfl (Nat.le_of_ble_eq_true rfl) ⟨Nat.le_refl _, Nat.le_refl _⟩ (by have k := c_isOpen G hB hV hO h20 q9; rw [if_pos qo] at k; exact k) ?_
        show x_E _ _ _ _ 17 _ [x_i 1] _
        refine x_if_eq (tgt := 30) dX10_openRule_17 (by decide) (fun c => absurd c (by decide)) (fun _ => ?_)
        refine x_iload_n (i := 2) (x := nI s) dX10_openRule_20 rfl rfl ?_
        refine x_iload_n (i := 1) (x := k) dX10_openRule_21 rfl rfl ?_
        refine x_icmp_ne (tgt := 27) dX10_openRule_22 (by decide) (fun c22 => ?_) (fun c22 => ?_)
        · skip
          refine x_iinc (i := 2) (x := nI s) (v := nI (s + 1)) (lv' := [(0, x_r (some m)), (1, x_i k), (2, x_i (nI (s + 1))), (3, x_i (nI i))]) dX10_openRule_27 rfl (nI_1 s) (by decide) rfl ?_
          refine x_iinc (i := 3) (x := nI i) (v := nI (i + 1)) (lv' := [(0, x_r (some m)), (1, x_i k), (2, x_i (nI (s + 1))), (3, x_i (nI (i + 1)))]) dX10_openRule_30 rfl (nI_1 i) (by decide) rfl ?_
          refine x_goto (tgt := 4) dX10_openRule_33 (by decide) ?_
          show x_E _ _ _ _ 4 _ _ _
          rw [z_ops_s q9, if_pos qo, List.map_cons] at hQ
          rw [show z_kt (nI i :: (z_ops C R V O (i + 1)).map nI) s k = z_kt ((z_ops C R V O (i + 1)).map nI) (s + 1) k from if_neg c22] at hQ
          exact ih (i + 1) (s + 1) (by omega) (by omega) (by omega) hQ
        · skip
          refine x_iload_n (i := 3) (x := nI i) dX10_openRule_25 rfl rfl ?_
          refine x_ireturn dX10_openRule_26 rfl (rfl) ⟨Nat.le_refl _, Nat.le_refl _⟩ ?_
          rw [z_ops_s q9, if_pos qo, List.map_cons] at hQ
          rw [show z_kt (nI i :: (z_ops C R V O (i + 1)).map nI) s k = nI i from if_pos c22] at hQ
          exact hQ
      · skip
        refine x_callV (a := m) (av := [x_i (nI i)]) (rest := []) (r := (some (x_i 0))) (h1 := h) dX10_openRule_14 sX10_openRule_244 (mPk_0 hB.1.1) rfl rfl (Nat.le_of_ble_eq_true rfl) ⟨Nat.le_refl _, Nat.le_refl _⟩ (by have k := c_isOpen G hB hV hO h20 q9; rw [if_neg qo] at k; exact k) ?_
        show x_E _ _ _ _ 17 _ [x_i 0] _
        refine x_if_eq (tgt := 30) dX10_openRule_17 (by decide) (fun _ => ?_) (fun c => absurd (by decide) c)
        refine x_iinc (i := 3) (x := nI i) (v := nI (i + 1)) (lv' := [(0, x_r (some m)), (1, x_i k), (2, x_i (nI s)), (3, x_i (nI (i + 1)))]) dX10_openRule_30 rfl (nI_1 i) (by decide) rfl ?_
        refine x_goto (tgt := 4) dX10_openRule_33 (by decide) ?_
        show x_E _ _ _ _ 4 _ _ _
        rw [z_ops_s q9, if_neg qo] at hQ
        exact ih (i + 1) s (by omega) (by omega) (by omega) hQ
set_option maxHeartbeats 4000000 in
set_option maxRecDepth 100000 in
theorem c_openRule (G : x_G) {h : x_H} {m : Nat} {l : List (Nat × Nat)} {C : Nat → Int32} {R : List (Nat × Nat)} {E : List Int32} (hB : m_Bk h m l C R E) {V : Nat → Int32} (hV : m_V h m V R.length) {O : List Int32} (hO : m_O h m O) (h20 : O.length ≤ 20) (k : Int32) : x_Call G mX10_openRule h [x_r (some m), x_i k] (some (x_i (z_kt ((z_ops C R V O 0).map nI) 0 k))) h := by
  refine x_Ex.call (x_enter mwX10_openRule (Nat.le_of_ble_eq_true rfl) ?_)
  show x_E _ _ _ _ _ [(0, x_r (some m)), (1, x_i k)] _ _
  refine x_iconst (v := 0) dX10_openRule_0 (by decide) ?_
  refine x_istore_n (i := 2) (lv' := [(0, x_r (some m)), (1, x_i k), (2, x_i 0)]) dX10_openRule_1 rfl (by decide) rfl ?_
  refine x_iconst (v := 0) dX10_openRule_2 (by decide) ?_
  refine x_istore_n (i := 3) (lv' := [(0, x_r (some m)), (1, x_i k), (2, x_i 0), (3, x_i 0)]) dX10_openRule_3 rfl (by decide) rfl ?_
  show x_E _ _ _ _ 4 _ _ _
  exact l_openRule G hB hV hO h20 k _ _ 0 0 (Nat.le_refl _) (Nat.zero_le _) rfl ⟨rfl, rfl⟩
theorem z_kt_map (f : Nat → Int32) (L : List Nat) (k : Int32) : ∀ s, (z_kt (L.map f) s k = -1 ∧ ∀ g : Nat → Int32, z_kt (L.map g) s k = -1) ∨ ∃ r ∈ L, ∀ g : Nat → Int32, z_kt (L.map g) s k = g r := by
  induction L with
  | nil => intro s; exact Or.inl ⟨rfl, fun _ => rfl⟩
  | cons a L ih =>
    intro s
    by_cases h : nI s = k
    · exact Or.inr ⟨a, List.mem_cons_self, fun g => if_pos h⟩
    · rcases ih (s + 1) with ⟨h1, h2⟩ | ⟨r, h1, h2⟩
      · refine Or.inl ⟨?_, fun g => ?_⟩
        · rw [List.map_cons]; exact (if_neg h).trans h1
        · rw [List.map_cons]; exact (if_neg h).trans (h2 g)
      · exact Or.inr ⟨r, List.mem_cons_of_mem _ h1, fun g => by rw [List.map_cons]; exact (if_neg h).trans (h2 g)⟩
/-- what open(k, what) tells of rule r -/
def z_ow (C : Nat → Int32) (R : List (Nat × Nat)) (V : Nat → Int32) (what : Int32) (r : Nat) : Int32 := if what = 0 then nI r else if what = 1 then (match R[r]? with | some q => C (q.1 + 1) | none => -1) else if what = 2 then V r else -1
theorem z_ops_m {C : Nat → Int32} {R : List (Nat × Nat)} {V : Nat → Int32} {O : List Int32} {r : Nat} (h : r ∈ z_ops C R V O 0) : r < R.length ∧ z_op C R V O r = true ∧ 0 ≤ V r := by
  obtain ⟨h1, h2⟩ := List.mem_filter.mp h
  have h3 := List.mem_range'_1.mp h1
  refine ⟨by omega, h2, ?_⟩
  unfold z_op at h2
  split at h2
  · simp at h2
    exact h2.1
  · cases h2
set_option maxHeartbeats 4000000 in
set_option maxRecDepth 100000 in
theorem c_openM (G : x_G) {h : x_H} {m : Nat} {l : List (Nat × Nat)} {C : Nat → Int32} {R : List (Nat × Nat)} {E : List Int32} (hB : m_Bk h m l C R E) {V : Nat → Int32} (hV : m_V h m V R.length) {O : List Int32} (hO : m_O h m O) (h20 : O.length ≤ 20) (k what : Int32) : x_Call G mX10_open h [x_r (some m), x_i k, x_i what] (some (x_i (z_kt ((z_ops C R V O 0).map (z_ow C R V what)) 0 k))) (x_sI h 1024 m 0) := by
  have hF : x_F h (x_sI h 1024 m 0) (fun i a => i = 1024 ∧ a = m) (fun _ => False) := x_F.rf.I ⟨rfl, rfl⟩
  have hB1 : m_Bk (x_sI h 1024 m 0) m l C R E := hB.F hF ⟨by omega, by omega, by omega⟩ (fun _ z => z.elim)
  have hV1 : m_V (x_sI h 1024 m 0) m V R.length := hV
  have hO1 : m_O (x_sI h 1024 m 0) m O := ⟨by rw [x_fi_sI, if_neg (by omega)]; exact hO.1, hO.2⟩
  refine x_Ex.call (x_enter mwX10_open (Nat.le_of_ble_eq_true rfl) ?_)
  show x_E _ _ _ _ _ [(0, x_r (some m)), (1, x_i k), (2, x_i what)] _ _
  refine x_aload_n (i := 0) (o := some m) dX10_open_0 rfl rfl ?_
  refine x_iconst (v := 0) dX10_open_1 (by decide) ?_
  refine x_putI (i := 1024) dX10_open_2 pX10_open_68 rfl rfl (mPk_0 hB.1.1) (rfl) (by rfl) ?_
  refine x_aload_n (i := 0) (o := some m) dX10_open_5 rfl rfl ?_
  refine x_iload_n (i := 1) (x := k) dX10_open_6 rfl rfl ?_
  rcases z_kt_map nI (z_ops C R V O 0) k 0 with ⟨h1, h2⟩ | ⟨r, h1, h2⟩
  · skip
    refine x_callV (a := m) (av := [x_i k]) (rest := []) (r := (some (x_i ((-1))))) (h1 := x_sI h 1024 m 0) dX10_open_7 sX10_open_247 (mPk_0 hB.1.1) rfl rfl (Nat.le_of_ble_eq_true rfl) ⟨Nat.le_refl _, Nat.le_refl _⟩ (by have k9 := c_openRule G hB1 hV1 hO1 h20 k; rw [h1] at k9; exact k9) ?_
    show x_E _ _ _ _ 10 _ [x_i ((-1))] _
    refine x_istore_n (i := 3) (lv' := [(0, x_r (some m)), (1, x_i k), (2, x_i what), (3, x_i ((-1)))]) dX10_open_10 rfl (by decide) rfl ?_
    refine x_iload_n (i := 3) (x := (-1)) dX10_open_11 rfl rfl ?_
    refine x_iconst (v := (-1)) dX10_open_12 (by decide) ?_
    refine x_icmp_ne (tgt := 18) dX10_open_13 (by decide) (fun c => absurd c (by decide)) (fun _ => ?_)
    refine x_iconst (v := (-1)) dX10_open_16 (by decide) ?_
    refine x_ireturn dX10_open_17 rfl (rfl) ⟨Nat.le_refl _, Nat.le_refl _⟩ ?_
    exact ⟨by rw [h2], rfl⟩
  · skip
    obtain ⟨g1, g2, g3⟩ := z_ops_m h1
    obtain ⟨q, hr⟩ : ∃ q, R[r]? = some q := ⟨_, List.getElem?_eq_getElem g1⟩
    have h60 := hB.2.2.1
    refine x_callV (a := m) (av := [x_i k]) (rest := []) (r := (some (x_i (nI r)))) (h1 := x_sI h 1024 m 0) dX10_open_7 sX10_open_247 (mPk_0 hB.1.1) rfl rfl (Nat.le_of_ble_eq_true rfl) ⟨Nat.le_refl _, Nat.le_refl _⟩ (by have k9 := c_openRule G hB1 hV1 hO1 h20 k; rw [h2] at k9; exact k9) ?_
    show x_E _ _ _ _ 10 _ [x_i (nI r)] _
    refine x_istore_n (i := 3) (lv' := [(0, x_r (some m)), (1, x_i k), (2, x_i what), (3, x_i (nI r))]) dX10_open_10 rfl (by decide) rfl ?_
    refine x_iload_n (i := 3) (x := nI r) dX10_open_11 rfl rfl ?_
    refine x_iconst (v := (-1)) dX10_open_12 (by decide) ?_
    refine x_icmp_ne (tgt := 18) dX10_open_13 (by decide) (fun c13 => ?_) (fun c13 => ?_)
    · skip
      refine x_iload_n (i := 2) (x := what) dX10_open_18 rfl rfl ?_
      refine x_if_ne (tgt := 26) dX10_open_19 (by decide) (fun c19 => ?_) (fun c19 => ?_)
      · skip
        refine x_iload_n (i := 2) (x := what) dX10_open_26 rfl rfl ?_
        refine x_iconst (v := 1) dX10_open_27 (by decide) ?_
        refine x_icmp_ne (tgt := 39) dX10_open_28 (by decide) (fun c28 => ?_) (fun c28 => ?_)
        · skip
          refine x_iload_n (i := 2) (x := what) dX10_open_39 rfl rfl ?_
          refine x_iconst (v := 2) dX10_open_40 (by decide) ?_
          refine x_icmp_ne (tgt := 53) dX10_open_41 (by decide) (fun c41 => ?_) (fun c41 => ?_)
          · skip
            refine x_iconst (v := (-1)) dX10_open_53 (by decide) ?_
            refine x_ireturn dX10_open_54 rfl (rfl) ⟨Nat.le_refl _, Nat.le_refl _⟩ ?_
            exact ⟨by rw [h2]; unfold z_ow; rw [if_neg c19, if_neg c28, if_neg c41], rfl⟩
          · skip
            refine x_aload_n (i := 0) (o := some m) dX10_open_44 rfl rfl ?_
            refine x_getRv (v := some (m + 15)) dX10_open_45 fX10_open_62 (i := 1021) rfl rfl (mPk_0 hB.1.1) (mPr_1021 hB.1.1) ?_
            refine x_iload_n (i := 3) (x := nI r) dX10_open_48 rfl rfl ?_
            refine x_ialoadN (n := r) (v := V r) dX10_open_49 (mPk_15 hB.1.1) (rfl) (by show r < x_ln h _; rw [mPl_15 hB.1.1]; omega) (by show x_ln h _ < _; rw [mPl_15 hB.1.1]; omega) ((hV r g1).2 g3) ?_
            refine x_goto (tgt := 54) dX10_open_50 (by decide) ?_
            refine x_ireturn dX10_open_54 rfl (rfl) ⟨Nat.le_refl _, Nat.le_refl _⟩ ?_
            exact ⟨by rw [h2]; unfold z_ow; rw [if_neg c19, if_neg c28, if_pos c41], rfl⟩
        · skip
          refine x_aload_n (i := 0) (o := some m) dX10_open_31 rfl rfl ?_
          refine x_iload_n (i := 3) (x := nI r) dX10_open_32 rfl rfl ?_
          refine x_callV (a := m) (av := [x_i (nI r)]) (rest := []) (r := (some (x_i (C (q.1 + 1))))) (h1 := x_sI h 1024 m 0) dX10_open_33 sX10_open_198 (mPk_0 hB.1.1) rfl rfl (Nat.le_of_ble_eq_true rfl) ⟨Nat.le_refl _, Nat.le_refl _⟩ (c_classOf G hB1 hr) ?_
          show x_E _ _ _ _ 36 _ [x_i (C (q.1 + 1))] _
          refine x_goto (tgt := 54) dX10_open_36 (by decide) ?_
          refine x_ireturn dX10_open_54 rfl (rfl) ⟨Nat.le_refl _, Nat.le_refl _⟩ ?_
          exact ⟨by rw [h2]; unfold z_ow; rw [if_neg c19, if_pos c28, hr], rfl⟩
      · skip
        refine x_iload_n (i := 3) (x := nI r) dX10_open_22 rfl rfl ?_
        refine x_goto (tgt := 54) dX10_open_23 (by decide) ?_
        refine x_ireturn dX10_open_54 rfl (rfl) ⟨Nat.le_refl _, Nat.le_refl _⟩ ?_
        exact ⟨by rw [h2, show z_ow C R V what r = nI r from if_pos c19], rfl⟩
    · skip
      exact absurd c13 (z_neg1 (nI_pos' (by omega)))
