/-! THE REFERENCE: cls, mark, moving, explain -/
theorem z_kt_get : ∀ (L : List Int32) (s j : Nat) (x : Int32), L[j]? = some x → s + j < 2 ^ 31 → z_kt L s (nI (s + j)) = x
  | [], s, j, x, h, _ => by simp at h
  | y :: L, s, 0, x, h, _ => by
    have : y = x := by simpa using h
    subst this
    exact if_pos rfl
  | y :: L, s, j + 1, x, h, hs => by
    have h1 : L[j]? = some x := by simpa using h
    have h2 := z_kt_get L (s + 1) j x h1 (by omega)
    rw [show s + (j + 1) = s + 1 + j by omega]
    exact (if_neg (fun z => by have := (nI_eq (by omega) (by omega)).mp z; omega)).trans h2
theorem z_kt_out : ∀ (L : List Int32) (s : Nat) (k : Int32), (∀ j, j < L.length → ¬ nI (s + j) = k) → z_kt L s k = -1
  | [], _, _, _ => rfl
  | y :: L, s, k, h => by
    have h1 := z_kt_out L (s + 1) k (fun j hj => by
      have := h (j + 1) (by simp; omega)
      rw [show s + 1 + j = s + (j + 1) by omega]
      exact this)
    exact (if_neg (h 0 (by simp))).trans h1
def z_hl (O : List Int32) (i : Nat) : List Int32 := ((List.range' i (20 - i)).filter (fun c => decide (nI c ∈ O))).map nI
theorem z_hl_s {O : List Int32} {i : Nat} (h : i < 20) : z_hl O i = if nI i ∈ O then nI i :: z_hl O (i + 1) else z_hl O (i + 1) := by
  unfold z_hl
  rw [show 20 - i = (20 - (i + 1)) + 1 by omega, List.range'_succ, List.filter_cons]
  by_cases hm : nI i ∈ O
  · rw [if_pos hm, if_pos (by simpa using hm)]; rfl
  · rw [if_neg hm, if_neg (by simpa using hm)]
set_option maxHeartbeats 4000000 in
set_option maxRecDepth 100000 in
theorem l_cls (G : x_G) {h : x_H} {m : Nat} (hp : mP h m) {O : List Int32} (hO : m_O h m O) (h20 : O.length ≤ 20) (k : Int32) (Q : Option x_V → x_H → Prop) : ∀ (n i s : Nat), s ≤ i → i ≤ 20 → 20 - i = n → Q (some (x_i (z_kt (z_hl O i) s k))) (x_sI h 1024 m 0) → x_E G mX10_cls (x_D G mX10_cls h Q) h 9 [(0, x_r (some m)), (1, x_i k), (2, x_i (nI s)), (3, x_i (nI i))] [] (x_sI h 1024 m 0) := by
  have hO1 : x_fi (x_sI h 1024 m 0) 1023 m = nI O.length ∧ ∀ (j : Nat) (c : Int32), O[j]? = some c → x_rw (x_sI h 1024 m 0) (m + 16) j = c := ⟨by rw [x_fi_sI, if_neg (by omega)]; exact hO.1, hO.2⟩
  intro n
  induction n with
  | zero =>
    intro i s hs hi hn hQ
    have ei : i = 20 := by omega
    refine x_iload_n (i := 3) (x := nI i) dX10_cls_9 rfl rfl ?_
    refine x_bipush (v := 19) dX10_cls_10 (by decide) ?_
    refine x_icmp_gt (tgt := 39) dX10_cls_12 (by decide) (fun c12 => ?_) (fun c12 => ?_)
    · skip
      refine x_iconst (v := (-1)) dX10_cls_39 (by decide) ?_
      refine x_ireturn dX10_cls_40 rfl (rfl) ⟨Nat.le_refl _, Nat.le_refl _⟩ ?_
      rw [show z_hl O i = [] by unfold z_hl; rw [show 20 - i = 0 by omega]; rfl] at hQ
      exact hQ
    · skip
      exact absurd (nI_lt (a := 19) (by omega) (by omega)) c12
  | succ n ih =>
    intro i s hs hi hn hQ
    refine x_iload_n (i := 3) (x := nI i) dX10_cls_9 rfl rfl ?_
    refine x_bipush (v := 19) dX10_cls_10 (by decide) ?_
    refine x_icmp_gt (tgt := 39) dX10_cls_12 (by decide) (fun c12 => ?_) (fun c12 => ?_)
    · skip
      have q12 := (nI_ltI (a := 19) (by omega) (by omega)).mp c12
      refine x_iconst (v := (-1)) dX10_cls_39 (by decide) ?_
      refine x_ireturn dX10_cls_40 rfl (rfl) ⟨Nat.le_refl _, Nat.le_refl _⟩ ?_
      rw [show z_hl O i = [] by unfold z_hl; rw [show 20 - i = 0 by omega]; rfl] at hQ
      exact hQ
    · skip
      have q12 : i < 20 := by
        have : ¬ 19 < i := fun z => c12 (nI_lt (a := 19) z (by omega))
        omega
      refine x_aload_n (i := 0) (o := some m) dX10_cls_15 rfl rfl ?_
      refine x_iload_n (i := 3) (x := nI i) dX10_cls_16 rfl rfl ?_
      by_cases qm : nI i ∈ O
      · skip
        refine x_callV (a := m) (av := [x_i (nI i)]) (rest := []) (r := (some (x_i 1))) (h1 := x_sI h 1024 m 0) dX10_cls_17 sX10_cls_224 (mPk_0 hp) rfl rfl (Nat.le_of_ble_eq_true rfl) ⟨Nat.le_refl _, Nat.le_refl _⟩ (by have k := c_holds G (h := x_sI h 1024 m 0) hp hO1 h20 (nI i); rw [if_pos qm] at k; exact k) ?_
        show x_E _ _ _ _ 20 _ [x_i 1] _
        refine x_if_eq (tgt := 33) dX10_cls_20 (by decide) (fun c => absurd c (by decide)) (fun _ => ?_)
        refine x_iload_n (i := 2) (x := nI s) dX10_cls_23 rfl rfl ?_
        refine x_iload_n (i := 1) (x := k) dX10_cls_24 rfl rfl ?_
        refine x_icmp_ne (tgt := 30) dX10_cls_25 (by decide) (fun c25 => ?_) (fun c25 => ?_)
        · skip
          refine x_iinc (i := 2) (x := nI s) (v := nI (s + 1)) (lv' := [(0, x_r (some m)), (1, x_i k), (2, x_i (nI (s + 1))), (3, x_i (nI i))]) dX10_cls_30 rfl (nI_1 s) (by decide) rfl ?_
          refine x_iinc (i := 3) (x := nI i) (v := nI (i + 1)) (lv' := [(0, x_r (some m)), (1, x_i k), (2, x_i (nI (s + 1))), (3, x_i (nI (i + 1)))]) dX10_cls_33 rfl (nI_1 i) (by decide) rfl ?_
          refine x_goto (tgt := 9) dX10_cls_36 (by decide) ?_
          show x_E _ _ _ _ 9 _ _ _
          rw [z_hl_s q12, if_pos qm] at hQ
          rw [show z_kt (nI i :: z_hl O (i + 1)) s k = z_kt (z_hl O (i + 1)) (s + 1) k from if_neg c25] at hQ
          exact ih (i + 1) (s + 1) (by omega) (by omega) (by omega) hQ
        · skip
          refine x_iload_n (i := 3) (x := nI i) dX10_cls_28 rfl rfl ?_
          refine x_ireturn dX10_cls_29 rfl (rfl) ⟨Nat.le_refl _, Nat.le_refl _⟩ ?_
          rw [z_hl_s q12, if_pos qm] at hQ
          rw [show z_kt (nI i :: z_hl O (i + 1)) s k = nI i from if_pos c25] at hQ
          exact hQ
      · skip
        refine x_callV (a := m) (av := [x_i (nI i)]) (rest := []) (r := (some (x_i 0))) (h1 := x_sI h 1024 m 0) dX10_cls_17 sX10_cls_224 (mPk_0 hp) rfl rfl (Nat.le_of_ble_eq_true rfl) ⟨Nat.le_refl _, Nat.le_refl _⟩ (by have k := c_holds G (h := x_sI h 1024 m 0) hp hO1 h20 (nI i); rw [if_neg qm] at k; exact k) ?_
        show x_E _ _ _ _ 20 _ [x_i 0] _
        refine x_if_eq (tgt := 33) dX10_cls_20 (by decide) (fun _ => ?_) (fun c => absurd (by decide) c)
        refine x_iinc (i := 3) (x := nI i) (v := nI (i + 1)) (lv' := [(0, x_r (some m)), (1, x_i k), (2, x_i (nI s)), (3, x_i (nI (i + 1)))]) dX10_cls_33 rfl (nI_1 i) (by decide) rfl ?_
        refine x_goto (tgt := 9) dX10_cls_36 (by decide) ?_
        show x_E _ _ _ _ 9 _ _ _
        rw [z_hl_s q12, if_neg qm] at hQ
        exact ih (i + 1) s (by omega) (by omega) (by omega) hQ
set_option maxHeartbeats 4000000 in
set_option maxRecDepth 100000 in
theorem c_clsM (G : x_G) {h : x_H} {m : Nat} (hp : mP h m) {O : List Int32} (hO : m_O h m O) (h20 : O.length ≤ 20) (k : Int32) : x_Call G mX10_cls h [x_r (some m), x_i k] (some (x_i (z_kt (z_hl O 0) 0 k))) (x_sI h 1024 m 0) := by
  refine x_Ex.call (x_enter mwX10_cls (Nat.le_of_ble_eq_true rfl) ?_)
  show x_E _ _ _ _ _ [(0, x_r (some m)), (1, x_i k)] _ _
  refine x_aload_n (i := 0) (o := some m) dX10_cls_0 rfl rfl ?_
  refine x_iconst (v := 0) dX10_cls_1 (by decide) ?_
  refine x_putI (i := 1024) dX10_cls_2 pX10_cls_68 rfl rfl (mPk_0 hp) (rfl) (by rfl) ?_
  refine x_iconst (v := 0) dX10_cls_5 (by decide) ?_
  refine x_istore_n (i := 2) (lv' := [(0, x_r (some m)), (1, x_i k), (2, x_i 0)]) dX10_cls_6 rfl (by decide) rfl ?_
  refine x_iconst (v := 0) dX10_cls_7 (by decide) ?_
  refine x_istore_n (i := 3) (lv' := [(0, x_r (some m)), (1, x_i k), (2, x_i 0), (3, x_i 0)]) dX10_cls_8 rfl (by decide) rfl ?_
  show x_E _ _ _ _ 9 _ _ _
  exact l_cls G hp hO h20 k _ _ 0 0 (Nat.le_refl _) (Nat.zero_le _) rfl ⟨rfl, rfl⟩
set_option maxHeartbeats 4000000 in
set_option maxRecDepth 100000 in
theorem c_movingM (G : x_G) {h : x_H} {m : Nat} (hp : mP h m) {O : List Int32} (hO : m_O h m O) (h20 : O.length ≤ 20) : x_Call G mX10_moving h [x_r (some m)] (some (x_i (z_kt (z_hl O 0) 0 0))) (x_sI h 1024 m 0) := by
  refine x_Ex.call (x_enter mwX10_moving (Nat.le_of_ble_eq_true rfl) ?_)
  show x_E _ _ _ _ _ [(0, x_r (some m))] _ _
  refine x_aload_n (i := 0) (o := some m) dX10_moving_0 rfl rfl ?_
  refine x_iconst (v := 0) dX10_moving_1 (by decide) ?_
  refine x_callV (a := m) (av := [x_i 0]) (rest := []) (r := (some (x_i (z_kt (z_hl O 0) 0 0)))) (h1 := x_sI h 1024 m 0) dX10_moving_2 sX10_moving_241 (mPk_0 hp) rfl rfl (Nat.le_of_ble_eq_true rfl) ⟨Nat.le_refl _, Nat.le_refl _⟩ (c_clsM G hp hO h20 0) ?_
  show x_E _ _ _ _ 5 _ [x_i (z_kt (z_hl O 0) 0 0)] _
  refine x_ireturn dX10_moving_5 rfl (rfl) ⟨Nat.le_refl _, Nat.le_refl _⟩ ?_
  exact ⟨rfl, rfl⟩
set_option maxHeartbeats 4000000 in
set_option maxRecDepth 100000 in
theorem c_markM (G : x_G) {h : x_H} {m : Nat} (hp : mP h m) {O : List Int32} (hO : m_O h m O) (h20 : O.length ≤ 20) (k : Int32) : x_Call G mX10_mark h [x_r (some m), x_i k] (some (x_i (z_kt O 0 k))) (x_sI h 1024 m 0) := by
  refine x_Ex.call (x_enter mwX10_mark (Nat.le_of_ble_eq_true rfl) ?_)
  show x_E _ _ _ _ _ [(0, x_r (some m)), (1, x_i k)] _ _
  refine x_aload_n (i := 0) (o := some m) dX10_mark_0 rfl rfl ?_
  refine x_iconst (v := 0) dX10_mark_1 (by decide) ?_
  refine x_putI (i := 1024) dX10_mark_2 pX10_mark_68 rfl rfl (mPk_0 hp) (rfl) (by rfl) ?_
  refine x_iload_n (i := 1) (x := k) dX10_mark_5 rfl rfl ?_
  refine x_if_lt (tgt := 26) dX10_mark_6 (by decide) (fun c6 => ?_) (fun c6 => ?_)
  · skip
    have e6 : z_kt O 0 k = -1 := z_kt_out _ _ _ fun j hj z => by rw [← z] at c6; exact absurd c6 (nI_pos (by omega))
    refine x_iconst (v := (-1)) dX10_mark_26 (by decide) ?_
    refine x_ireturn dX10_mark_27 rfl (rfl) ⟨Nat.le_refl _, Nat.le_refl _⟩ ?_
    exact ⟨by rw [e6], rfl⟩
  · skip
    obtain ⟨j, hj, rfl⟩ := nI_of c6
    refine x_iload_n (i := 1) (x := nI j) dX10_mark_9 rfl rfl ?_
    refine x_aload_n (i := 0) (o := some m) dX10_mark_10 rfl rfl ?_
    refine x_getIv (v := nI O.length) dX10_mark_11 fX10_mark_179 (i := 1023) rfl rfl (mPk_0 hp) ((by rw [x_fi_sI, if_neg (by omega)]; exact hO.1)) ?_
    refine x_icmp_ge (tgt := 26) dX10_mark_14 (by decide) (fun c14 => ?_) (fun c14 => ?_)
    · skip
      have q14 := (nI_leI (by omega) hj).mp c14
      have e6 : z_kt O 0 (nI j) = -1 := z_kt_out _ _ _ fun i hi z => by have := (nI_eq (by omega) hj).mp z; omega
      refine x_iconst (v := (-1)) dX10_mark_26 (by decide) ?_
      refine x_ireturn dX10_mark_27 rfl (rfl) ⟨Nat.le_refl _, Nat.le_refl _⟩ ?_
      exact ⟨by rw [e6], rfl⟩
    · skip
      have q14 : j < O.length := Nat.lt_of_not_le fun z => c14 (nI_le z hj)
      obtain ⟨x, hx⟩ : ∃ x, O[j]? = some x := ⟨_, List.getElem?_eq_getElem q14⟩
      have e6 : z_kt O 0 (nI j) = x := by have := z_kt_get O 0 j x hx (by omega); rw [Nat.zero_add] at this; exact this
      refine x_aload_n (i := 0) (o := some m) dX10_mark_17 rfl rfl ?_
      refine x_getRv (v := some (m + 16)) dX10_mark_18 fX10_mark_65 (i := 1022) rfl rfl (mPk_0 hp) (mPr_1022 hp) ?_
      refine x_iload_n (i := 1) (x := nI j) dX10_mark_21 rfl rfl ?_
      refine x_ialoadN (n := j) (v := x) dX10_mark_22 (mPk_16 hp) (rfl) (by show j < x_ln h _; rw [mPl_16 hp]; omega) (by show x_ln h _ < _; rw [mPl_16 hp]; omega) (hO.2 j x hx) ?_
      refine x_goto (tgt := 27) dX10_mark_23 (by decide) ?_
      refine x_ireturn dX10_mark_27 rfl (rfl) ⟨Nat.le_refl _, Nat.le_refl _⟩ ?_
      exact ⟨by rw [e6], rfl⟩
def z_so (C : Nat → Int32) (R : List (Nat × Nat)) (V : Nat → Int32) (c : Int32) (r : Nat) : Bool := match R[r]? with
  | some q => V r == -2 && C (q.1 + 1) == c
  | none => false
def z_sos (C : Nat → Int32) (R : List (Nat × Nat)) (V : Nat → Int32) (c : Int32) (i : Nat) : List Nat := (List.range' i (R.length - i)).filter (z_so C R V c)
theorem z_sos_s {C : Nat → Int32} {R : List (Nat × Nat)} {V : Nat → Int32} {c : Int32} {i : Nat} (h : i < R.length) : z_sos C R V c i = if z_so C R V c i = true then i :: z_sos C R V c (i + 1) else z_sos C R V c (i + 1) := by
  unfold z_sos
  rw [show R.length - i = (R.length - (i + 1)) + 1 by omega, List.range'_succ, List.filter_cons]
theorem z_sos_e {C : Nat → Int32} {R : List (Nat × Nat)} {V : Nat → Int32} {c : Int32} {i : Nat} (h : R.length ≤ i) : z_sos C R V c i = [] := by
  unfold z_sos
  rw [show R.length - i = 0 by omega]
  rfl
/-- what explain(cls, k, what) tells of rule r -/
def z_xw (C : Nat → Int32) (R : List (Nat × Nat)) (what : Int32) (r : Nat) : Int32 := if what = 0 then nI r else if what = 1 then (match R[r]? with | some q => nI (z_its C q).length | none => -1) else if what = 2 then (match R[r]? with | some q => nI q.1 | none => -1) else -1
set_option maxHeartbeats 4000000 in
set_option maxRecDepth 100000 in
theorem l_explain (G : x_G) {h : x_H} {m : Nat} {l : List (Nat × Nat)} {C : Nat → Int32} {R : List (Nat × Nat)} {E : List Int32} (hB : m_Bk h m l C R E) {V : Nat → Int32} (hV : m_V h m V R.length) (c k what : Int32) (Q : Option x_V → x_H → Prop) : ∀ (n i s : Nat), s ≤ i → i ≤ R.length → R.length - i = n → Q (some (x_i (z_kt ((z_sos C R V c i).map (z_xw C R what)) s k))) (x_sI h 1024 m 0) → x_E G mX10_explain (x_D G mX10_explain h Q) h 11 [(0, x_r (some m)), (1, x_i c), (2, x_i k), (3, x_i what), (4, x_i (nI s)), (5, x_i (nI i))] [] (x_sI h 1024 m 0) := by
  have hF : x_F h (x_sI h 1024 m 0) (fun i a => i = 1024 ∧ a = m) (fun _ => False) := x_F.rf.I ⟨rfl, rfl⟩
  have hB1 : m_Bk (x_sI h 1024 m 0) m l C R E := hB.F hF ⟨by omega, by omega, by omega⟩ (fun _ z => z.elim)
  have h60 := hB.2.2.1
  intro n
  induction n with
  | zero =>
    intro i s hs hi hn hQ
    have ei : i = R.length := by omega
    subst ei
    refine x_iload (i := 5) (x := nI R.length) dX10_explain_11 rfl ?_
    refine x_aload_n (i := 0) (o := some m) dX10_explain_13 rfl rfl ?_
    refine x_getIv (v := nI R.length) dX10_explain_14 fX10_explain_162 (i := 1011) rfl rfl (mPk_0 hB1.1.1) (hB1.2.1.1) ?_
    refine x_icmp_ge (tgt := 96) dX10_explain_17 (by decide) (fun c17 => ?_) (fun c17 => ?_)
    · skip
      refine x_iconst (v := (-1)) dX10_explain_96 (by decide) ?_
      refine x_ireturn dX10_explain_97 rfl (rfl) ⟨Nat.le_refl _, Nat.le_refl _⟩ ?_
      rw [z_sos_e (Nat.le_refl _)] at hQ
      exact hQ
    · skip
      exact absurd (nI_le (by omega) (by omega)) c17
  | succ n ih =>
    intro i s hs hi hn hQ
    refine x_iload (i := 5) (x := nI i) dX10_explain_11 rfl ?_
    refine x_aload_n (i := 0) (o := some m) dX10_explain_13 rfl rfl ?_
    refine x_getIv (v := nI R.length) dX10_explain_14 fX10_explain_162 (i := 1011) rfl rfl (mPk_0 hB1.1.1) (hB1.2.1.1) ?_
    refine x_icmp_ge (tgt := 96) dX10_explain_17 (by decide) (fun c17 => ?_) (fun c17 => ?_)
    · skip
      have q17 := (nI_leI (by omega) (by omega)).mp c17
      refine x_iconst (v := (-1)) dX10_explain_96 (by decide) ?_
      refine x_ireturn dX10_explain_97 rfl (rfl) ⟨Nat.le_refl _, Nat.le_refl _⟩ ?_
      rw [z_sos_e q17] at hQ
      exact hQ
    · skip
      have q17 : i < R.length := Nat.lt_of_not_le fun z => c17 (nI_le z (by omega))
      obtain ⟨q, hr⟩ : ∃ q, R[i]? = some q := ⟨_, List.getElem?_eq_getElem q17⟩
      obtain ⟨h7, h8, hk6, hq1, hq2, hcl, e, hqs⟩ := hB1.at hr
      have eo : z_so C R V c i = (V i == -2 && C (q.1 + 1) == c) := by unfold z_so; rw [hr]
      refine x_aload_n (i := 0) (o := some m) dX10_explain_20 rfl rfl ?_
      refine x_getRv (v := some (m + 14)) dX10_explain_21 fX10_explain_59 (i := 1020) rfl rfl (mPk_0 hB1.1.1) (mPr_1020 hB1.1.1) ?_
      refine x_iload (i := 5) (x := nI i) dX10_explain_24 rfl ?_
      refine x_ialoadN (n := i) (v := z_st (V i)) dX10_explain_26 (mPk_14 hB1.1.1) (rfl) (by show i < x_ln h _; rw [mPl_14 hB.1.1]; omega) (by show x_ln h _ < _; rw [mPl_14 hB.1.1]; omega) ((hV i q17).1) ?_
      refine x_iconst (v := 1) dX10_explain_27 (by decide) ?_
      refine x_icmp_ne (tgt := 90) dX10_explain_28 (by decide) (fun c28 => ?_) (fun c28 => ?_)
      · skip
        have e28 : ¬ z_so C R V c i = true := by
          have e29 : ¬ V i = -2 := fun z => c28 (z_st_1.mpr z)
          rw [eo]
          simp [e29]
        refine x_iinc (i := 5) (x := nI i) (v := nI (i + 1)) (lv' := [(0, x_r (some m)), (1, x_i c), (2, x_i k), (3, x_i what), (4, x_i (nI s)), (5, x_i (nI (i + 1)))]) dX10_explain_90 rfl (nI_1 i) (by decide) rfl ?_
        refine x_goto (tgt := 11) dX10_explain_93 (by decide) ?_
        show x_E _ _ _ _ 11 _ _ _
        rw [z_sos_s q17, if_neg e28] at hQ
        exact ih (i + 1) s (by omega) (by omega) (by omega) hQ
      · skip
        have e28 : V i = -2 := z_st_1.mp c28
        refine x_aload_n (i := 0) (o := some m) dX10_explain_31 rfl rfl ?_
        refine x_iload (i := 5) (x := nI i) dX10_explain_32 rfl ?_
        refine x_callV (a := m) (av := [x_i (nI i)]) (rest := []) (r := (some (x_i (C (q.1 + 1))))) (h1 := x_sI h 1024 m 0) dX10_explain_34 sX10_explain_198 (mPk_0 hB1.1.1) rfl rfl (Nat.le_of_ble_eq_true rfl) ⟨Nat.le_refl _, Nat.le_refl _⟩ (c_classOf G hB1 hr) ?_
        show x_E _ _ _ _ 37 _ [x_i (C (q.1 + 1))] _
        refine x_iload_n (i := 1) (x := c) dX10_explain_37 rfl rfl ?_
        refine x_icmp_ne (tgt := 90) dX10_explain_38 (by decide) (fun c38 => ?_) (fun c38 => ?_)
        · skip
          have e28 : ¬ z_so C R V c i = true := by rw [eo]; simp [c38]
          refine x_iinc (i := 5) (x := nI i) (v := nI (i + 1)) (lv' := [(0, x_r (some m)), (1, x_i c), (2, x_i k), (3, x_i what), (4, x_i (nI s)), (5, x_i (nI (i + 1)))]) dX10_explain_90 rfl (nI_1 i) (by decide) rfl ?_
          refine x_goto (tgt := 11) dX10_explain_93 (by decide) ?_
          show x_E _ _ _ _ 11 _ _ _
          rw [z_sos_s q17, if_neg e28] at hQ
          exact ih (i + 1) s (by omega) (by omega) (by omega) hQ
        · skip
          have e38 : z_so C R V c i = true := by rw [eo]; simp [e28, c38]
          refine x_iload (i := 4) (x := nI s) dX10_explain_41 rfl ?_
          refine x_iload_n (i := 2) (x := k) dX10_explain_43 rfl rfl ?_
          refine x_icmp_ne (tgt := 87) dX10_explain_44 (by decide) (fun c44 => ?_) (fun c44 => ?_)
          · skip
            refine x_iinc (i := 4) (x := nI s) (v := nI (s + 1)) (lv' := [(0, x_r (some m)), (1, x_i c), (2, x_i k), (3, x_i what), (4, x_i (nI (s + 1))), (5, x_i (nI i))]) dX10_explain_87 rfl (nI_1 s) (by decide) rfl ?_
            refine x_iinc (i := 5) (x := nI i) (v := nI (i + 1)) (lv' := [(0, x_r (some m)), (1, x_i c), (2, x_i k), (3, x_i what), (4, x_i (nI (s + 1))), (5, x_i (nI (i + 1)))]) dX10_explain_90 rfl (nI_1 i) (by decide) rfl ?_
            refine x_goto (tgt := 11) dX10_explain_93 (by decide) ?_
            show x_E _ _ _ _ 11 _ _ _
            rw [z_sos_s q17, if_pos e38, List.map_cons] at hQ
            rw [show z_kt (z_xw C R what i :: (z_sos C R V c (i + 1)).map (z_xw C R what)) s k = z_kt ((z_sos C R V c (i + 1)).map (z_xw C R what)) (s + 1) k from if_neg c44] at hQ
            exact ih (i + 1) (s + 1) (by omega) (by omega) (by omega) hQ
          · skip
            refine x_iload_n (i := 3) (x := what) dX10_explain_47 rfl rfl ?_
            refine x_if_ne (tgt := 56) dX10_explain_48 (by decide) (fun c48 => ?_) (fun c48 => ?_)
            · skip
              refine x_iload_n (i := 3) (x := what) dX10_explain_56 rfl rfl ?_
              refine x_iconst (v := 1) dX10_explain_57 (by decide) ?_
              refine x_icmp_ne (tgt := 70) dX10_explain_58 (by decide) (fun c58 => ?_) (fun c58 => ?_)
              · skip
                refine x_iload_n (i := 3) (x := what) dX10_explain_70 rfl rfl ?_
                refine x_iconst (v := 2) dX10_explain_71 (by decide) ?_
                refine x_icmp_ne (tgt := 85) dX10_explain_72 (by decide) (fun c72 => ?_) (fun c72 => ?_)
                · skip
                  refine x_iconst (v := (-1)) dX10_explain_85 (by decide) ?_
                  refine x_ireturn dX10_explain_86 rfl (rfl) ⟨Nat.le_refl _, Nat.le_refl _⟩ ?_
                  rw [z_sos_s q17, if_pos e38, List.map_cons] at hQ
                  rw [show z_kt (z_xw C R what i :: (z_sos C R V c (i + 1)).map (z_xw C R what)) s k = z_xw C R what i from if_pos c44, show z_xw C R what i = (-1) from by unfold z_xw; rw [if_neg c48, if_neg c58, if_neg c72]] at hQ
                  exact hQ
                · skip
                  refine x_aload_n (i := 0) (o := some m) dX10_explain_75 rfl rfl ?_
                  refine x_getRv (v := some (m + 7)) dX10_explain_76 fX10_explain_29 (i := 1009) rfl rfl (mPk_0 hB1.1.1) (mPr_1009 hB1.1.1) ?_
                  refine x_iload (i := 5) (x := nI i) dX10_explain_79 rfl ?_
                  refine x_ialoadN (n := i) (v := nI q.1) dX10_explain_81 (mPk_7 hB1.1.1) (rfl) (by show i < x_ln h _; rw [mPl_7 hB.1.1]; omega) (by show x_ln h _ < _; rw [mPl_7 hB.1.1]; omega) (h7) ?_
                  refine x_goto (tgt := 86) dX10_explain_82 (by decide) ?_
                  refine x_ireturn dX10_explain_86 rfl (rfl) ⟨Nat.le_refl _, Nat.le_refl _⟩ ?_
                  rw [z_sos_s q17, if_pos e38, List.map_cons] at hQ
                  rw [show z_kt (z_xw C R what i :: (z_sos C R V c (i + 1)).map (z_xw C R what)) s k = z_xw C R what i from if_pos c44, show z_xw C R what i = nI q.1 from by unfold z_xw; rw [if_neg c48, if_neg c58, if_pos c72, hr]] at hQ
                  exact hQ
              · skip
                refine x_aload_n (i := 0) (o := some m) dX10_explain_61 rfl rfl ?_
                refine x_iload (i := 5) (x := nI i) dX10_explain_62 rfl ?_
                refine x_callV (a := m) (av := [x_i (nI i)]) (rest := []) (r := (some (x_i (nI (z_its C q).length)))) (h1 := x_sI h 1024 m 0) dX10_explain_64 sX10_explain_250 (mPk_0 hB1.1.1) rfl rfl (Nat.le_of_ble_eq_true rfl) ⟨Nat.le_refl _, Nat.le_refl _⟩ (c_items G hB1 hr) ?_
                show x_E _ _ _ _ 67 _ [x_i (nI (z_its C q).length)] _
                refine x_goto (tgt := 86) dX10_explain_67 (by decide) ?_
                refine x_ireturn dX10_explain_86 rfl (rfl) ⟨Nat.le_refl _, Nat.le_refl _⟩ ?_
                rw [z_sos_s q17, if_pos e38, List.map_cons] at hQ
                rw [show z_kt (z_xw C R what i :: (z_sos C R V c (i + 1)).map (z_xw C R what)) s k = z_xw C R what i from if_pos c44, show z_xw C R what i = nI (z_its C q).length from by unfold z_xw; rw [if_neg c48, if_pos c58, hr]] at hQ
                exact hQ
            · skip
              refine x_iload (i := 5) (x := nI i) dX10_explain_51 rfl ?_
              refine x_goto (tgt := 86) dX10_explain_53 (by decide) ?_
              refine x_ireturn dX10_explain_86 rfl (rfl) ⟨Nat.le_refl _, Nat.le_refl _⟩ ?_
              rw [z_sos_s q17, if_pos e38, List.map_cons] at hQ
              rw [show z_kt (z_xw C R what i :: (z_sos C R V c (i + 1)).map (z_xw C R what)) s k = z_xw C R what i from if_pos c44, show z_xw C R what i = nI i from if_pos c48] at hQ
              exact hQ
set_option maxHeartbeats 4000000 in
set_option maxRecDepth 100000 in
theorem c_explainM (G : x_G) {h : x_H} {m : Nat} {l : List (Nat × Nat)} {C : Nat → Int32} {R : List (Nat × Nat)} {E : List Int32} (hB : m_Bk h m l C R E) {V : Nat → Int32} (hV : m_V h m V R.length) (c k what : Int32) : x_Call G mX10_explain h [x_r (some m), x_i c, x_i k, x_i what] (some (x_i (z_kt ((z_sos C R V c 0).map (z_xw C R what)) 0 k))) (x_sI h 1024 m 0) := by
  refine x_Ex.call (x_enter mwX10_explain (Nat.le_of_ble_eq_true rfl) ?_)
  show x_E _ _ _ _ _ [(0, x_r (some m)), (1, x_i c), (2, x_i k), (3, x_i what)] _ _
  refine x_aload_n (i := 0) (o := some m) dX10_explain_0 rfl rfl ?_
  refine x_iconst (v := 0) dX10_explain_1 (by decide) ?_
  refine x_putI (i := 1024) dX10_explain_2 pX10_explain_68 rfl rfl (mPk_0 hB.1.1) (rfl) (by rfl) ?_
  refine x_iconst (v := 0) dX10_explain_5 (by decide) ?_
  refine x_istore (i := 4) (lv' := [(0, x_r (some m)), (1, x_i c), (2, x_i k), (3, x_i what), (4, x_i 0)]) dX10_explain_6 (by decide) rfl ?_
  refine x_iconst (v := 0) dX10_explain_8 (by decide) ?_
  refine x_istore (i := 5) (lv' := [(0, x_r (some m)), (1, x_i c), (2, x_i k), (3, x_i what), (4, x_i 0), (5, x_i 0)]) dX10_explain_9 (by decide) rfl ?_
  show x_E _ _ _ _ 11 _ _ _
  exact l_explain G hB hV c k what _ _ 0 0 (Nat.le_refl _) (Nat.zero_le _) rfl ⟨rfl, rfl⟩
