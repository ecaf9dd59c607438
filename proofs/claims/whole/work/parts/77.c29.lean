/-! THE CLASS: HazardRules: cls, mark, moving, missing, open, explain -/
set_option maxHeartbeats 4000000 in
set_option maxRecDepth 100000 in
theorem l_clsX (G : x_G) {C : Nat → Int32} {h : x_H} {bk : Nat} {rs : List Nat} {R : List (Nat × Nat)} {es : List Nat} {E : List Int32} (hb : y_bk C h bk rs R es E) {V : Nat → Int32} (hV : y_V h rs V) {O : List Int32} (hO : z_oh C R V O) {ca : Nat} (hk : k_P h ca) (hbk : x_fr h 906 ca = some bk) (k : Int32) (Q : Option x_V → x_H → Prop) : ∀ (n i s : Nat), i ≤ 20 → 20 - i = n → Q (some (x_i (z_kt (z_hl O i) s k))) h → x_E G mX9_cls (x_D G mX9_cls h Q) h 4 [(0, x_r (some ca)), (1, x_i k), (2, x_i (nI s)), (3, x_i (nI i))] [] h := by
  intro n
  induction n with
  | zero =>
    intro i s hi hn hQ
    have ei : i = 20 := by omega
    subst ei
    rw [show z_hl O 20 = [] from rfl] at hQ
    refine x_iload_n (i := 3) (x := nI 20) dX9_cls_4 rfl rfl ?_
    refine x_bipush (v := 20) dX9_cls_5 (by decide) ?_
    refine x_icmp_ge (tgt := 37) dX9_cls_7 (by decide) (fun c7 => ?_) (fun c7 => ?_)
    · skip
      refine x_iconst (v := (-1)) dX9_cls_37 (by decide) ?_
      refine x_ireturn dX9_cls_38 rfl (rfl) ⟨Nat.le_refl _, Nat.le_refl _⟩ ?_
      exact hQ
    · skip
      exact absurd (by decide) c7
  | succ n ih =>
    intro i s hi hn hQ
    refine x_iload_n (i := 3) (x := nI i) dX9_cls_4 rfl rfl ?_
    refine x_bipush (v := 20) dX9_cls_5 (by decide) ?_
    refine x_icmp_ge (tgt := 37) dX9_cls_7 (by decide) (fun c7 => ?_) (fun c7 => ?_)
    · skip
      exact absurd ((nI_leI (a := 20) (by omega) (by omega)).mp c7) (by omega)
    · skip
      refine x_aload_n (i := 0) (o := some ca) dX9_cls_10 rfl rfl ?_
      refine x_getRv (v := some bk) dX9_cls_11 fX9_cls_40 (i := 906) rfl rfl (by first | exact hk.1 | (simp only [x_kd_sI, x_kd_sA, x_kd_sJ, x_kd_sR, x_fr_sI, x_fr_sA, x_fr_sJ, x_ln_sI, x_ln_sA, x_ln_sJ]; exact hk.1)) (hbk) ?_
      refine x_iload_n (i := 3) (x := nI i) dX9_cls_14 rfl rfl ?_
      by_cases qm : nI i ∈ O
      · skip
        refine x_callV (a := bk) (av := [x_i (nI i)]) (rest := []) (r := (some (x_i 1))) (h1 := h) dX9_cls_15 sX9_cls_90 hb.1.2 rfl rfl (Nat.le_of_ble_eq_true rfl) ⟨Nat.le_refl _, Nat.le_refl _⟩ (by have k := c_isHeld G hb hV hO (nI i); rw [if_pos qm] at k; exact k) ?_
        show x_E _ _ _ _ 18 _ [x_i 1] _
        refine x_if_eq (tgt := 31) dX9_cls_18 (by decide) (fun c => absurd c (by decide)) (fun _ => ?_)
        refine x_iload_n (i := 2) (x := nI s) dX9_cls_21 rfl rfl ?_
        refine x_iload_n (i := 1) (x := k) dX9_cls_22 rfl rfl ?_
        refine x_icmp_ne (tgt := 28) dX9_cls_23 (by decide) (fun c23 => ?_) (fun c23 => ?_)
        · skip
          refine x_iinc (i := 2) (x := nI s) (v := nI (s + 1)) (lv' := [(0, x_r (some ca)), (1, x_i k), (2, x_i (nI (s + 1))), (3, x_i (nI i))]) dX9_cls_28 rfl (nI_1 s) (by decide) rfl ?_
          refine x_iinc (i := 3) (x := nI i) (v := nI (i + 1)) (lv' := [(0, x_r (some ca)), (1, x_i k), (2, x_i (nI (s + 1))), (3, x_i (nI (i + 1)))]) dX9_cls_31 rfl (nI_1 i) (by decide) rfl ?_
          refine x_goto (tgt := 4) dX9_cls_34 (by decide) ?_
          show x_E _ _ _ _ 4 _ _ _
          rw [z_hl_s (by omega), if_pos qm, show z_kt (nI i :: z_hl O (i + 1)) s k = z_kt (z_hl O (i + 1)) (s + 1) k from if_neg c23] at hQ
          exact ih (i + 1) (s + 1) (by omega) (by omega) hQ
        · skip
          refine x_iload_n (i := 3) (x := nI i) dX9_cls_26 rfl rfl ?_
          refine x_ireturn dX9_cls_27 rfl (rfl) ⟨Nat.le_refl _, Nat.le_refl _⟩ ?_
          rw [z_hl_s (by omega), if_pos qm, show z_kt (nI i :: z_hl O (i + 1)) s k = nI i from if_pos c23] at hQ
          exact hQ
      · skip
        refine x_callV (a := bk) (av := [x_i (nI i)]) (rest := []) (r := (some (x_i 0))) (h1 := h) dX9_cls_15 sX9_cls_90 hb.1.2 rfl rfl (Nat.le_of_ble_eq_true rfl) ⟨Nat.le_refl _, Nat.le_refl _⟩ (by have k := c_isHeld G hb hV hO (nI i); rw [if_neg qm] at k; exact k) ?_
        show x_E _ _ _ _ 18 _ [x_i 0] _
        refine x_if_eq (tgt := 31) dX9_cls_18 (by decide) (fun _ => ?_) (fun c => absurd (by decide) c)
        refine x_iinc (i := 3) (x := nI i) (v := nI (i + 1)) (lv' := [(0, x_r (some ca)), (1, x_i k), (2, x_i (nI s)), (3, x_i (nI (i + 1)))]) dX9_cls_31 rfl (nI_1 i) (by decide) rfl ?_
        refine x_goto (tgt := 4) dX9_cls_34 (by decide) ?_
        show x_E _ _ _ _ 4 _ _ _
        rw [z_hl_s (by omega), if_neg qm] at hQ
        exact ih (i + 1) s (by omega) (by omega) hQ
set_option maxHeartbeats 4000000 in
set_option maxRecDepth 100000 in
theorem c_clsX (G : x_G) {C : Nat → Int32} {h : x_H} {bk : Nat} {rs : List Nat} {R : List (Nat × Nat)} {es : List Nat} {E : List Int32} (hb : y_bk C h bk rs R es E) {V : Nat → Int32} (hV : y_V h rs V) {O : List Int32} (hO : z_oh C R V O) {ca : Nat} (hk : k_P h ca) (hbk : x_fr h 906 ca = some bk) (k : Int32) : x_Call G mX9_cls h [x_r (some ca), x_i k] (some (x_i (z_kt (z_hl O 0) 0 k))) h := by
  refine x_Ex.call (x_enter mwX9_cls (Nat.le_of_ble_eq_true rfl) ?_)
  show x_E _ _ _ _ _ [(0, x_r (some ca)), (1, x_i k)] _ _
  refine x_iconst (v := 0) dX9_cls_0 (by decide) ?_
  refine x_istore_n (i := 2) (lv' := [(0, x_r (some ca)), (1, x_i k), (2, x_i 0)]) dX9_cls_1 rfl (by decide) rfl ?_
  refine x_iconst (v := 0) dX9_cls_2 (by decide) ?_
  refine x_istore_n (i := 3) (lv' := [(0, x_r (some ca)), (1, x_i k), (2, x_i 0), (3, x_i 0)]) dX9_cls_3 rfl (by decide) rfl ?_
  show x_E _ _ _ _ 4 _ _ _
  exact l_clsX G hb hV hO hk hbk k _ _ 0 0 (by omega) rfl ⟨rfl, rfl⟩
set_option maxHeartbeats 4000000 in
set_option maxRecDepth 100000 in
theorem c_movingX (G : x_G) {C : Nat → Int32} {h : x_H} {bk : Nat} {rs : List Nat} {R : List (Nat × Nat)} {es : List Nat} {E : List Int32} (hb : y_bk C h bk rs R es E) {V : Nat → Int32} (hV : y_V h rs V) {O : List Int32} (hO : z_oh C R V O) {ca : Nat} (hk : k_P h ca) (hbk : x_fr h 906 ca = some bk) : x_Call G mX9_moving h [x_r (some ca)] (some (x_i (z_kt (z_hl O 0) 0 0))) h := by
  refine x_Ex.call (x_enter mwX9_moving (Nat.le_of_ble_eq_true rfl) ?_)
  show x_E _ _ _ _ _ [(0, x_r (some ca))] _ _
  refine x_aload_n (i := 0) (o := some ca) dX9_moving_0 rfl rfl ?_
  refine x_iconst (v := 0) dX9_moving_1 (by decide) ?_
  refine x_callV (a := ca) (av := [x_i 0]) (rest := []) (r := (some (x_i (z_kt (z_hl O 0) 0 0)))) (h1 := h) dX9_moving_2 sX9_moving_110 (by first | exact hk.1 | (simp only [x_kd_sI, x_kd_sA, x_kd_sJ, x_kd_sR, x_fr_sI, x_fr_sA, x_fr_sJ, x_ln_sI, x_ln_sA, x_ln_sJ]; exact hk.1)) rfl rfl (Nat.le_of_ble_eq_true rfl) ⟨Nat.le_refl _, Nat.le_refl _⟩ (c_clsX G hb hV hO hk hbk 0) ?_
  show x_E _ _ _ _ 5 _ [x_i (z_kt (z_hl O 0) 0 0)] _
  refine x_ireturn dX9_moving_5 rfl (rfl) ⟨Nat.le_refl _, Nat.le_refl _⟩ ?_
  exact ⟨rfl, rfl⟩
set_option maxHeartbeats 4000000 in
set_option maxRecDepth 100000 in
theorem l_markX (G : x_G) {C : Nat → Int32} {h : x_H} {bk : Nat} {rs : List Nat} {R : List (Nat × Nat)} {es : List Nat} {E : List Int32} (hb : y_bk C h bk rs R es E) {V : Nat → Int32} (hV : y_V h rs V)  {ca : Nat} (hk : k_P h ca) (hbk : x_fr h 906 ca = some bk) (h60 : R.length ≤ 60) (k : Int32) (Q : Option x_V → x_H → Prop) : ∀ (n j s : Nat), rs.length - j = n → Q (some (x_i (z_kt ((z_fhs C R V j).map (z_cl' C R)) s k))) h → x_E G mX9_mark (x_D G mX9_mark h Q) h 10 [(0, x_r (some ca)), (1, x_i k), (2, x_i (nI s)), (3, x_r (rs[j]?))] [] h := by
  intro n
  induction n with
  | zero =>
    intro j s hj hQ
    have hn0 : rs[j]? = none := List.getElem?_eq_none (by omega)
    rw [hn0]
    have hjR : R.length ≤ j := by rw [← hb.2.2.2.2.2.2.2.1.1]; omega
    refine x_aload_n (i := 3) (o := none) dX9_mark_10 rfl rfl ?_
    refine x_ifnull (o := none) (tgt := 46) dX9_mark_11 (by decide) (fun _ => ?_) (fun _ c => absurd c (by simp))
    refine x_iconst (v := (-1)) dX9_mark_46 (by decide) ?_
    refine x_ireturn dX9_mark_47 rfl (rfl) ⟨Nat.le_refl _, Nat.le_refl _⟩ ?_
    rw [z_fhs_e hjR] at hQ
    exact hQ
  | succ n ih =>
    intro j s hj hQ
    rcases hb.nx j with ⟨hn0, hd0⟩ | ⟨r, q, hrj, hqj, hru, hnx, hjl⟩
    · have := List.getElem?_eq_none_iff.mp hn0
      omega
    · rw [hrj]
      have hjR : j < R.length := by rw [← hb.2.2.2.2.2.2.2.1.1]; exact hjl
      refine x_aload_n (i := 3) (o := some r) dX9_mark_10 rfl rfl ?_
      refine x_ifnull (o := some r) (tgt := 46) dX9_mark_11 (by decide) (fun c => absurd c (by simp)) (fun _ _ => ?_)
      refine x_aload_n (i := 0) (o := some ca) dX9_mark_14 rfl rfl ?_
      refine x_getRv (v := some bk) dX9_mark_15 fX9_mark_40 (i := 906) rfl rfl (by first | exact hk.1 | (simp only [x_kd_sI, x_kd_sA, x_kd_sJ, x_kd_sR, x_fr_sI, x_fr_sA, x_fr_sJ, x_ln_sI, x_ln_sA, x_ln_sJ]; exact hk.1)) (hbk) ?_
      refine x_aload_n (i := 3) (o := some r) dX9_mark_18 rfl rfl ?_
      by_cases e1 : z_fh C R V j = true
      · skip
        refine x_callV (a := bk) (av := [x_r (some r)]) (rest := []) (r := (some (x_i 1))) (h1 := h) dX9_mark_19 sX9_mark_98 hb.1.2 rfl rfl (Nat.le_of_ble_eq_true rfl) ⟨Nat.le_refl _, Nat.le_refl _⟩ (by have k := c_isFirstHold G hb hV h60 hrj hqj; rw [if_pos e1] at k; exact k) ?_
        show x_E _ _ _ _ 22 _ [x_i 1] _
        refine x_if_eq (tgt := 38) dX9_mark_22 (by decide) (fun c => absurd c (by decide)) (fun _ => ?_)
        refine x_iload_n (i := 2) (x := nI s) dX9_mark_25 rfl rfl ?_
        refine x_iload_n (i := 1) (x := k) dX9_mark_26 rfl rfl ?_
        refine x_icmp_ne (tgt := 35) dX9_mark_27 (by decide) (fun c27 => ?_) (fun c27 => ?_)
        · skip
          refine x_iinc (i := 2) (x := nI s) (v := nI (s + 1)) (lv' := [(0, x_r (some ca)), (1, x_i k), (2, x_i (nI (s + 1))), (3, x_r (some r))]) dX9_mark_35 rfl (nI_1 s) (by decide) rfl ?_
          refine x_aload_n (i := 3) (o := some r) dX9_mark_38 rfl rfl ?_
          refine x_getRv (v := rs[j + 1]?) dX9_mark_39 fX9_mark_107 (i := 606) rfl rfl hru.1 (hnx) ?_
          refine x_astore_n (i := 3) (lv' := [(0, x_r (some ca)), (1, x_i k), (2, x_i (nI (s + 1))), (3, x_r (rs[j + 1]?))]) dX9_mark_42 rfl (by decide) rfl ?_
          refine x_goto (tgt := 10) dX9_mark_43 (by decide) ?_
          show x_E _ _ _ _ 10 _ _ _
          rw [z_fhs_s hjR, if_pos e1, List.map_cons, show z_kt ((z_cl' C R j) :: (z_fhs C R V (j + 1)).map (z_cl' C R)) s k = z_kt ((z_fhs C R V (j + 1)).map (z_cl' C R)) (s + 1) k from if_neg c27] at hQ
          exact ih (j + 1) (s + 1) (by omega) hQ
        · skip
          refine x_aload_n (i := 3) (o := some r) dX9_mark_30 rfl rfl ?_
          refine x_getIv (v := C (q.1 + 1)) dX9_mark_31 fX9_mark_102 (i := 600) rfl rfl hru.1 (hru.2.1) ?_
          refine x_ireturn dX9_mark_34 rfl (rfl) ⟨Nat.le_refl _, Nat.le_refl _⟩ ?_
          rw [z_fhs_s hjR, if_pos e1, List.map_cons, show z_kt ((z_cl' C R j) :: (z_fhs C R V (j + 1)).map (z_cl' C R)) s k = z_cl' C R j from if_pos c27] at hQ
          rw [show z_cl' C R j = C (q.1 + 1) from by unfold z_cl'; rw [hqj]] at hQ
          exact hQ
      · skip
        refine x_callV (a := bk) (av := [x_r (some r)]) (rest := []) (r := (some (x_i 0))) (h1 := h) dX9_mark_19 sX9_mark_98 hb.1.2 rfl rfl (Nat.le_of_ble_eq_true rfl) ⟨Nat.le_refl _, Nat.le_refl _⟩ (by have k := c_isFirstHold G hb hV h60 hrj hqj; rw [if_neg e1] at k; exact k) ?_
        show x_E _ _ _ _ 22 _ [x_i 0] _
        refine x_if_eq (tgt := 38) dX9_mark_22 (by decide) (fun _ => ?_) (fun c => absurd (by decide) c)
        refine x_aload_n (i := 3) (o := some r) dX9_mark_38 rfl rfl ?_
        refine x_getRv (v := rs[j + 1]?) dX9_mark_39 fX9_mark_107 (i := 606) rfl rfl hru.1 (hnx) ?_
        refine x_astore_n (i := 3) (lv' := [(0, x_r (some ca)), (1, x_i k), (2, x_i (nI s)), (3, x_r (rs[j + 1]?))]) dX9_mark_42 rfl (by decide) rfl ?_
        refine x_goto (tgt := 10) dX9_mark_43 (by decide) ?_
        show x_E _ _ _ _ 10 _ _ _
        rw [z_fhs_s hjR, if_neg e1] at hQ
        exact ih (j + 1) s (by omega) hQ
set_option maxHeartbeats 4000000 in
set_option maxRecDepth 100000 in
theorem c_markX (G : x_G) {C : Nat → Int32} {h : x_H} {bk : Nat} {rs : List Nat} {R : List (Nat × Nat)} {es : List Nat} {E : List Int32} (hb : y_bk C h bk rs R es E) {V : Nat → Int32} (hV : y_V h rs V)  {ca : Nat} (hk : k_P h ca) (hbk : x_fr h 906 ca = some bk) (h60 : R.length ≤ 60) (k : Int32) : x_Call G mX9_mark h [x_r (some ca), x_i k] (some (x_i (z_kt ((z_fhs C R V 0).map (z_cl' C R)) 0 k))) h := by
  refine x_Ex.call (x_enter mwX9_mark (Nat.le_of_ble_eq_true rfl) ?_)
  show x_E _ _ _ _ _ [(0, x_r (some ca)), (1, x_i k)] _ _
  refine x_iconst (v := 0) dX9_mark_0 (by decide) ?_
  refine x_istore_n (i := 2) (lv' := [(0, x_r (some ca)), (1, x_i k), (2, x_i 0)]) dX9_mark_1 rfl (by decide) rfl ?_
  refine x_aload_n (i := 0) (o := some ca) dX9_mark_2 rfl rfl ?_
  refine x_getRv (v := some bk) dX9_mark_3 fX9_mark_40 (i := 906) rfl rfl (by first | exact hk.1 | (simp only [x_kd_sI, x_kd_sA, x_kd_sJ, x_kd_sR, x_fr_sI, x_fr_sA, x_fr_sJ, x_ln_sI, x_ln_sA, x_ln_sJ]; exact hk.1)) (hbk) ?_
  refine x_getRv (v := rs[0]?) dX9_mark_6 fX9_mark_94 (i := 100) rfl rfl hb.1.2 (hb.f0) ?_
  refine x_astore_n (i := 3) (lv' := [(0, x_r (some ca)), (1, x_i k), (2, x_i 0), (3, x_r (rs[0]?))]) dX9_mark_9 rfl (by decide) rfl ?_
  show x_E _ _ _ _ 10 _ _ _
  exact l_markX G hb hV hk hbk h60 k _ _ 0 0 rfl ⟨rfl, rfl⟩
set_option maxHeartbeats 4000000 in
set_option maxRecDepth 100000 in
theorem l_missX (G : x_G) {C : Nat → Int32} {h : x_H} {bk : Nat} {rs : List Nat} {R : List (Nat × Nat)} {es : List Nat} {E : List Int32} (hb : y_bk C h bk rs R es E) {V : Nat → Int32} (hV : y_V h rs V) {O : List Int32} (hO : z_oh C R V O) {ca : Nat} (hk : k_P h ca) (hbk : x_fr h 906 ca = some bk) (h60 : R.length ≤ 60) (k : Int32) (Q : Option x_V → x_H → Prop) : ∀ (n j s : Nat), rs.length - j = n → Q (some (x_i (z_kt ((z_fls C R V O j).map (V)) s k))) h → x_E G mX9_missing (x_D G mX9_missing h Q) h 10 [(0, x_r (some ca)), (1, x_i k), (2, x_i (nI s)), (3, x_r (rs[j]?))] [] h := by
  intro n
  induction n with
  | zero =>
    intro j s hj hQ
    have hn0 : rs[j]? = none := List.getElem?_eq_none (by omega)
    rw [hn0]
    have hjR : R.length ≤ j := by rw [← hb.2.2.2.2.2.2.2.1.1]; omega
    refine x_aload_n (i := 3) (o := none) dX9_missing_10 rfl rfl ?_
    refine x_ifnull (o := none) (tgt := 46) dX9_missing_11 (by decide) (fun _ => ?_) (fun _ c => absurd c (by simp))
    refine x_iconst (v := (-1)) dX9_missing_46 (by decide) ?_
    refine x_ireturn dX9_missing_47 rfl (rfl) ⟨Nat.le_refl _, Nat.le_refl _⟩ ?_
    rw [z_fls_e hjR] at hQ
    exact hQ
  | succ n ih =>
    intro j s hj hQ
    rcases hb.nx j with ⟨hn0, hd0⟩ | ⟨r, q, hrj, hqj, hru, hnx, hjl⟩
    · have := List.getElem?_eq_none_iff.mp hn0
      omega
    · rw [hrj]
      have hjR : j < R.length := by rw [← hb.2.2.2.2.2.2.2.1.1]; exact hjl
      refine x_aload_n (i := 3) (o := some r) dX9_missing_10 rfl rfl ?_
      refine x_ifnull (o := some r) (tgt := 46) dX9_missing_11 (by decide) (fun c => absurd c (by simp)) (fun _ _ => ?_)
      refine x_aload_n (i := 0) (o := some ca) dX9_missing_14 rfl rfl ?_
      refine x_getRv (v := some bk) dX9_missing_15 fX9_missing_40 (i := 906) rfl rfl (by first | exact hk.1 | (simp only [x_kd_sI, x_kd_sA, x_kd_sJ, x_kd_sR, x_fr_sI, x_fr_sA, x_fr_sJ, x_ln_sI, x_ln_sA, x_ln_sJ]; exact hk.1)) (hbk) ?_
      refine x_aload_n (i := 3) (o := some r) dX9_missing_18 rfl rfl ?_
      by_cases e1 : z_fl C R V O j = true
      · skip
        refine x_callV (a := bk) (av := [x_r (some r)]) (rest := []) (r := (some (x_i 1))) (h1 := h) dX9_missing_19 sX9_missing_123 hb.1.2 rfl rfl (Nat.le_of_ble_eq_true rfl) ⟨Nat.le_refl _, Nat.le_refl _⟩ (by have k := c_isFirstLack G hb hV hO h60 hrj hqj; rw [if_pos e1] at k; exact k) ?_
        show x_E _ _ _ _ 22 _ [x_i 1] _
        refine x_if_eq (tgt := 38) dX9_missing_22 (by decide) (fun c => absurd c (by decide)) (fun _ => ?_)
        refine x_iload_n (i := 2) (x := nI s) dX9_missing_25 rfl rfl ?_
        refine x_iload_n (i := 1) (x := k) dX9_missing_26 rfl rfl ?_
        refine x_icmp_ne (tgt := 35) dX9_missing_27 (by decide) (fun c27 => ?_) (fun c27 => ?_)
        · skip
          refine x_iinc (i := 2) (x := nI s) (v := nI (s + 1)) (lv' := [(0, x_r (some ca)), (1, x_i k), (2, x_i (nI (s + 1))), (3, x_r (some r))]) dX9_missing_35 rfl (nI_1 s) (by decide) rfl ?_
          refine x_aload_n (i := 3) (o := some r) dX9_missing_38 rfl rfl ?_
          refine x_getRv (v := rs[j + 1]?) dX9_missing_39 fX9_missing_107 (i := 606) rfl rfl hru.1 (hnx) ?_
          refine x_astore_n (i := 3) (lv' := [(0, x_r (some ca)), (1, x_i k), (2, x_i (nI (s + 1))), (3, x_r (rs[j + 1]?))]) dX9_missing_42 rfl (by decide) rfl ?_
          refine x_goto (tgt := 10) dX9_missing_43 (by decide) ?_
          show x_E _ _ _ _ 10 _ _ _
          rw [z_fls_s hjR, if_pos e1, List.map_cons, show z_kt ((V j) :: (z_fls C R V O (j + 1)).map (V)) s k = z_kt ((z_fls C R V O (j + 1)).map (V)) (s + 1) k from if_neg c27] at hQ
          exact ih (j + 1) (s + 1) (by omega) hQ
        · skip
          refine x_aload_n (i := 3) (o := some r) dX9_missing_30 rfl rfl ?_
          refine x_getIv (v := V j) dX9_missing_31 fX9_missing_120 (i := 605) rfl rfl hru.1 (hV j r hrj) ?_
          refine x_ireturn dX9_missing_34 rfl (rfl) ⟨Nat.le_refl _, Nat.le_refl _⟩ ?_
          rw [z_fls_s hjR, if_pos e1, List.map_cons, show z_kt ((V j) :: (z_fls C R V O (j + 1)).map (V)) s k = V j from if_pos c27] at hQ
          exact hQ
      · skip
        refine x_callV (a := bk) (av := [x_r (some r)]) (rest := []) (r := (some (x_i 0))) (h1 := h) dX9_missing_19 sX9_missing_123 hb.1.2 rfl rfl (Nat.le_of_ble_eq_true rfl) ⟨Nat.le_refl _, Nat.le_refl _⟩ (by have k := c_isFirstLack G hb hV hO h60 hrj hqj; rw [if_neg e1] at k; exact k) ?_
        show x_E _ _ _ _ 22 _ [x_i 0] _
        refine x_if_eq (tgt := 38) dX9_missing_22 (by decide) (fun _ => ?_) (fun c => absurd (by decide) c)
        refine x_aload_n (i := 3) (o := some r) dX9_missing_38 rfl rfl ?_
        refine x_getRv (v := rs[j + 1]?) dX9_missing_39 fX9_missing_107 (i := 606) rfl rfl hru.1 (hnx) ?_
        refine x_astore_n (i := 3) (lv' := [(0, x_r (some ca)), (1, x_i k), (2, x_i (nI s)), (3, x_r (rs[j + 1]?))]) dX9_missing_42 rfl (by decide) rfl ?_
        refine x_goto (tgt := 10) dX9_missing_43 (by decide) ?_
        show x_E _ _ _ _ 10 _ _ _
        rw [z_fls_s hjR, if_neg e1] at hQ
        exact ih (j + 1) s (by omega) hQ
set_option maxHeartbeats 4000000 in
set_option maxRecDepth 100000 in
theorem c_missX (G : x_G) {C : Nat → Int32} {h : x_H} {bk : Nat} {rs : List Nat} {R : List (Nat × Nat)} {es : List Nat} {E : List Int32} (hb : y_bk C h bk rs R es E) {V : Nat → Int32} (hV : y_V h rs V) {O : List Int32} (hO : z_oh C R V O) {ca : Nat} (hk : k_P h ca) (hbk : x_fr h 906 ca = some bk) (h60 : R.length ≤ 60) (k : Int32) : x_Call G mX9_missing h [x_r (some ca), x_i k] (some (x_i (z_kt ((z_fls C R V O 0).map (V)) 0 k))) h := by
  refine x_Ex.call (x_enter mwX9_missing (Nat.le_of_ble_eq_true rfl) ?_)
  show x_E _ _ _ _ _ [(0, x_r (some ca)), (1, x_i k)] _ _
  refine x_iconst (v := 0) dX9_missing_0 (by decide) ?_
  refine x_istore_n (i := 2) (lv' := [(0, x_r (some ca)), (1, x_i k), (2, x_i 0)]) dX9_missing_1 rfl (by decide) rfl ?_
  refine x_aload_n (i := 0) (o := some ca) dX9_missing_2 rfl rfl ?_
  refine x_getRv (v := some bk) dX9_missing_3 fX9_missing_40 (i := 906) rfl rfl (by first | exact hk.1 | (simp only [x_kd_sI, x_kd_sA, x_kd_sJ, x_kd_sR, x_fr_sI, x_fr_sA, x_fr_sJ, x_ln_sI, x_ln_sA, x_ln_sJ]; exact hk.1)) (hbk) ?_
  refine x_getRv (v := rs[0]?) dX9_missing_6 fX9_missing_94 (i := 100) rfl rfl hb.1.2 (hb.f0) ?_
  refine x_astore_n (i := 3) (lv' := [(0, x_r (some ca)), (1, x_i k), (2, x_i 0), (3, x_r (rs[0]?))]) dX9_missing_9 rfl (by decide) rfl ?_
  show x_E _ _ _ _ 10 _ _ _
  exact l_missX G hb hV hO hk hbk h60 k _ _ 0 0 rfl ⟨rfl, rfl⟩
set_option maxHeartbeats 4000000 in
set_option maxRecDepth 100000 in
theorem c_openX (G : x_G) {C : Nat → Int32} {h : x_H} {bk : Nat} {rs : List Nat} {R : List (Nat × Nat)} {es : List Nat} {E : List Int32} (hb : y_bk C h bk rs R es E) {V : Nat → Int32} (hV : y_V h rs V) {O : List Int32} (hO : z_oh C R V O) {ca : Nat} (hk : k_P h ca) (hbk : x_fr h 906 ca = some bk) (k what : Int32) : x_Call G mX9_open h [x_r (some ca), x_i k, x_i what] (some (x_i (z_kt ((z_ops C R V O 0).map (z_ow C R V what)) 0 k))) h := by
  refine x_Ex.call (x_enter mwX9_open (Nat.le_of_ble_eq_true rfl) ?_)
  show x_E _ _ _ _ _ [(0, x_r (some ca)), (1, x_i k), (2, x_i what)] _ _
  refine x_aload_n (i := 0) (o := some ca) dX9_open_0 rfl rfl ?_
  refine x_getRv (v := some bk) dX9_open_1 fX9_open_40 (i := 906) rfl rfl (by first | exact hk.1 | (simp only [x_kd_sI, x_kd_sA, x_kd_sJ, x_kd_sR, x_fr_sI, x_fr_sA, x_fr_sJ, x_ln_sI, x_ln_sA, x_ln_sJ]; exact hk.1)) (hbk) ?_
  refine x_iload_n (i := 1) (x := k) dX9_open_4 rfl rfl ?_
  rcases hs : z_ta (z_ops C R V O 0) 0 k with _ | i
  · skip
    refine x_callV (a := bk) (av := [x_i k]) (rest := []) (r := (some (x_r none))) (h1 := h) dX9_open_5 sX9_open_113 hb.1.2 rfl rfl (Nat.le_of_ble_eq_true rfl) ⟨Nat.le_refl _, Nat.le_refl _⟩ (by have k := c_openRuleX G hb hV hO k; rw [hs] at k; exact k) ?_
    show x_E _ _ _ _ 8 _ [x_r none] _
    refine x_astore_n (i := 3) (lv' := [(0, x_r (some ca)), (1, x_i k), (2, x_i what), (3, x_r none)]) dX9_open_8 rfl (by decide) rfl ?_
    refine x_aload_n (i := 3) (o := none) dX9_open_9 rfl rfl ?_
    refine x_ifnonnull (o := none) (tgt := 15) dX9_open_10 (by decide) (fun _ c => absurd c (by simp)) (fun _ => ?_)
    refine x_iconst (v := (-1)) dX9_open_13 (by decide) ?_
    refine x_ireturn dX9_open_14 rfl (rfl) ⟨Nat.le_refl _, Nat.le_refl _⟩ ?_
    exact ⟨by rw [z_ta_n hs], rfl⟩
  · skip
    have hil : i < R.length := (z_ops_m (z_ta_mem hs)).1
    have hrl := hb.2.2.2.2.2.2.2.1.1
    obtain ⟨r, hri⟩ : ∃ r, rs[i]? = some r := ⟨_, List.getElem?_eq_getElem (by omega)⟩
    obtain ⟨q, hqi⟩ : ∃ q, R[i]? = some q := ⟨_, List.getElem?_eq_getElem hil⟩
    have hru := hb.2.2.2.2.2.2.2.1.2.2.2 i r q hri hqi
    refine x_callV (a := bk) (av := [x_i k]) (rest := []) (r := (some (x_r (some r)))) (h1 := h) dX9_open_5 sX9_open_113 hb.1.2 rfl rfl (Nat.le_of_ble_eq_true rfl) ⟨Nat.le_refl _, Nat.le_refl _⟩ (by have k := c_openRuleX G hb hV hO k; rw [hs, show (some i).bind (fun i => rs[i]?) = some r from hri] at k; exact k) ?_
    show x_E _ _ _ _ 8 _ [x_r (some r)] _
    refine x_astore_n (i := 3) (lv' := [(0, x_r (some ca)), (1, x_i k), (2, x_i what), (3, x_r (some r))]) dX9_open_8 rfl (by decide) rfl ?_
    refine x_aload_n (i := 3) (o := some r) dX9_open_9 rfl rfl ?_
    refine x_ifnonnull (o := some r) (tgt := 15) dX9_open_10 (by decide) (fun _ _ => ?_) (fun c => absurd c (by simp))
    refine x_iload_n (i := 2) (x := what) dX9_open_15 rfl rfl ?_
    by_cases w0 : what = 0
    · subst w0
      refine x_tableIn (x := 0) (off := 28) (tgt := 44) dX9_open_16 (by decide) (by decide) rfl (by decide) ?_
      refine x_aload_n (i := 3) (o := some r) dX9_open_44 rfl rfl ?_
      refine x_getIv (v := nI i) dX9_open_45 fX9_open_117 (i := 602) rfl rfl hru.1 (hru.2.2.2.1) ?_
      refine x_ireturn dX9_open_48 rfl (rfl) ⟨Nat.le_refl _, Nat.le_refl _⟩ ?_
      refine ⟨?_, rfl⟩
      rw [z_ta_s hs]
      unfold z_ow
      rw [if_pos rfl]
    by_cases w1 : what = 1
    · subst w1
      refine x_tableIn (x := 1) (off := 33) (tgt := 49) dX9_open_16 (by decide) (by decide) rfl (by decide) ?_
      refine x_aload_n (i := 3) (o := some r) dX9_open_49 rfl rfl ?_
      refine x_getIv (v := C (q.1 + 1)) dX9_open_50 fX9_open_102 (i := 600) rfl rfl hru.1 (hru.2.1) ?_
      refine x_ireturn dX9_open_53 rfl (rfl) ⟨Nat.le_refl _, Nat.le_refl _⟩ ?_
      refine ⟨?_, rfl⟩
      rw [z_ta_s hs]
      unfold z_ow
      rw [if_neg (by decide), if_pos rfl, hqi]
    by_cases w2 : what = 2
    · subst w2
      refine x_tableIn (x := 2) (off := 38) (tgt := 54) dX9_open_16 (by decide) (by decide) rfl (by decide) ?_
      refine x_aload_n (i := 3) (o := some r) dX9_open_54 rfl rfl ?_
      refine x_getIv (v := V i) dX9_open_55 fX9_open_120 (i := 605) rfl rfl hru.1 (hV i r hri) ?_
      refine x_ireturn dX9_open_58 rfl (rfl) ⟨Nat.le_refl _, Nat.le_refl _⟩ ?_
      refine ⟨?_, rfl⟩
      rw [z_ta_s hs]
      unfold z_ow
      rw [if_neg (by decide), if_neg (by decide), if_pos rfl]
    refine x_tableOut (x := what) (tgt := 59) dX9_open_16 (z_sw2 w0 w1 w2) (by decide) ?_
    refine x_iconst (v := (-1)) dX9_open_59 (by decide) ?_
    refine x_ireturn dX9_open_60 rfl (rfl) ⟨Nat.le_refl _, Nat.le_refl _⟩ ?_
    refine ⟨?_, rfl⟩
    rw [z_ta_s hs]
    unfold z_ow
    rw [if_neg w0, if_neg w1, if_neg w2]
set_option maxHeartbeats 4000000 in
set_option maxRecDepth 100000 in
theorem c_explX (G : x_G) {C : Nat → Int32} {h : x_H} {bk : Nat} {rs : List Nat} {R : List (Nat × Nat)} {es : List Nat} {E : List Int32} (hb : y_bk C h bk rs R es E) {V : Nat → Int32} (hV : y_V h rs V)  {ca : Nat} (hk : k_P h ca) (hbk : x_fr h 906 ca = some bk) (c k what : Int32) : x_Call G mX9_explain h [x_r (some ca), x_i c, x_i k, x_i what] (some (x_i (z_kt ((z_sos C R V c 0).map (z_xw C R what)) 0 k))) h := by
  refine x_Ex.call (x_enter mwX9_explain (Nat.le_of_ble_eq_true rfl) ?_)
  show x_E _ _ _ _ _ [(0, x_r (some ca)), (1, x_i c), (2, x_i k), (3, x_i what)] _ _
  refine x_aload_n (i := 0) (o := some ca) dX9_explain_0 rfl rfl ?_
  refine x_getRv (v := some bk) dX9_explain_1 fX9_explain_40 (i := 906) rfl rfl (by first | exact hk.1 | (simp only [x_kd_sI, x_kd_sA, x_kd_sJ, x_kd_sR, x_fr_sI, x_fr_sA, x_fr_sJ, x_ln_sI, x_ln_sA, x_ln_sJ]; exact hk.1)) (hbk) ?_
  refine x_iload_n (i := 1) (x := c) dX9_explain_4 rfl rfl ?_
  refine x_iload_n (i := 2) (x := k) dX9_explain_5 rfl rfl ?_
  rcases hs : z_ta (z_sos C R V c 0) 0 k with _ | i
  · skip
    refine x_callV (a := bk) (av := [x_i c, x_i k]) (rest := []) (r := (some (x_r none))) (h1 := h) dX9_explain_6 sX9_explain_126 hb.1.2 rfl rfl (Nat.le_of_ble_eq_true rfl) ⟨Nat.le_refl _, Nat.le_refl _⟩ (by have k := c_heldBy G hb hV c k; rw [hs] at k; exact k) ?_
    show x_E _ _ _ _ 9 _ [x_r none] _
    refine x_astore (i := 4) (lv' := [(0, x_r (some ca)), (1, x_i c), (2, x_i k), (3, x_i what), (4, x_r none)]) dX9_explain_9 (by decide) rfl ?_
    refine x_aload (i := 4) (o := none) dX9_explain_11 rfl ?_
    refine x_ifnonnull (o := none) (tgt := 18) dX9_explain_13 (by decide) (fun _ c => absurd c (by simp)) (fun _ => ?_)
    refine x_iconst (v := (-1)) dX9_explain_16 (by decide) ?_
    refine x_ireturn dX9_explain_17 rfl (rfl) ⟨Nat.le_refl _, Nat.le_refl _⟩ ?_
    exact ⟨by rw [z_ta_n hs], rfl⟩
  · skip
    have hil : i < R.length := z_so_lt (z_sos_mem.mp (z_ta_mem hs)).2
    have hrl := hb.2.2.2.2.2.2.2.1.1
    obtain ⟨r, hri⟩ : ∃ r, rs[i]? = some r := ⟨_, List.getElem?_eq_getElem (by omega)⟩
    obtain ⟨q, hqi⟩ : ∃ q, R[i]? = some q := ⟨_, List.getElem?_eq_getElem hil⟩
    have hru := hb.2.2.2.2.2.2.2.1.2.2.2 i r q hri hqi
    refine x_callV (a := bk) (av := [x_i c, x_i k]) (rest := []) (r := (some (x_r (some r)))) (h1 := h) dX9_explain_6 sX9_explain_126 hb.1.2 rfl rfl (Nat.le_of_ble_eq_true rfl) ⟨Nat.le_refl _, Nat.le_refl _⟩ (by have k := c_heldBy G hb hV c k; rw [hs, show (some i).bind (fun i => rs[i]?) = some r from hri] at k; exact k) ?_
    show x_E _ _ _ _ 9 _ [x_r (some r)] _
    refine x_astore (i := 4) (lv' := [(0, x_r (some ca)), (1, x_i c), (2, x_i k), (3, x_i what), (4, x_r (some r))]) dX9_explain_9 (by decide) rfl ?_
    refine x_aload (i := 4) (o := some r) dX9_explain_11 rfl ?_
    refine x_ifnonnull (o := some r) (tgt := 18) dX9_explain_13 (by decide) (fun _ _ => ?_) (fun c => absurd c (by simp))
    refine x_iload_n (i := 3) (x := what) dX9_explain_18 rfl rfl ?_
    by_cases w0 : what = 0
    · subst w0
      refine x_tableIn (x := 0) (off := 25) (tgt := 44) dX9_explain_19 (by decide) (by decide) rfl (by decide) ?_
      refine x_aload (i := 4) (o := some r) dX9_explain_44 rfl ?_
      refine x_getIv (v := nI i) dX9_explain_46 fX9_explain_117 (i := 602) rfl rfl hru.1 (hru.2.2.2.1) ?_
      refine x_ireturn dX9_explain_49 rfl (rfl) ⟨Nat.le_refl _, Nat.le_refl _⟩ ?_
      refine ⟨?_, rfl⟩
      rw [z_ta_s hs]
      unfold z_xw
      rw [if_pos rfl]
    by_cases w1 : what = 1
    · subst w1
      refine x_tableIn (x := 1) (off := 31) (tgt := 50) dX9_explain_19 (by decide) (by decide) rfl (by decide) ?_
      refine x_aload (i := 4) (o := some r) dX9_explain_50 rfl ?_
      refine x_getIv (v := nI (z_its C q).length) dX9_explain_52 fX9_explain_130 (i := 604) rfl rfl hru.1 (hru.2.2.2.2.2.1) ?_
      refine x_ireturn dX9_explain_55 rfl (rfl) ⟨Nat.le_refl _, Nat.le_refl _⟩ ?_
      refine ⟨?_, rfl⟩
      rw [z_ta_s hs]
      unfold z_xw
      rw [if_neg (by decide), if_pos rfl, hqi]
    by_cases w2 : what = 2
    · subst w2
      refine x_tableIn (x := 2) (off := 37) (tgt := 56) dX9_explain_19 (by decide) (by decide) rfl (by decide) ?_
      refine x_aload (i := 4) (o := some r) dX9_explain_56 rfl ?_
      refine x_getIv (v := nI q.1) dX9_explain_58 fX9_explain_133 (i := 601) rfl rfl hru.1 (hru.2.2.1) ?_
      refine x_ireturn dX9_explain_61 rfl (rfl) ⟨Nat.le_refl _, Nat.le_refl _⟩ ?_
      refine ⟨?_, rfl⟩
      rw [z_ta_s hs]
      unfold z_xw
      rw [if_neg (by decide), if_neg (by decide), if_pos rfl, hqi]
    refine x_tableOut (x := what) (tgt := 62) dX9_explain_19 (z_sw2 w0 w1 w2) (by decide) ?_
    refine x_iconst (v := (-1)) dX9_explain_62 (by decide) ?_
    refine x_ireturn dX9_explain_63 rfl (rfl) ⟨Nat.le_refl _, Nat.le_refl _⟩ ?_
    refine ⟨?_, rfl⟩
    rw [z_ta_s hs]
    unfold z_xw
    rw [if_neg w0, if_neg w1, if_neg w2]
