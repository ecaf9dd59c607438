/-! THE CLASS: Book: judging -/
/-- a rule that fits -/
def v_ru (C : Nat → Int32) (q : Nat × Nat) : Prop := q_n C 0 19 (q.1 + 1) ∧ q.2 < 1500 ∧ ∀ p ∈ z_its C q, v_it C p
def z_lead : List Int32 → Int64 → Nat
  | [], _ => 0
  | d :: r, day => if d.toInt64 ≤ day then z_lead r day + 1 else 0
theorem z_m1 (j : Nat) : nI j - 1 + 1 = nI (j + 1) - 1 := by
  rw [nI_pred, Int32.sub_add_cancel]
set_option maxHeartbeats 4000000 in
set_option maxRecDepth 100000 in
theorem l_actingOn (G : x_G) {C : Nat → Int32} {h : x_H} {bk : Nat} {rs : List Nat} {R : List (Nat × Nat)} {es : List Nat} {E : List Int32} (hb : y_bk C h bk rs R es E) (day : Int64) (Q : Option x_V → x_H → Prop) : ∀ (n j : Nat), es.length - j = n → Q (some (x_i (nI (j + z_lead (E.drop j) day) - 1))) h → x_E G mX0_actingOn (x_D G mX0_actingOn h Q) h 8 [(0, x_r (some bk)), (1, x_l day), (3, x_i (nI j - 1)), (4, x_r (es[j]?))] [] h := by
  obtain ⟨k1, k2, k3, k4⟩ := hb.2.2.2.2.2.2.2.2
  intro n
  induction n with
  | zero =>
    intro j hj hQ
    have hn0 : es[j]? = none := List.getElem?_eq_none (by omega)
    rw [hn0]
    rw [List.drop_of_length_le (by omega)] at hQ
    refine x_aload (i := 4) (o := none) dX0_actingOn_8 rfl ?_
    refine x_ifnull (o := none) (tgt := 37) dX0_actingOn_10 (by decide) (fun _ => ?_) (fun _ c => absurd c (by simp))
    refine x_iload_n (i := 3) (x := nI j - 1) dX0_actingOn_37 rfl rfl ?_
    refine x_ireturn dX0_actingOn_38 rfl (rfl) ⟨Nat.le_refl _, Nat.le_refl _⟩ ?_
    exact hQ
  | succ n ih =>
    intro j hj hQ
    obtain ⟨e, hej⟩ : ∃ e, es[j]? = some e := ⟨_, List.getElem?_eq_getElem (by omega)⟩
    obtain ⟨d, hdj⟩ : ∃ d, E[j]? = some d := ⟨_, List.getElem?_eq_getElem (by omega)⟩
    have hd := k4 j e d hej hdj
    have hnx := k3 j e hej
    have hdr : E.drop j = d :: E.drop (j + 1) := by
      obtain ⟨h1, h2⟩ := List.getElem?_eq_some_iff.mp hdj
      rw [List.drop_eq_getElem_cons h1, h2]
    rw [hej]
    refine x_aload (i := 4) (o := some e) dX0_actingOn_8 rfl ?_
    refine x_ifnull (o := some e) (tgt := 37) dX0_actingOn_10 (by decide) (fun c => absurd c (by simp)) (fun _ _ => ?_)
    refine x_aload (i := 4) (o := some e) dX0_actingOn_13 rfl ?_
    refine x_getIv (v := d) dX0_actingOn_15 fX0_actingOn_35 (i := 200) rfl rfl hd.1 (hd.2) ?_
    refine x_i2l dX0_actingOn_18 ?_
    refine x_lload_n (i := 1) (x := day) dX0_actingOn_19 rfl rfl ?_
    refine x_lcmp dX0_actingOn_20 ?_
    refine x_if_gt (tgt := 37) dX0_actingOn_21 (by decide) (fun c21 => ?_) (fun c21 => ?_)
    · skip
      have e1 : ¬ d.toInt64 ≤ day := Int64.not_le.mpr ((lg_cmp_gt _ _).mp c21)
      refine x_iload_n (i := 3) (x := nI j - 1) dX0_actingOn_37 rfl rfl ?_
      refine x_ireturn dX0_actingOn_38 rfl (rfl) ⟨Nat.le_refl _, Nat.le_refl _⟩ ?_
      rw [hdr, show z_lead (d :: E.drop (j + 1)) day = if d.toInt64 ≤ day then z_lead (E.drop (j + 1)) day + 1 else 0 from rfl, if_neg e1] at hQ
      exact hQ
    · skip
      have e1 : d.toInt64 ≤ day := Int64.not_lt.mp fun z => c21 ((lg_cmp_gt _ _).mpr z)
      refine x_iinc (i := 3) (x := nI j - 1) (v := nI (j + 1) - 1) (lv' := [(0, x_r (some bk)), (1, x_l day), (3, x_i (nI (j + 1) - 1)), (4, x_r (some e))]) dX0_actingOn_24 rfl (z_m1 j) (by decide) rfl ?_
      refine x_aload (i := 4) (o := some e) dX0_actingOn_27 rfl ?_
      refine x_getRv (v := es[j + 1]?) dX0_actingOn_29 fX0_actingOn_43 (i := 201) rfl rfl hd.1 (hnx) ?_
      refine x_astore (i := 4) (lv' := [(0, x_r (some bk)), (1, x_l day), (3, x_i (nI (j + 1) - 1)), (4, x_r (es[j + 1]?))]) dX0_actingOn_32 (by decide) rfl ?_
      refine x_goto (tgt := 8) dX0_actingOn_34 (by decide) ?_
      show x_E _ _ _ _ 8 _ _ _
      rw [hdr, show z_lead (d :: E.drop (j + 1)) day = if d.toInt64 ≤ day then z_lead (E.drop (j + 1)) day + 1 else 0 from rfl, if_pos e1, show j + (z_lead (E.drop (j + 1)) day + 1) = j + 1 + z_lead (E.drop (j + 1)) day by omega] at hQ
      exact ih (j + 1) (by omega) hQ
set_option maxHeartbeats 4000000 in
set_option maxRecDepth 100000 in
theorem c_actingOn (G : x_G) {C : Nat → Int32} {h : x_H} {bk : Nat} {rs : List Nat} {R : List (Nat × Nat)} {es : List Nat} {E : List Int32} (hb : y_bk C h bk rs R es E) (day : Int64) : x_Call G mX0_actingOn h [x_r (some bk), x_l day] (some (x_i (nI (z_lead E day) - 1))) h := by
  refine x_Ex.call (x_enter mwX0_actingOn (Nat.le_of_ble_eq_true rfl) ?_)
  show x_E _ _ _ _ _ [(0, x_r (some bk)), (1, x_l day)] _ _
  refine x_iconst (v := (-1)) dX0_actingOn_0 (by decide) ?_
  refine x_istore_n (i := 3) (lv' := [(0, x_r (some bk)), (1, x_l day), (3, x_i ((-1)))]) dX0_actingOn_1 rfl (by decide) rfl ?_
  refine x_aload_n (i := 0) (o := some bk) dX0_actingOn_2 rfl rfl ?_
  refine x_getRv (v := es[0]?) dX0_actingOn_3 fX0_actingOn_22 (i := 103) rfl rfl hb.1.2 ((by rw [hb.2.2.2.2.1, List.head?_eq_getElem?])) ?_
  refine x_astore (i := 4) (lv' := [(0, x_r (some bk)), (1, x_l day), (3, x_i ((-1))), (4, x_r (es[0]?))]) dX0_actingOn_6 (by decide) rfl ?_
  show x_E _ _ _ _ 8 _ _ _
  exact l_actingOn G hb day _ _ 0 rfl ⟨by rw [Nat.zero_add, List.drop_zero], rfl⟩
set_option maxHeartbeats 4000000 in
set_option maxRecDepth 100000 in
theorem l_isPassedX (G : x_G) {C : Nat → Int32} {h : x_H} {bk : Nat} {rs : List Nat} {R : List (Nat × Nat)} {es : List Nat} {E : List Int32} (hb : y_bk C h bk rs R es E) (hR : ∀ q ∈ R, v_ru C q) {fa : Nat} (hf : f_P h fa) {X : z_X} (hX : f_X h fa X) {i ri : Nat} {qi : Nat × Nat} (hri : rs[i]? = some ri) (hqi : R[i]? = some qi) (Q : Option x_V → x_H → Prop) : ∀ (n j : Nat), rs.length - j = n → Q (some (x_i (if (R.drop j).any (z_pp X C qi) = true then 1 else 0))) h → x_E G mX0_isPassedOver (x_D G mX0_isPassedOver h Q) h 14 [(0, x_r (some bk)), (1, x_r (some ri)), (2, x_r (some fa)), (3, x_r (rs[j]?))] [] h := by
  have hrui := hb.2.2.2.2.2.2.2.1.2.2.2 i ri qi hri hqi
  intro n
  induction n with
  | zero =>
    intro j hj hQ
    have hn0 : rs[j]? = none := List.getElem?_eq_none (by omega)
    rw [hn0]
    have hjR : R.length ≤ j := by rw [← hb.2.2.2.2.2.2.2.1.1]; omega
    refine x_aload_n (i := 3) (o := none) dX0_isPassedOver_14 rfl rfl ?_
    refine x_ifnull (o := none) (tgt := 65) dX0_isPassedOver_15 (by decide) (fun _ => ?_) (fun _ c => absurd c (by simp))
    refine x_iconst (v := 0) dX0_isPassedOver_65 (by decide) ?_
    refine x_ireturn dX0_isPassedOver_66 rfl (rfl) ⟨Nat.le_refl _, Nat.le_refl _⟩ ?_
    rw [List.drop_of_length_le hjR] at hQ
    exact hQ
  | succ n ih =>
    intro j hj hQ
    rcases hb.nx j with ⟨hn0, hd0⟩ | ⟨r, q, hrj, hqj, hru, hnx, hjl⟩
    · have := List.getElem?_eq_none_iff.mp hn0
      omega
    · rw [hrj]
      have hjR : j < R.length := by rw [← hb.2.2.2.2.2.2.2.1.1]; exact hjl
      refine x_aload_n (i := 3) (o := some r) dX0_isPassedOver_14 rfl rfl ?_
      refine x_ifnull (o := some r) (tgt := 65) dX0_isPassedOver_15 (by decide) (fun c => absurd c (by simp)) (fun _ _ => ?_)
      refine x_aload_n (i := 3) (o := some r) dX0_isPassedOver_18 rfl rfl ?_
      refine x_getIv (v := nI q.2) dX0_isPassedOver_19 fX0_isPassedOver_51 (i := 603) rfl rfl hru.1 (hru.2.2.2.2.1) ?_
      refine x_aload_n (i := 1) (o := some ri) dX0_isPassedOver_22 rfl rfl ?_
      refine x_getIv (v := nI qi.2) dX0_isPassedOver_23 fX0_isPassedOver_51 (i := 603) rfl rfl hrui.1 (hrui.2.2.2.2.1) ?_
      refine x_icmp_ne (tgt := 57) dX0_isPassedOver_26 (by decide) (fun c26 => ?_) (fun c26 => ?_)
      · skip
        have q26 : ¬ q.2 = qi.2 := fun z => c26 (by rw [z])
        have e1 : z_pp X C qi q = false := by unfold z_pp; simp [q26]
        refine x_aload_n (i := 3) (o := some r) dX0_isPassedOver_57 rfl rfl ?_
        refine x_getRv (v := rs[j + 1]?) dX0_isPassedOver_58 fX0_isPassedOver_54 (i := 606) rfl rfl hru.1 (hnx) ?_
        refine x_astore_n (i := 3) (lv' := [(0, x_r (some bk)), (1, x_r (some ri)), (2, x_r (some fa)), (3, x_r (rs[j + 1]?))]) dX0_isPassedOver_61 rfl (by decide) rfl ?_
        refine x_goto (tgt := 14) dX0_isPassedOver_62 (by decide) ?_
        show x_E _ _ _ _ 14 _ _ _
        rw [y_dropR hqj, List.any_cons, e1, Bool.false_or] at hQ
        exact ih (j + 1) (by omega) hQ
      · skip
        have q26 : q.2 = qi.2 := (nI_eq (by have := (hR q (List.mem_of_getElem? hqj)).2.1; omega) (by have := (hR qi (List.mem_of_getElem? hqi)).2.1; omega)).mp c26
        obtain ⟨ts, his, h7⟩ := hru.2.2.2.2.2.2
        rw [List.head?_eq_getElem?] at h7
        refine x_aload_n (i := 3) (o := some r) dX0_isPassedOver_29 rfl rfl ?_
        refine x_getIv (v := C (q.1 + 1)) dX0_isPassedOver_30 fX0_isPassedOver_83 (i := 600) rfl rfl hru.1 (hru.2.1) ?_
        refine x_aload_n (i := 1) (o := some ri) dX0_isPassedOver_33 rfl rfl ?_
        refine x_getIv (v := C (qi.1 + 1)) dX0_isPassedOver_34 fX0_isPassedOver_83 (i := 600) rfl rfl hrui.1 (hrui.2.1) ?_
        refine x_icmp_ne (tgt := 57) dX0_isPassedOver_37 (by decide) (fun c37 => ?_) (fun c37 => ?_)
        · skip
          have e1 : z_pp X C qi q = false := by unfold z_pp; simp [c37]
          refine x_aload_n (i := 3) (o := some r) dX0_isPassedOver_57 rfl rfl ?_
          refine x_getRv (v := rs[j + 1]?) dX0_isPassedOver_58 fX0_isPassedOver_54 (i := 606) rfl rfl hru.1 (hnx) ?_
          refine x_astore_n (i := 3) (lv' := [(0, x_r (some bk)), (1, x_r (some ri)), (2, x_r (some fa)), (3, x_r (rs[j + 1]?))]) dX0_isPassedOver_61 rfl (by decide) rfl ?_
          refine x_goto (tgt := 14) dX0_isPassedOver_62 (by decide) ?_
          show x_E _ _ _ _ 14 _ _ _
          rw [y_dropR hqj, List.any_cons, e1, Bool.false_or] at hQ
          exact ih (j + 1) (by omega) hQ
        · skip
          refine x_aload_n (i := 3) (o := some r) dX0_isPassedOver_40 rfl rfl ?_
          by_cases qt : z_any C (z_its C q) = true
          · skip
            refine x_callV (a := r) (av := []) (rest := []) (r := (some (x_i 1))) (h1 := h) dX0_isPassedOver_41 sX0_isPassedOver_79 hru.1 rfl rfl (Nat.le_of_ble_eq_true rfl) ⟨Nat.le_refl _, Nat.le_refl _⟩ (by have k := c_hasTestX G his (hR q (List.mem_of_getElem? hqj)).2.2 hru.1 h7; rw [if_pos qt] at k; exact k) ?_
            show x_E _ _ _ _ 44 _ [x_i 1] _
            refine x_if_eq (tgt := 57) dX0_isPassedOver_44 (by decide) (fun c => absurd c (by decide)) (fun _ => ?_)
            refine x_aload_n (i := 3) (o := some r) dX0_isPassedOver_47 rfl rfl ?_
            refine x_aload_n (i := 2) (o := some fa) dX0_isPassedOver_48 rfl rfl ?_
            by_cases qa : z_akn X C (z_its C q) = true
            · skip
              have e1 : z_pp X C qi q = true := by unfold z_pp; simp [q26, c37, qt, qa]
              refine x_callV (a := r) (av := [x_r (some fa)]) (rest := []) (r := (some (x_i 1))) (h1 := h) dX0_isPassedOver_49 sX0_isPassedOver_86 hru.1 rfl rfl (Nat.le_of_ble_eq_true rfl) ⟨Nat.le_refl _, Nat.le_refl _⟩ (by have k := c_hasAll G his (hR q (List.mem_of_getElem? hqj)).2.2 hf hX hru.1 h7; rw [if_pos qa] at k; exact k) ?_
              show x_E _ _ _ _ 52 _ [x_i 1] _
              refine x_if_eq (tgt := 57) dX0_isPassedOver_52 (by decide) (fun c => absurd c (by decide)) (fun _ => ?_)
              refine x_iconst (v := 1) dX0_isPassedOver_55 (by decide) ?_
              refine x_ireturn dX0_isPassedOver_56 rfl (rfl) ⟨Nat.le_refl _, Nat.le_refl _⟩ ?_
              rw [y_dropR hqj, List.any_cons, e1, Bool.true_or] at hQ
              exact hQ
            · skip
              have e1 : z_pp X C qi q = false := by unfold z_pp; simp [qa]
              refine x_callV (a := r) (av := [x_r (some fa)]) (rest := []) (r := (some (x_i 0))) (h1 := h) dX0_isPassedOver_49 sX0_isPassedOver_86 hru.1 rfl rfl (Nat.le_of_ble_eq_true rfl) ⟨Nat.le_refl _, Nat.le_refl _⟩ (by have k := c_hasAll G his (hR q (List.mem_of_getElem? hqj)).2.2 hf hX hru.1 h7; rw [if_neg qa] at k; exact k) ?_
              show x_E _ _ _ _ 52 _ [x_i 0] _
              refine x_if_eq (tgt := 57) dX0_isPassedOver_52 (by decide) (fun _ => ?_) (fun c => absurd (by decide) c)
              refine x_aload_n (i := 3) (o := some r) dX0_isPassedOver_57 rfl rfl ?_
              refine x_getRv (v := rs[j + 1]?) dX0_isPassedOver_58 fX0_isPassedOver_54 (i := 606) rfl rfl hru.1 (hnx) ?_
              refine x_astore_n (i := 3) (lv' := [(0, x_r (some bk)), (1, x_r (some ri)), (2, x_r (some fa)), (3, x_r (rs[j + 1]?))]) dX0_isPassedOver_61 rfl (by decide) rfl ?_
              refine x_goto (tgt := 14) dX0_isPassedOver_62 (by decide) ?_
              show x_E _ _ _ _ 14 _ _ _
              rw [y_dropR hqj, List.any_cons, e1, Bool.false_or] at hQ
              exact ih (j + 1) (by omega) hQ
          · skip
            have e1 : z_pp X C qi q = false := by unfold z_pp; simp [qt]
            refine x_callV (a := r) (av := []) (rest := []) (r := (some (x_i 0))) (h1 := h) dX0_isPassedOver_41 sX0_isPassedOver_79 hru.1 rfl rfl (Nat.le_of_ble_eq_true rfl) ⟨Nat.le_refl _, Nat.le_refl _⟩ (by have k := c_hasTestX G his (hR q (List.mem_of_getElem? hqj)).2.2 hru.1 h7; rw [if_neg qt] at k; exact k) ?_
            show x_E _ _ _ _ 44 _ [x_i 0] _
            refine x_if_eq (tgt := 57) dX0_isPassedOver_44 (by decide) (fun _ => ?_) (fun c => absurd (by decide) c)
            refine x_aload_n (i := 3) (o := some r) dX0_isPassedOver_57 rfl rfl ?_
            refine x_getRv (v := rs[j + 1]?) dX0_isPassedOver_58 fX0_isPassedOver_54 (i := 606) rfl rfl hru.1 (hnx) ?_
            refine x_astore_n (i := 3) (lv' := [(0, x_r (some bk)), (1, x_r (some ri)), (2, x_r (some fa)), (3, x_r (rs[j + 1]?))]) dX0_isPassedOver_61 rfl (by decide) rfl ?_
            refine x_goto (tgt := 14) dX0_isPassedOver_62 (by decide) ?_
            show x_E _ _ _ _ 14 _ _ _
            rw [y_dropR hqj, List.any_cons, e1, Bool.false_or] at hQ
            exact ih (j + 1) (by omega) hQ
set_option maxHeartbeats 4000000 in
set_option maxRecDepth 100000 in
theorem c_isPassedX (G : x_G) {C : Nat → Int32} {h : x_H} {bk : Nat} {rs : List Nat} {R : List (Nat × Nat)} {es : List Nat} {E : List Int32} (hb : y_bk C h bk rs R es E) (hR : ∀ q ∈ R, v_ru C q) {fa : Nat} (hf : f_P h fa) {X : z_X} (hX : f_X h fa X) {i ri : Nat} {qi : Nat × Nat} (hri : rs[i]? = some ri) (hqi : R[i]? = some qi) : x_Call G mX0_isPassedOver h [x_r (some bk), x_r (some ri), x_r (some fa)] (some (x_i (if z_ps X C R qi = true then 1 else 0))) h := by
  have hrui := hb.2.2.2.2.2.2.2.1.2.2.2 i ri qi hri hqi
  obtain ⟨ts, his, h7⟩ := hrui.2.2.2.2.2.2
  rw [List.head?_eq_getElem?] at h7
  refine x_Ex.call (x_enter mwX0_isPassedOver (Nat.le_of_ble_eq_true rfl) ?_)
  show x_E _ _ _ _ _ [(0, x_r (some bk)), (1, x_r (some ri)), (2, x_r (some fa))] _ _
  refine x_aload_n (i := 1) (o := some ri) dX0_isPassedOver_0 rfl rfl ?_
  by_cases qt : z_any C (z_its C qi) = true
  · skip
    refine x_callV (a := ri) (av := []) (rest := []) (r := (some (x_i 1))) (h1 := h) dX0_isPassedOver_1 sX0_isPassedOver_79 hrui.1 rfl rfl (Nat.le_of_ble_eq_true rfl) ⟨Nat.le_refl _, Nat.le_refl _⟩ (by have k := c_hasTestX G his (hR qi (List.mem_of_getElem? hqi)).2.2 hrui.1 h7; rw [if_pos qt] at k; exact k) ?_
    show x_E _ _ _ _ 4 _ [x_i 1] _
    refine x_if_eq (tgt := 9) dX0_isPassedOver_4 (by decide) (fun c => absurd c (by decide)) (fun _ => ?_)
    refine x_iconst (v := 0) dX0_isPassedOver_7 (by decide) ?_
    refine x_ireturn dX0_isPassedOver_8 rfl (rfl) ⟨Nat.le_refl _, Nat.le_refl _⟩ ?_
    refine ⟨?_, rfl⟩
    rw [if_neg (by unfold z_ps; rw [qt]; simp)]
  · skip
    refine x_callV (a := ri) (av := []) (rest := []) (r := (some (x_i 0))) (h1 := h) dX0_isPassedOver_1 sX0_isPassedOver_79 hrui.1 rfl rfl (Nat.le_of_ble_eq_true rfl) ⟨Nat.le_refl _, Nat.le_refl _⟩ (by have k := c_hasTestX G his (hR qi (List.mem_of_getElem? hqi)).2.2 hrui.1 h7; rw [if_neg qt] at k; exact k) ?_
    show x_E _ _ _ _ 4 _ [x_i 0] _
    refine x_if_eq (tgt := 9) dX0_isPassedOver_4 (by decide) (fun _ => ?_) (fun c => absurd (by decide) c)
    refine x_aload_n (i := 0) (o := some bk) dX0_isPassedOver_9 rfl rfl ?_
    refine x_getRv (v := rs[0]?) dX0_isPassedOver_10 fX0_isPassedOver_9 (i := 100) rfl rfl hb.1.2 (hb.f0) ?_
    refine x_astore_n (i := 3) (lv' := [(0, x_r (some bk)), (1, x_r (some ri)), (2, x_r (some fa)), (3, x_r (rs[0]?))]) dX0_isPassedOver_13 rfl (by decide) rfl ?_
    show x_E _ _ _ _ 14 _ _ _
    refine l_isPassedX G hb hR hf hX hri hqi _ _ 0 rfl ⟨?_, rfl⟩
    rw [List.drop_zero, show z_ps X C R qi = R.any (z_pp X C qi) from by unfold z_ps; simp [qt]]
def z_vx (X : z_X) (C : Nat → Int32) (R : List (Nat × Nat)) (V : Nat → Int32) (O : List Int32) (p : Nat) : Int32 := if C p = -7 then z_vt X C p else if C p = -10 then (if C (p + 1) ∈ O then -2 else if z_anyo C V (C (p + 1)) R 0 = true then 300 + C (p + 1) else -3) else z_vs X C p
set_option maxHeartbeats 4000000 in
set_option maxRecDepth 100000 in
theorem c_itemVerdict (G : x_G) {C : Nat → Int32} {h : x_H} {bk : Nat} {rs : List Nat} {R : List (Nat × Nat)} {es : List Nat} {E : List Int32} (hb : y_bk C h bk rs R es E) {V : Nat → Int32} (hV : y_V h rs V) {O : List Int32} (hO : z_oh C R V O) {fa : Nat} (hf : f_P h fa) {X : z_X} (hX : f_X h fa X) {t p : Nat} (ht : y_it C h t p) (hv : v_it C p) : x_Call G mX0_itemVerdict h [x_r (some bk), x_r (some t), x_r (some fa)] (some (x_i (z_vx X C R V O p))) h := by
  refine x_Ex.call (x_enter mwX0_itemVerdict (Nat.le_of_ble_eq_true rfl) ?_)
  show x_E _ _ _ _ _ [(0, x_r (some bk)), (1, x_r (some t)), (2, x_r (some fa))] _ _
  refine x_aload_n (i := 1) (o := some t) dX0_itemVerdict_0 rfl rfl ?_
  refine x_getIv (v := z_ik C p) dX0_itemVerdict_1 fX0_itemVerdict_101 (i := 400) rfl rfl ht.1 (ht.2.1) ?_
  rcases hv with hv | hv | hv
  · skip
    rw [show z_ik C p = 0 from if_pos hv.1]
    refine x_lookup (off := 28) (tgt := 32) dX0_itemVerdict_4 (by decide) (by decide) (by decide) ?_
    refine x_aload_n (i := 2) (o := some fa) dX0_itemVerdict_32 rfl rfl ?_
    refine x_aload_n (i := 1) (o := some t) dX0_itemVerdict_33 rfl rfl ?_
    refine x_callV (a := fa) (av := [x_r (some t)]) (rest := []) (r := (some (x_i (z_vt X C p)))) (h1 := h) dX0_itemVerdict_34 sX0_itemVerdict_104 hf.1 rfl rfl (Nat.le_of_ble_eq_true rfl) ⟨Nat.le_refl _, Nat.le_refl _⟩ (c_testVerdict G hf hX ht hv.1 hv.2.1 hv.2.2.1) ?_
    show x_E _ _ _ _ 37 _ [x_i (z_vt X C p)] _
    refine x_ireturn dX0_itemVerdict_37 rfl (rfl) ⟨Nat.le_refl _, Nat.le_refl _⟩ ?_
    exact ⟨by unfold z_vx; rw [if_pos hv.1], rfl⟩
  · skip
    rw [show z_ik C p = 1 from by unfold z_ik; rw [if_neg (by rw [hv.1]; decide), if_pos hv.1]]
    refine x_lookup (off := 34) (tgt := 38) dX0_itemVerdict_4 (by decide) (by decide) (by decide) ?_
    refine x_aload_n (i := 0) (o := some bk) dX0_itemVerdict_38 rfl rfl ?_
    refine x_aload_n (i := 1) (o := some t) dX0_itemVerdict_39 rfl rfl ?_
    refine x_getIv (v := C (p + 1)) dX0_itemVerdict_40 fX0_itemVerdict_110 (i := 401) rfl rfl ht.1 (ht.2.2.2.1 hv.1) ?_
    refine x_callV (a := bk) (av := [x_i (C (p + 1))]) (rest := []) (r := (some (x_i ((if C (p + 1) ∈ O then -2 else if z_anyo C V (C (p + 1)) R 0 = true then 300 + C (p + 1) else -3))))) (h1 := h) dX0_itemVerdict_43 sX0_itemVerdict_113 hb.1.2 rfl rfl (Nat.le_of_ble_eq_true rfl) ⟨Nat.le_refl _, Nat.le_refl _⟩ (c_holdsV G hb hV hO (C (p + 1))) ?_
    show x_E _ _ _ _ 46 _ [x_i ((if C (p + 1) ∈ O then -2 else if z_anyo C V (C (p + 1)) R 0 = true then 300 + C (p + 1) else -3))] _
    refine x_ireturn dX0_itemVerdict_46 rfl (rfl) ⟨Nat.le_refl _, Nat.le_refl _⟩ ?_
    exact ⟨congrArg (fun z => some (x_i z)) ((if_neg (by rw [hv.1]; decide)).trans (if_pos hv.1)).symm, rfl⟩
  · skip
    rw [show z_ik C p = 2 from by unfold z_ik; rw [if_neg (by rw [hv.1]; decide), if_neg (by rw [hv.1]; decide)]]
    refine x_lookup (off := 43) (tgt := 47) dX0_itemVerdict_4 (by decide) (by decide) (by decide) ?_
    refine x_aload_n (i := 2) (o := some fa) dX0_itemVerdict_47 rfl rfl ?_
    refine x_aload_n (i := 1) (o := some t) dX0_itemVerdict_48 rfl rfl ?_
    obtain ⟨b, hq⟩ := hv.2
    refine x_callV (a := fa) (av := [x_r (some t)]) (rest := []) (r := (some (x_i (z_vs X C p)))) (h1 := h) dX0_itemVerdict_49 sX0_itemVerdict_117 hf.1 rfl rfl (Nat.le_of_ble_eq_true rfl) ⟨Nat.le_refl _, Nat.le_refl _⟩ (c_sumVerdict G hf hX ht hv.1 hq) ?_
    show x_E _ _ _ _ 52 _ [x_i (z_vs X C p)] _
    refine x_ireturn dX0_itemVerdict_52 rfl (rfl) ⟨Nat.le_refl _, Nat.le_refl _⟩ ?_
    exact ⟨by unfold z_vx; rw [if_neg (by rw [hv.1]; decide), if_neg (by rw [hv.1]; decide)], rfl⟩
def z_rx (X : z_X) (C : Nat → Int32) (R : List (Nat × Nat)) (V : Nat → Int32) (O : List Int32) : List Nat → Int32 → Int32
  | [], u => u
  | p :: L, u => z_rx X C R V O L (z_acc u (z_vx X C R V O p))
theorem z_rx3 {X : z_X} {C : Nat → Int32} {R : List (Nat × Nat)} {V : Nat → Int32} {O : List Int32} : ∀ (L : List Nat), z_rx X C R V O L (-3) = -3
  | [] => rfl
  | p :: L => by
    show z_rx X C R V O L (z_acc (-3) _) = -3
    rw [show ∀ v, z_acc (-3) v = -3 from fun v => if_pos rfl]
    exact z_rx3 L
set_option maxHeartbeats 4000000 in
set_option maxRecDepth 100000 in
theorem l_verdictOf (G : x_G) {C : Nat → Int32} {h : x_H} {bk : Nat} {rs : List Nat} {R : List (Nat × Nat)} {es : List Nat} {E : List Int32} (hb : y_bk C h bk rs R es E) {V : Nat → Int32} (hV : y_V h rs V) {O : List Int32} (hO : z_oh C R V O) {fa : Nat} (hf : f_P h fa) {X : z_X} (hX : f_X h fa X) {ts L : List Nat} (hts : y_is C h ts L) (hL : ∀ p ∈ L, v_it C p) (rr : Option Nat) (Q : Option x_V → x_H → Prop) : ∀ (k j : Nat) (u : Int32), ts.length - j = k → ¬ u = -3 → Q (some (x_i (z_rx X C R V O (L.drop j) u))) h → x_E G mX0_verdictOf (x_D G mX0_verdictOf h Q) h 9 [(0, x_r (some bk)), (1, x_r rr), (2, x_r (some fa)), (3, x_i u), (4, x_r (ts[j]?))] [] h := by
  intro k
  induction k with
  | zero =>
    intro j u hj hu hQ
    have hn0 : ts[j]? = none := List.getElem?_eq_none (by omega)
    rw [hn0]
    rw [List.drop_of_length_le (by have := hts.1; omega)] at hQ
    refine x_aload (i := 4) (o := none) dX0_verdictOf_9 rfl ?_
    refine x_ifnull (o := none) (tgt := 52) dX0_verdictOf_11 (by decide) (fun _ => ?_) (fun _ c => absurd c (by simp))
    refine x_iload_n (i := 3) (x := u) dX0_verdictOf_52 rfl rfl ?_
    refine x_ireturn dX0_verdictOf_53 rfl (rfl) ⟨Nat.le_refl _, Nat.le_refl _⟩ ?_
    exact hQ
  | succ k ih =>
    intro j u hj hu hQ
    rcases hts.nx j with ⟨hn0, hd0⟩ | ⟨t, p, htj, ht, hnx, hdr, hpm, hjl⟩
    · have := List.getElem?_eq_none_iff.mp hn0
      omega
    · rw [htj]
      have hv := hL p hpm
      refine x_aload (i := 4) (o := some t) dX0_verdictOf_9 rfl ?_
      refine x_ifnull (o := some t) (tgt := 52) dX0_verdictOf_11 (by decide) (fun c => absurd c (by simp)) (fun _ _ => ?_)
      refine x_aload_n (i := 0) (o := some bk) dX0_verdictOf_14 rfl rfl ?_
      refine x_aload (i := 4) (o := some t) dX0_verdictOf_15 rfl ?_
      refine x_aload_n (i := 2) (o := some fa) dX0_verdictOf_17 rfl rfl ?_
      refine x_callV (a := bk) (av := [x_r (some t), x_r (some fa)]) (rest := []) (r := (some (x_i (z_vx X C R V O p)))) (h1 := h) dX0_verdictOf_18 sX0_verdictOf_93 hb.1.2 rfl rfl (Nat.le_of_ble_eq_true rfl) ⟨Nat.le_refl _, Nat.le_refl _⟩ (c_itemVerdict G hb hV hO hf hX ht hv) ?_
      show x_E _ _ _ _ 21 _ [x_i (z_vx X C R V O p)] _
      refine x_istore (i := 5) (lv' := [(0, x_r (some bk)), (1, x_r rr), (2, x_r (some fa)), (3, x_i u), (4, x_r (some t)), (5, x_i (z_vx X C R V O p))]) dX0_verdictOf_21 (by decide) rfl ?_
      refine x_iload (i := 5) (x := z_vx X C R V O p) dX0_verdictOf_23 rfl ?_
      refine x_bipush (v := (-3)) dX0_verdictOf_25 (by decide) ?_
      refine x_icmp_ne (tgt := 33) dX0_verdictOf_27 (by decide) (fun c27 => ?_) (fun c27 => ?_)
      · skip
        refine x_iload_n (i := 3) (x := u) dX0_verdictOf_33 rfl rfl ?_
        refine x_bipush (v := (-2)) dX0_verdictOf_34 (by decide) ?_
        refine x_icmp_ne (tgt := 42) dX0_verdictOf_36 (by decide) (fun c36 => ?_) (fun c36 => ?_)
        · skip
          have ea : z_acc u (z_vx X C R V O p) = u := by unfold z_acc; rw [if_neg hu, if_neg c27, if_neg c36]
          refine x_aload (i := 4) (o := some t) dX0_verdictOf_42 rfl ?_
          refine x_getRv (v := ts[j + 1]?) dX0_verdictOf_44 fX0_verdictOf_97 (i := 404) rfl rfl ht.1 (hnx) ?_
          refine x_astore (i := 4) (lv' := [(0, x_r (some bk)), (1, x_r rr), (2, x_r (some fa)), (3, x_i u), (4, x_r (ts[j + 1]?)), (5, x_i (z_vx X C R V O p))]) dX0_verdictOf_47 (by decide) rfl ?_
          refine x_goto (tgt := 9) dX0_verdictOf_49 (by decide) ?_
          show x_E _ _ _ _ 9 _ _ _
          rw [hdr, show z_rx X C R V O (p :: L.drop (j + 1)) u = z_rx X C R V O (L.drop (j + 1)) (z_acc u (z_vx X C R V O p)) from rfl, ea] at hQ
          refine x_drop [0, 1, 2, 3, 4] rfl ?_
          exact ih (j + 1) _ (by omega) hu hQ
        · skip
          have ea : z_acc u (z_vx X C R V O p) = z_vx X C R V O p := by unfold z_acc; rw [if_neg hu, if_neg c27, if_pos c36]
          refine x_iload (i := 5) (x := z_vx X C R V O p) dX0_verdictOf_39 rfl ?_
          refine x_istore_n (i := 3) (lv' := [(0, x_r (some bk)), (1, x_r rr), (2, x_r (some fa)), (3, x_i (z_vx X C R V O p)), (4, x_r (some t)), (5, x_i (z_vx X C R V O p))]) dX0_verdictOf_41 rfl (by decide) rfl ?_
          refine x_aload (i := 4) (o := some t) dX0_verdictOf_42 rfl ?_
          refine x_getRv (v := ts[j + 1]?) dX0_verdictOf_44 fX0_verdictOf_97 (i := 404) rfl rfl ht.1 (hnx) ?_
          refine x_astore (i := 4) (lv' := [(0, x_r (some bk)), (1, x_r rr), (2, x_r (some fa)), (3, x_i (z_vx X C R V O p)), (4, x_r (ts[j + 1]?)), (5, x_i (z_vx X C R V O p))]) dX0_verdictOf_47 (by decide) rfl ?_
          refine x_goto (tgt := 9) dX0_verdictOf_49 (by decide) ?_
          show x_E _ _ _ _ 9 _ _ _
          rw [hdr, show z_rx X C R V O (p :: L.drop (j + 1)) u = z_rx X C R V O (L.drop (j + 1)) (z_acc u (z_vx X C R V O p)) from rfl, ea] at hQ
          refine x_drop [0, 1, 2, 3, 4] rfl ?_
          exact ih (j + 1) _ (by omega) c27 hQ
      · skip
        have ea : z_acc u (z_vx X C R V O p) = -3 := by unfold z_acc; rw [if_neg hu, if_pos c27]
        refine x_bipush (v := (-3)) dX0_verdictOf_30 (by decide) ?_
        refine x_ireturn dX0_verdictOf_32 rfl (rfl) ⟨Nat.le_refl _, Nat.le_refl _⟩ ?_
        rw [hdr, show z_rx X C R V O (p :: L.drop (j + 1)) u = z_rx X C R V O (L.drop (j + 1)) (z_acc u (z_vx X C R V O p)) from rfl, ea, z_rx3] at hQ
        exact hQ
set_option maxHeartbeats 4000000 in
set_option maxRecDepth 100000 in
theorem c_verdictOf (G : x_G) {C : Nat → Int32} {h : x_H} {bk : Nat} {rs : List Nat} {R : List (Nat × Nat)} {es : List Nat} {E : List Int32} (hb : y_bk C h bk rs R es E) (hR : ∀ q ∈ R, v_ru C q) {V : Nat → Int32} (hV : y_V h rs V) {O : List Int32} (hO : z_oh C R V O) {fa : Nat} (hf : f_P h fa) {X : z_X} (hX : f_X h fa X) {i ri : Nat} {qi : Nat × Nat} (hri : rs[i]? = some ri) (hqi : R[i]? = some qi) : x_Call G mX0_verdictOf h [x_r (some bk), x_r (some ri), x_r (some fa)] (some (x_i (z_rx X C R V O (z_its C qi) (-2)))) h := by
  have hrui := hb.2.2.2.2.2.2.2.1.2.2.2 i ri qi hri hqi
  obtain ⟨ts, his, h7⟩ := hrui.2.2.2.2.2.2
  rw [List.head?_eq_getElem?] at h7
  refine x_Ex.call (x_enter mwX0_verdictOf (Nat.le_of_ble_eq_true rfl) ?_)
  show x_E _ _ _ _ _ [(0, x_r (some bk)), (1, x_r (some ri)), (2, x_r (some fa))] _ _
  refine x_bipush (v := (-2)) dX0_verdictOf_0 (by decide) ?_
  refine x_istore_n (i := 3) (lv' := [(0, x_r (some bk)), (1, x_r (some ri)), (2, x_r (some fa)), (3, x_i ((-2)))]) dX0_verdictOf_2 rfl (by decide) rfl ?_
  refine x_aload_n (i := 1) (o := some ri) dX0_verdictOf_3 rfl rfl ?_
  refine x_getRv (v := ts[0]?) dX0_verdictOf_4 fX0_verdictOf_90 (i := 607) rfl rfl hrui.1 (h7) ?_
  refine x_astore (i := 4) (lv' := [(0, x_r (some bk)), (1, x_r (some ri)), (2, x_r (some fa)), (3, x_i ((-2))), (4, x_r (ts[0]?))]) dX0_verdictOf_7 (by decide) rfl ?_
  show x_E _ _ _ _ 9 _ _ _
  exact l_verdictOf G hb hV hO hf hX his (hR qi (List.mem_of_getElem? hqi)).2.2 (some ri) _ _ 0 (-2) rfl (by decide) ⟨by rw [List.drop_zero], rfl⟩
