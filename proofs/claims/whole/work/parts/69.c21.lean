/-! THE CLASS: Rule: its items -/
/-- an item that fits -/
def v_it (C : Nat → Int32) (p : Nat) : Prop := (C p = -7 ∧ q_n C 0 7 (p + 1) ∧ (C (p + 2) = -8 ∨ (¬ C (p + 2) = -8 ∧ C (p + 2) = -9)) ∧ q_n C 0 9 (p + 3)) ∨ (C p = -10 ∧ q_n C 0 19 (p + 1)) ∨ (C p = -11 ∧ ∃ b, q_sum C 1501 (p + 1) = (true, b))
theorem v_it_of {C : Nat → Int32} {p b : Nat} (h : q_item C 1501 p = (true, b)) : v_it C p := by
  rcases q_item_c h with z | z | z
  · exact Or.inl z
  · exact Or.inr (Or.inl ⟨z.2.1, z.2.2⟩)
  · exact Or.inr (Or.inr ⟨z.2.2.1, b, z.2.2.2⟩)
theorem v_its {C : Nat → Int32} : ∀ {f a e : Nat}, q_items C 1501 f a = (true, e) → ∀ p ∈ q_its C 1501 f a, v_it C p
  | f, a, e, h, p, hp => by
    obtain ⟨g, b, rfl, hqi, hcc⟩ := q_its_c h
    rcases hcc with ⟨h5, hq2, hi⟩ | ⟨h5, h6, hi⟩
    · rw [hi] at hp
      rcases List.mem_cons.mp hp with rfl | hp
      · exact v_it_of hqi
      · exact v_its hq2 p hp
    · rw [hi] at hp
      cases List.mem_singleton.mp hp
      exact v_it_of hqi
theorem v_it.k0 {C : Nat → Int32} {p : Nat} (h : v_it C p) : (z_ik C p = 0 ↔ C p = -7) ∧ (z_ik C p = 2 ↔ C p = -11) ∧ (z_ik C p = 1 ↔ C p = -10) := by
  unfold z_ik
  rcases h with h | h | h
  · rw [if_pos h.1, h.1]; decide
  · rw [if_neg (by rw [h.1]; decide), if_pos h.1, h.1]; decide
  · rw [if_neg (by rw [h.1]; decide), if_neg (by rw [h.1]; decide), h.1]; decide
theorem y_is.nx {C : Nat → Int32} {h : x_H} {ts L : List Nat} (k : y_is C h ts L) (j : Nat) : (ts[j]? = none ∧ L.drop j = []) ∨ ∃ t a, ts[j]? = some t ∧ y_it C h t a ∧ x_fr h 404 t = ts[j + 1]? ∧ L.drop j = a :: L.drop (j + 1) ∧ a ∈ L ∧ j < ts.length := by
  obtain ⟨k1, k2, k3, k4⟩ := k
  rcases Nat.lt_or_ge j ts.length with hl | hl
  · obtain ⟨t, ht⟩ : ∃ t, ts[j]? = some t := ⟨_, List.getElem?_eq_getElem hl⟩
    obtain ⟨a, ha⟩ : ∃ a, L[j]? = some a := ⟨_, List.getElem?_eq_getElem (by omega)⟩
    refine Or.inr ⟨t, a, ht, k4 j t a ht ha, k3 j t ht, ?_, List.mem_of_getElem? ha, hl⟩
    rw [List.drop_eq_getElem_cons (by omega), (List.getElem?_eq_some_iff.mp ha).2]
  · exact Or.inl ⟨List.getElem?_eq_none hl, List.drop_of_length_le (by omega)⟩
set_option maxHeartbeats 4000000 in
set_option maxRecDepth 100000 in
theorem l_hasTestX (G : x_G) {C : Nat → Int32} {h : x_H} {ts L : List Nat} (hts : y_is C h ts L) (hL : ∀ p ∈ L, v_it C p) (rr : Option Nat) (Q : Option x_V → x_H → Prop) : ∀ (k j : Nat), ts.length - j = k → Q (some (x_i (if z_any C (L.drop j) = true then 1 else 0))) h → x_E G mX6_hasTest (x_D G mX6_hasTest h Q) h 5 [(0, x_r rr), (1, x_r (ts[j]?))] [] h := by
  intro k
  induction k with
  | zero =>
    intro j hj hQ
    have hn0 : ts[j]? = none := List.getElem?_eq_none (by omega)
    rw [hn0]
    rw [List.drop_of_length_le (by have := hts.1; omega)] at hQ
    refine x_aload_n (i := 1) (o := none) dX6_hasTest_5 rfl rfl ?_
    refine x_ifnull (o := none) (tgt := 26) dX6_hasTest_6 (by decide) (fun _ => ?_) (fun _ c => absurd c (by simp))
    refine x_iconst (v := 0) dX6_hasTest_26 (by decide) ?_
    refine x_ireturn dX6_hasTest_27 rfl (rfl) ⟨Nat.le_refl _, Nat.le_refl _⟩ ?_
    exact hQ
  | succ k ih =>
    intro j hj hQ
    rcases hts.nx j with ⟨hn0, hd0⟩ | ⟨t, p, htj, ht, hnx, hdr, hpm, hjl⟩
    · have := List.getElem?_eq_none_iff.mp hn0
      omega
    · rw [htj]
      have hv := hL p hpm
      refine x_aload_n (i := 1) (o := some t) dX6_hasTest_5 rfl rfl ?_
      refine x_ifnull (o := some t) (tgt := 26) dX6_hasTest_6 (by decide) (fun c => absurd c (by simp)) (fun _ _ => ?_)
      refine x_aload_n (i := 1) (o := some t) dX6_hasTest_9 rfl rfl ?_
      refine x_getIv (v := z_ik C p) dX6_hasTest_10 fX6_hasTest_45 (i := 400) rfl rfl ht.1 (ht.2.1) ?_
      refine x_if_ne (tgt := 18) dX6_hasTest_13 (by decide) (fun c13 => ?_) (fun c13 => ?_)
      · skip
        have q13 : ¬ C p = -7 := fun z => c13 (hv.k0.1.mpr z)
        refine x_aload_n (i := 1) (o := some t) dX6_hasTest_18 rfl rfl ?_
        refine x_getRv (v := ts[j + 1]?) dX6_hasTest_19 fX6_hasTest_41 (i := 404) rfl rfl ht.1 (hnx) ?_
        refine x_astore_n (i := 1) (lv' := [(0, x_r rr), (1, x_r (ts[j + 1]?))]) dX6_hasTest_22 rfl (by decide) rfl ?_
        refine x_goto (tgt := 5) dX6_hasTest_23 (by decide) ?_
        show x_E _ _ _ _ 5 _ _ _
        rw [hdr, show z_any C (p :: L.drop (j + 1)) = z_any C (L.drop (j + 1)) from by unfold z_any; simp [q13]] at hQ
        exact ih (j + 1) (by omega) hQ
      · skip
        have q13 : C p = -7 := hv.k0.1.mp (by simpa using c13)
        refine x_iconst (v := 1) dX6_hasTest_16 (by decide) ?_
        refine x_ireturn dX6_hasTest_17 rfl (rfl) ⟨Nat.le_refl _, Nat.le_refl _⟩ ?_
        rw [hdr, show z_any C (p :: L.drop (j + 1)) = true from by unfold z_any; simp [q13]] at hQ
        exact hQ
set_option maxHeartbeats 4000000 in
set_option maxRecDepth 100000 in
theorem c_hasTestX (G : x_G) {C : Nat → Int32} {h : x_H} {ts L : List Nat} (hts : y_is C h ts L) (hL : ∀ p ∈ L, v_it C p) {r : Nat} (hr : x_kd h r = 6) (h7 : x_fr h 607 r = ts[0]?) : x_Call G mX6_hasTest h [x_r (some r)] (some (x_i (if z_any C L = true then 1 else 0))) h := by
  refine x_Ex.call (x_enter mwX6_hasTest (Nat.le_of_ble_eq_true rfl) ?_)
  show x_E _ _ _ _ _ [(0, x_r (some r))] _ _
  refine x_aload_n (i := 0) (o := some r) dX6_hasTest_0 rfl rfl ?_
  refine x_getRv (v := ts[0]?) dX6_hasTest_1 fX6_hasTest_28 (i := 607) rfl rfl hr (h7) ?_
  refine x_astore_n (i := 1) (lv' := [(0, x_r (some r)), (1, x_r (ts[0]?))]) dX6_hasTest_4 rfl (by decide) rfl ?_
  show x_E _ _ _ _ 5 _ _ _
  exact l_hasTestX G hts hL (some r) _ _ 0 rfl ⟨by rw [List.drop_zero], rfl⟩
set_option maxHeartbeats 4000000 in
set_option maxRecDepth 100000 in
theorem l_hasAll (G : x_G) {C : Nat → Int32} {h : x_H} {ts L : List Nat} (hts : y_is C h ts L) (hL : ∀ p ∈ L, v_it C p) {fa : Nat} (hf : f_P h fa) {X : z_X} (hX : f_X h fa X) (rr : Option Nat) (Q : Option x_V → x_H → Prop) : ∀ (k j : Nat), ts.length - j = k → Q (some (x_i (if z_akn X C (L.drop j) = true then 1 else 0))) h → x_E G mX6_hasAllResults (x_D G mX6_hasAllResults h Q) h 5 [(0, x_r rr), (1, x_r (some fa)), (2, x_r (ts[j]?))] [] h := by
  intro k
  induction k with
  | zero =>
    intro j hj hQ
    have hn0 : ts[j]? = none := List.getElem?_eq_none (by omega)
    rw [hn0]
    rw [List.drop_of_length_le (by have := hts.1; omega)] at hQ
    refine x_aload_n (i := 2) (o := none) dX6_hasAllResults_5 rfl rfl ?_
    refine x_ifnull (o := none) (tgt := 38) dX6_hasAllResults_6 (by decide) (fun _ => ?_) (fun _ c => absurd c (by simp))
    refine x_iconst (v := 1) dX6_hasAllResults_38 (by decide) ?_
    refine x_ireturn dX6_hasAllResults_39 rfl (rfl) ⟨Nat.le_refl _, Nat.le_refl _⟩ ?_
    exact hQ
  | succ k ih =>
    intro j hj hQ
    rcases hts.nx j with ⟨hn0, hd0⟩ | ⟨t, p, htj, ht, hnx, hdr, hpm, hjl⟩
    · have := List.getElem?_eq_none_iff.mp hn0
      omega
    · rw [htj]
      have hv := hL p hpm
      refine x_aload_n (i := 2) (o := some t) dX6_hasAllResults_5 rfl rfl ?_
      refine x_ifnull (o := some t) (tgt := 38) dX6_hasAllResults_6 (by decide) (fun c => absurd c (by simp)) (fun _ _ => ?_)
      refine x_aload_n (i := 2) (o := some t) dX6_hasAllResults_9 rfl rfl ?_
      refine x_getIv (v := z_ik C p) dX6_hasAllResults_10 fX6_hasAllResults_45 (i := 400) rfl rfl ht.1 (ht.2.1) ?_
      refine x_if_ne (tgt := 30) dX6_hasAllResults_13 (by decide) (fun c13 => ?_) (fun c13 => ?_)
      · skip
        have q13 : ¬ C p = -7 := fun z => c13 (hv.k0.1.mpr z)
        refine x_aload_n (i := 2) (o := some t) dX6_hasAllResults_30 rfl rfl ?_
        refine x_getRv (v := ts[j + 1]?) dX6_hasAllResults_31 fX6_hasAllResults_41 (i := 404) rfl rfl ht.1 (hnx) ?_
        refine x_astore_n (i := 2) (lv' := [(0, x_r rr), (1, x_r (some fa)), (2, x_r (ts[j + 1]?))]) dX6_hasAllResults_34 rfl (by decide) rfl ?_
        refine x_goto (tgt := 5) dX6_hasAllResults_35 (by decide) ?_
        show x_E _ _ _ _ 5 _ _ _
        rw [hdr, show z_akn X C (p :: L.drop (j + 1)) = z_akn X C (L.drop (j + 1)) from by unfold z_akn; simp [q13]] at hQ
        exact ih (j + 1) (by omega) hQ
      · skip
        have q13 : C p = -7 := hv.k0.1.mp (by simpa using c13)
        have h17 : q_n C 0 7 (p + 1) := by
          rcases hv with z | z | z
          · exact z.2.1
          · rw [z.1] at q13; exact absurd q13 (by decide)
          · rw [z.1] at q13; exact absurd q13 (by decide)
        have hn7 := z_tn (n := 7) (by decide) h17
        refine x_aload_n (i := 1) (o := some fa) dX6_hasAllResults_16 rfl rfl ?_
        refine x_aload_n (i := 2) (o := some t) dX6_hasAllResults_17 rfl rfl ?_
        refine x_getIv (v := C (p + 1)) dX6_hasAllResults_18 fX6_hasAllResults_48 (i := 401) rfl rfl ht.1 ((ht.2.2.1 q13).1) ?_
        refine x_callV (a := fa) (av := [x_i (C (p + 1))]) (rest := []) (r := (some (x_i (X.2.2.2.1 (C (p + 1)).toNatClampNeg)))) (h1 := h) dX6_hasAllResults_21 sX6_hasAllResults_51 hf.1 rfl rfl (Nat.le_of_ble_eq_true rfl) ⟨Nat.le_refl _, Nat.le_refl _⟩ (by have k := c_resultOf G hf hX (t := (C (p + 1)).toNatClampNeg) (by omega); rw [← hn7.1] at k; exact k) ?_
        show x_E _ _ _ _ 24 _ [x_i (X.2.2.2.1 (C (p + 1)).toNatClampNeg)] _
        refine x_iconst (v := (-1)) dX6_hasAllResults_24 (by decide) ?_
        refine x_icmp_ne (tgt := 30) dX6_hasAllResults_25 (by decide) (fun c25 => ?_) (fun c25 => ?_)
        · skip
          refine x_aload_n (i := 2) (o := some t) dX6_hasAllResults_30 rfl rfl ?_
          refine x_getRv (v := ts[j + 1]?) dX6_hasAllResults_31 fX6_hasAllResults_41 (i := 404) rfl rfl ht.1 (hnx) ?_
          refine x_astore_n (i := 2) (lv' := [(0, x_r rr), (1, x_r (some fa)), (2, x_r (ts[j + 1]?))]) dX6_hasAllResults_34 rfl (by decide) rfl ?_
          refine x_goto (tgt := 5) dX6_hasAllResults_35 (by decide) ?_
          show x_E _ _ _ _ 5 _ _ _
          rw [hdr, show z_akn X C (p :: L.drop (j + 1)) = z_akn X C (L.drop (j + 1)) from by unfold z_akn; simp [q13, c25]] at hQ
          exact ih (j + 1) (by omega) hQ
        · skip
          refine x_iconst (v := 0) dX6_hasAllResults_28 (by decide) ?_
          refine x_ireturn dX6_hasAllResults_29 rfl (rfl) ⟨Nat.le_refl _, Nat.le_refl _⟩ ?_
          rw [hdr, show z_akn X C (p :: L.drop (j + 1)) = false from by unfold z_akn; simp [q13, c25]] at hQ
          exact hQ
set_option maxHeartbeats 4000000 in
set_option maxRecDepth 100000 in
theorem c_hasAll (G : x_G) {C : Nat → Int32} {h : x_H} {ts L : List Nat} (hts : y_is C h ts L) (hL : ∀ p ∈ L, v_it C p) {fa : Nat} (hf : f_P h fa) {X : z_X} (hX : f_X h fa X) {r : Nat} (hr : x_kd h r = 6) (h7 : x_fr h 607 r = ts[0]?) : x_Call G mX6_hasAllResults h [x_r (some r), x_r (some fa)] (some (x_i (if z_akn X C L = true then 1 else 0))) h := by
  refine x_Ex.call (x_enter mwX6_hasAllResults (Nat.le_of_ble_eq_true rfl) ?_)
  show x_E _ _ _ _ _ [(0, x_r (some r)), (1, x_r (some fa))] _ _
  refine x_aload_n (i := 0) (o := some r) dX6_hasAllResults_0 rfl rfl ?_
  refine x_getRv (v := ts[0]?) dX6_hasAllResults_1 fX6_hasAllResults_28 (i := 607) rfl rfl hr (h7) ?_
  refine x_astore_n (i := 2) (lv' := [(0, x_r (some r)), (1, x_r (some fa)), (2, x_r (ts[0]?))]) dX6_hasAllResults_4 rfl (by decide) rfl ?_
  show x_E _ _ _ _ 5 _ _ _
  exact l_hasAll G hts hL hf hX (some r) _ _ 0 rfl ⟨by rw [List.drop_zero], rfl⟩
def z_ta : List Nat → Nat → Int32 → Option Nat
  | [], _, _ => none
  | t :: r, s, k => if nI s = k then some t else z_ta r (s + 1) k
theorem y_drop {ts : List Nat} {j t : Nat} (h : ts[j]? = some t) : ts.drop j = t :: ts.drop (j + 1) := by
  obtain ⟨h1, h2⟩ := List.getElem?_eq_some_iff.mp h
  rw [List.drop_eq_getElem_cons h1, h2]
set_option maxHeartbeats 4000000 in
set_option maxRecDepth 100000 in
theorem l_itemAt (G : x_G) {C : Nat → Int32} {h : x_H} {ts L : List Nat} (hts : y_is C h ts L) (hL : ∀ p ∈ L, v_it C p) (rr : Option Nat) (kk : Int32) (Q : Option x_V → x_H → Prop) : ∀ (k j s : Nat), ts.length - j = k → Q (some (x_r (z_ta (ts.drop j) s kk))) h → x_E G mX6_itemAt (x_D G mX6_itemAt h Q) h 7 [(0, x_r rr), (1, x_i kk), (2, x_i (nI s)), (3, x_r (ts[j]?))] [] h := by
  intro k
  induction k with
  | zero =>
    intro j s hj hQ
    have hn0 : ts[j]? = none := List.getElem?_eq_none (by omega)
    rw [hn0]
    rw [List.drop_of_length_le (by omega)] at hQ
    refine x_aload_n (i := 3) (o := none) dX6_itemAt_7 rfl rfl ?_
    refine x_ifnull (o := none) (tgt := 29) dX6_itemAt_8 (by decide) (fun _ => ?_) (fun _ c => absurd c (by simp))
    refine x_null dX6_itemAt_29 ?_
    refine x_areturn dX6_itemAt_30 rfl ⟨Nat.le_refl _, Nat.le_refl _⟩ ?_
    exact hQ
  | succ k ih =>
    intro j s hj hQ
    rcases hts.nx j with ⟨hn0, hd0⟩ | ⟨t, p, htj, ht, hnx, hdr, hpm, hjl⟩
    · have := List.getElem?_eq_none_iff.mp hn0
      omega
    · rw [htj]
      have hv := hL p hpm
      refine x_aload_n (i := 3) (o := some t) dX6_itemAt_7 rfl rfl ?_
      refine x_ifnull (o := some t) (tgt := 29) dX6_itemAt_8 (by decide) (fun c => absurd c (by simp)) (fun _ _ => ?_)
      refine x_iload_n (i := 2) (x := nI s) dX6_itemAt_11 rfl rfl ?_
      refine x_iload_n (i := 1) (x := kk) dX6_itemAt_12 rfl rfl ?_
      refine x_icmp_ne (tgt := 18) dX6_itemAt_13 (by decide) (fun c13 => ?_) (fun c13 => ?_)
      · skip
        refine x_iinc (i := 2) (x := nI s) (v := nI (s + 1)) (lv' := [(0, x_r rr), (1, x_i kk), (2, x_i (nI (s + 1))), (3, x_r (some t))]) dX6_itemAt_18 rfl (nI_1 s) (by decide) rfl ?_
        refine x_aload_n (i := 3) (o := some t) dX6_itemAt_21 rfl rfl ?_
        refine x_getRv (v := ts[j + 1]?) dX6_itemAt_22 fX6_itemAt_41 (i := 404) rfl rfl ht.1 (hnx) ?_
        refine x_astore_n (i := 3) (lv' := [(0, x_r rr), (1, x_i kk), (2, x_i (nI (s + 1))), (3, x_r (ts[j + 1]?))]) dX6_itemAt_25 rfl (by decide) rfl ?_
        refine x_goto (tgt := 7) dX6_itemAt_26 (by decide) ?_
        show x_E _ _ _ _ 7 _ _ _
        rw [y_drop htj, show z_ta (t :: ts.drop (j + 1)) s kk = z_ta (ts.drop (j + 1)) (s + 1) kk from if_neg c13] at hQ
        exact ih (j + 1) (s + 1) (by omega) hQ
      · skip
        refine x_aload_n (i := 3) (o := some t) dX6_itemAt_16 rfl rfl ?_
        refine x_areturn dX6_itemAt_17 rfl ⟨Nat.le_refl _, Nat.le_refl _⟩ ?_
        rw [y_drop htj, show z_ta (t :: ts.drop (j + 1)) s kk = some t from if_pos c13] at hQ
        exact hQ
set_option maxHeartbeats 4000000 in
set_option maxRecDepth 100000 in
theorem c_itemAt (G : x_G) {C : Nat → Int32} {h : x_H} {ts L : List Nat} (hts : y_is C h ts L) (hL : ∀ p ∈ L, v_it C p) {r : Nat} (hr : x_kd h r = 6) (h7 : x_fr h 607 r = ts[0]?) (kk : Int32) : x_Call G mX6_itemAt h [x_r (some r), x_i kk] (some (x_r (z_ta ts 0 kk))) h := by
  refine x_Ex.call (x_enter mwX6_itemAt (Nat.le_of_ble_eq_true rfl) ?_)
  show x_E _ _ _ _ _ [(0, x_r (some r)), (1, x_i kk)] _ _
  refine x_iconst (v := 0) dX6_itemAt_0 (by decide) ?_
  refine x_istore_n (i := 2) (lv' := [(0, x_r (some r)), (1, x_i kk), (2, x_i 0)]) dX6_itemAt_1 rfl (by decide) rfl ?_
  refine x_aload_n (i := 0) (o := some r) dX6_itemAt_2 rfl rfl ?_
  refine x_getRv (v := ts[0]?) dX6_itemAt_3 fX6_itemAt_28 (i := 607) rfl rfl hr (h7) ?_
  refine x_astore_n (i := 3) (lv' := [(0, x_r (some r)), (1, x_i kk), (2, x_i 0), (3, x_r (ts[0]?))]) dX6_itemAt_6 rfl (by decide) rfl ?_
  show x_E _ _ _ _ 7 _ _ _
  exact l_itemAt G hts hL (some r) kk _ _ 0 0 rfl ⟨by rw [List.drop_zero], rfl⟩
set_option maxHeartbeats 4000000 in
set_option maxRecDepth 100000 in
theorem l_firstSum (G : x_G) {C : Nat → Int32} {h : x_H} {ts L : List Nat} (hts : y_is C h ts L) (hL : ∀ p ∈ L, v_it C p) (rr : Option Nat) (LL : List Nat) : ∀ (k j : Nat), ts.length - j = k → LL.find? (fun p => C p == -11) = (L.drop j).find? (fun p => C p == -11) → x_E G mX6_firstSum (x_D G mX6_firstSum h (fun r h2 => h2 = h ∧ ((r = some (x_r none) ∧ LL.find? (fun p => C p == -11) = none) ∨ ∃ t p, r = some (x_r (some t)) ∧ LL.find? (fun p => C p == -11) = some p ∧ y_it C h t p ∧ p ∈ L))) h 5 [(0, x_r rr), (1, x_r (ts[j]?))] [] h := by
  intro k
  induction k with
  | zero =>
    intro j hj hQ
    have hn0 : ts[j]? = none := List.getElem?_eq_none (by omega)
    rw [hn0]
    rw [List.drop_of_length_le (by have := hts.1; omega)] at hQ
    refine x_aload_n (i := 1) (o := none) dX6_firstSum_5 rfl rfl ?_
    refine x_ifnull (o := none) (tgt := 27) dX6_firstSum_6 (by decide) (fun _ => ?_) (fun _ c => absurd c (by simp))
    refine x_null dX6_firstSum_27 ?_
    refine x_areturn dX6_firstSum_28 rfl ⟨Nat.le_refl _, Nat.le_refl _⟩ ?_
    exact ⟨rfl, Or.inl ⟨rfl, by rw [hQ]; rfl⟩⟩
  | succ k ih =>
    intro j hj hQ
    rcases hts.nx j with ⟨hn0, hd0⟩ | ⟨t, p, htj, ht, hnx, hdr, hpm, hjl⟩
    · have := List.getElem?_eq_none_iff.mp hn0
      omega
    · rw [htj]
      have hv := hL p hpm
      refine x_aload_n (i := 1) (o := some t) dX6_firstSum_5 rfl rfl ?_
      refine x_ifnull (o := some t) (tgt := 27) dX6_firstSum_6 (by decide) (fun c => absurd c (by simp)) (fun _ _ => ?_)
      refine x_aload_n (i := 1) (o := some t) dX6_firstSum_9 rfl rfl ?_
      refine x_getIv (v := z_ik C p) dX6_firstSum_10 fX6_firstSum_45 (i := 400) rfl rfl ht.1 (ht.2.1) ?_
      refine x_iconst (v := 2) dX6_firstSum_13 (by decide) ?_
      refine x_icmp_ne (tgt := 19) dX6_firstSum_14 (by decide) (fun c14 => ?_) (fun c14 => ?_)
      · skip
        have q14 : ¬ C p = -11 := fun z => c14 (hv.k0.2.1.mpr z)
        refine x_aload_n (i := 1) (o := some t) dX6_firstSum_19 rfl rfl ?_
        refine x_getRv (v := ts[j + 1]?) dX6_firstSum_20 fX6_firstSum_41 (i := 404) rfl rfl ht.1 (hnx) ?_
        refine x_astore_n (i := 1) (lv' := [(0, x_r rr), (1, x_r (ts[j + 1]?))]) dX6_firstSum_23 rfl (by decide) rfl ?_
        refine x_goto (tgt := 5) dX6_firstSum_24 (by decide) ?_
        show x_E _ _ _ _ 5 _ _ _
        refine ih (j + 1) (by omega) ?_
        rw [hQ, hdr]
        exact List.find?_cons_of_neg (by simpa using q14)
      · skip
        have q14 : C p = -11 := hv.k0.2.1.mp c14
        refine x_aload_n (i := 1) (o := some t) dX6_firstSum_17 rfl rfl ?_
        refine x_areturn dX6_firstSum_18 rfl ⟨Nat.le_refl _, Nat.le_refl _⟩ ?_
        refine ⟨rfl, Or.inr ⟨t, p, rfl, ?_, ht, hpm⟩⟩
        rw [hQ, hdr]
        exact List.find?_cons_of_pos (by simpa using q14)
set_option maxHeartbeats 4000000 in
set_option maxRecDepth 100000 in
theorem c_firstSum (G : x_G) {C : Nat → Int32} {h : x_H} {ts L : List Nat} (hts : y_is C h ts L) (hL : ∀ p ∈ L, v_it C p) {r : Nat} (hr : x_kd h r = 6) (h7 : x_fr h 607 r = ts[0]?) : x_Ex G mX6_firstSum h [x_r (some r)] (fun r h2 => h2 = h ∧ ((r = some (x_r none) ∧ L.find? (fun p => C p == -11) = none) ∨ ∃ t p, r = some (x_r (some t)) ∧ L.find? (fun p => C p == -11) = some p ∧ y_it C h t p ∧ p ∈ L)) := by
  refine x_enter mwX6_firstSum (Nat.le_of_ble_eq_true rfl) ?_
  show x_E _ _ _ _ _ [(0, x_r (some r))] _ _
  refine x_aload_n (i := 0) (o := some r) dX6_firstSum_0 rfl rfl ?_
  refine x_getRv (v := ts[0]?) dX6_firstSum_1 fX6_firstSum_28 (i := 607) rfl rfl hr (h7) ?_
  refine x_astore_n (i := 1) (lv' := [(0, x_r (some r)), (1, x_r (ts[0]?))]) dX6_firstSum_4 rfl (by decide) rfl ?_
  show x_E _ _ _ _ 5 _ _ _
  exact l_firstSum G hts hL (some r) L _ 0 rfl (by rw [List.drop_zero])
def z_lo1 (C : Nat → Int32) (v : Int32) (p : Nat) : Int32 := if 0 ≤ z_l1 C p ∧ (v = -1 ∨ z_l1 C p < v) then z_l1 C p else v
def z_los (C : Nat → Int32) : List Nat → Int32 → Int32
  | [], v => v
  | p :: L, v => z_los C L (z_lo1 C v p)
set_option maxHeartbeats 4000000 in
set_option maxRecDepth 100000 in
theorem l_leastOver (G : x_G) {C : Nat → Int32} {h : x_H} {ts L : List Nat} (hts : y_is C h ts L) (hL : ∀ p ∈ L, v_it C p) (rr : Option Nat) (Q : Option x_V → x_H → Prop) : ∀ (k j : Nat) (v : Int32), ts.length - j = k → Q (some (x_i (z_los C (L.drop j) v))) h → x_E G mX6_leastOver (x_D G mX6_leastOver h Q) h 7 [(0, x_r rr), (1, x_i v), (2, x_r (ts[j]?))] [] h := by
  intro k
  induction k with
  | zero =>
    intro j v hj hQ
    have hn0 : ts[j]? = none := List.getElem?_eq_none (by omega)
    rw [hn0]
    rw [List.drop_of_length_le (by have := hts.1; omega)] at hQ
    refine x_aload_n (i := 2) (o := none) dX6_leastOver_7 rfl rfl ?_
    refine x_ifnull (o := none) (tgt := 52) dX6_leastOver_8 (by decide) (fun _ => ?_) (fun _ c => absurd c (by simp))
    refine x_iload_n (i := 1) (x := v) dX6_leastOver_52 rfl rfl ?_
    refine x_ireturn dX6_leastOver_53 rfl (rfl) ⟨Nat.le_refl _, Nat.le_refl _⟩ ?_
    exact hQ
  | succ k ih =>
    intro j v hj hQ
    rcases hts.nx j with ⟨hn0, hd0⟩ | ⟨t, p, htj, ht, hnx, hdr, hpm, hjl⟩
    · have := List.getElem?_eq_none_iff.mp hn0
      omega
    · rw [htj]
      have hv := hL p hpm
      refine x_aload_n (i := 2) (o := some t) dX6_leastOver_7 rfl rfl ?_
      refine x_ifnull (o := some t) (tgt := 52) dX6_leastOver_8 (by decide) (fun c => absurd c (by simp)) (fun _ _ => ?_)
      refine x_aload_n (i := 2) (o := some t) dX6_leastOver_11 rfl rfl ?_
      refine x_getIv (v := z_ik C p) dX6_leastOver_12 fX6_leastOver_45 (i := 400) rfl rfl ht.1 (ht.2.1) ?_
      refine x_iconst (v := 2) dX6_leastOver_15 (by decide) ?_
      refine x_icmp_ne (tgt := 44) dX6_leastOver_16 (by decide) (fun c16 => ?_) (fun c16 => ?_)
      · skip
        have e1 : z_lo1 C v p = v := by
          unfold z_lo1
          rw [show z_l1 C p = -1 from if_neg (fun z => c16 (hv.k0.2.1.mpr z.1))]
          exact if_neg (fun z => absurd z.1 (by decide))
        refine x_aload_n (i := 2) (o := some t) dX6_leastOver_44 rfl rfl ?_
        refine x_getRv (v := ts[j + 1]?) dX6_leastOver_45 fX6_leastOver_41 (i := 404) rfl rfl ht.1 (hnx) ?_
        refine x_astore_n (i := 2) (lv' := [(0, x_r rr), (1, x_i v), (2, x_r (ts[j + 1]?))]) dX6_leastOver_48 rfl (by decide) rfl ?_
        refine x_goto (tgt := 7) dX6_leastOver_49 (by decide) ?_
        show x_E _ _ _ _ 7 _ _ _
        rw [hdr, show z_los C (p :: L.drop (j + 1)) v = z_los C (L.drop (j + 1)) (z_lo1 C v p) from rfl, e1] at hQ
        exact ih (j + 1) _ (by omega) hQ
      · skip
        have q11 : C p = -11 := hv.k0.2.1.mp c16
        obtain ⟨t2, t3, -⟩ := ht.2.2.2.2 q11
        have hb : ∃ b, q_sum C 1501 (p + 1) = (true, b) := by
          rcases hv with z | z | z
          · rw [z.1] at q11; exact absurd q11 (by decide)
          · rw [z.1] at q11; exact absurd q11 (by decide)
          · exact z.2
        obtain ⟨b, hq⟩ := hb
        obtain ⟨hcc, hcn⟩ := q_cmp_c (q_cp (q_sum_more hq))
        refine x_aload_n (i := 2) (o := some t) dX6_leastOver_19 rfl rfl ?_
        refine x_getIv (v := if C (z_cp C 1501 (p + 1)) = -13 then 1 else 0) dX6_leastOver_20 fX6_leastOver_57 (i := 402) rfl rfl ht.1 (t2) ?_
        refine x_if_ne (tgt := 44) dX6_leastOver_23 (by decide) (fun c23 => ?_) (fun c23 => ?_)
        · skip
          have q13 : C (z_cp C 1501 (p + 1)) = -13 := by
            apply Classical.byContradiction
            intro z
            rw [if_neg z] at c23
            exact c23 rfl
          have e1 : z_lo1 C v p = v := by
            unfold z_lo1
            rw [show z_l1 C p = -1 from if_neg (fun z => by rw [q13] at z; exact absurd z.2 (by decide))]
            exact if_neg (fun z => absurd z.1 (by decide))
          refine x_aload_n (i := 2) (o := some t) dX6_leastOver_44 rfl rfl ?_
          refine x_getRv (v := ts[j + 1]?) dX6_leastOver_45 fX6_leastOver_41 (i := 404) rfl rfl ht.1 (hnx) ?_
          refine x_astore_n (i := 2) (lv' := [(0, x_r rr), (1, x_i v), (2, x_r (ts[j + 1]?))]) dX6_leastOver_48 rfl (by decide) rfl ?_
          refine x_goto (tgt := 7) dX6_leastOver_49 (by decide) ?_
          show x_E _ _ _ _ 7 _ _ _
          rw [hdr, show z_los C (p :: L.drop (j + 1)) v = z_los C (L.drop (j + 1)) (z_lo1 C v p) from rfl, e1] at hQ
          exact ih (j + 1) _ (by omega) hQ
        · skip
          have q12 : C (z_cp C 1501 (p + 1)) = -12 := by
            rcases hcc with z | z
            · exact z
            · rw [if_pos z.2] at c23; exact absurd c23 (by decide)
          have el : z_l1 C p = C (z_cp C 1501 (p + 1) + 1) := if_pos ⟨q11, q12⟩
          refine x_iload_n (i := 1) (x := v) dX6_leastOver_26 rfl rfl ?_
          refine x_iconst (v := (-1)) dX6_leastOver_27 (by decide) ?_
          refine x_icmp_eq (tgt := 39) dX6_leastOver_28 (by decide) (fun c28 => ?_) (fun c28 => ?_)
          · skip
            have e1 : z_lo1 C v p = C (z_cp C 1501 (p + 1) + 1) := by
              unfold z_lo1
              rw [el]
              exact if_pos ⟨hcn.1, Or.inl c28⟩
            refine x_aload_n (i := 2) (o := some t) dX6_leastOver_39 rfl rfl ?_
            refine x_getIv (v := C (z_cp C 1501 (p + 1) + 1)) dX6_leastOver_40 fX6_leastOver_61 (i := 403) rfl rfl ht.1 (t3) ?_
            refine x_istore_n (i := 1) (lv' := [(0, x_r rr), (1, x_i (C (z_cp C 1501 (p + 1) + 1))), (2, x_r (some t))]) dX6_leastOver_43 rfl (by decide) rfl ?_
            refine x_aload_n (i := 2) (o := some t) dX6_leastOver_44 rfl rfl ?_
            refine x_getRv (v := ts[j + 1]?) dX6_leastOver_45 fX6_leastOver_41 (i := 404) rfl rfl ht.1 (hnx) ?_
            refine x_astore_n (i := 2) (lv' := [(0, x_r rr), (1, x_i (C (z_cp C 1501 (p + 1) + 1))), (2, x_r (ts[j + 1]?))]) dX6_leastOver_48 rfl (by decide) rfl ?_
            refine x_goto (tgt := 7) dX6_leastOver_49 (by decide) ?_
            show x_E _ _ _ _ 7 _ _ _
            rw [hdr, show z_los C (p :: L.drop (j + 1)) v = z_los C (L.drop (j + 1)) (z_lo1 C v p) from rfl, e1] at hQ
            exact ih (j + 1) _ (by omega) hQ
          · skip
            refine x_aload_n (i := 2) (o := some t) dX6_leastOver_31 rfl rfl ?_
            refine x_getIv (v := C (z_cp C 1501 (p + 1) + 1)) dX6_leastOver_32 fX6_leastOver_61 (i := 403) rfl rfl ht.1 (t3) ?_
            refine x_iload_n (i := 1) (x := v) dX6_leastOver_35 rfl rfl ?_
            refine x_icmp_ge (tgt := 44) dX6_leastOver_36 (by decide) (fun c36 => ?_) (fun c36 => ?_)
            · skip
              have e1 : z_lo1 C v p = v := by
                unfold z_lo1
                rw [el]
                exact if_neg (fun z => by rcases z.2 with z | z; exact c28 z; exact absurd z (Int32.not_lt.mpr c36))
              refine x_aload_n (i := 2) (o := some t) dX6_leastOver_44 rfl rfl ?_
              refine x_getRv (v := ts[j + 1]?) dX6_leastOver_45 fX6_leastOver_41 (i := 404) rfl rfl ht.1 (hnx) ?_
              refine x_astore_n (i := 2) (lv' := [(0, x_r rr), (1, x_i v), (2, x_r (ts[j + 1]?))]) dX6_leastOver_48 rfl (by decide) rfl ?_
              refine x_goto (tgt := 7) dX6_leastOver_49 (by decide) ?_
              show x_E _ _ _ _ 7 _ _ _
              rw [hdr, show z_los C (p :: L.drop (j + 1)) v = z_los C (L.drop (j + 1)) (z_lo1 C v p) from rfl, e1] at hQ
              exact ih (j + 1) _ (by omega) hQ
            · skip
              have e1 : z_lo1 C v p = C (z_cp C 1501 (p + 1) + 1) := by
                unfold z_lo1
                rw [el]
                exact if_pos ⟨hcn.1, Or.inr (Int32.not_le.mp c36)⟩
              refine x_aload_n (i := 2) (o := some t) dX6_leastOver_39 rfl rfl ?_
              refine x_getIv (v := C (z_cp C 1501 (p + 1) + 1)) dX6_leastOver_40 fX6_leastOver_61 (i := 403) rfl rfl ht.1 (t3) ?_
              refine x_istore_n (i := 1) (lv' := [(0, x_r rr), (1, x_i (C (z_cp C 1501 (p + 1) + 1))), (2, x_r (some t))]) dX6_leastOver_43 rfl (by decide) rfl ?_
              refine x_aload_n (i := 2) (o := some t) dX6_leastOver_44 rfl rfl ?_
              refine x_getRv (v := ts[j + 1]?) dX6_leastOver_45 fX6_leastOver_41 (i := 404) rfl rfl ht.1 (hnx) ?_
              refine x_astore_n (i := 2) (lv' := [(0, x_r rr), (1, x_i (C (z_cp C 1501 (p + 1) + 1))), (2, x_r (ts[j + 1]?))]) dX6_leastOver_48 rfl (by decide) rfl ?_
              refine x_goto (tgt := 7) dX6_leastOver_49 (by decide) ?_
              show x_E _ _ _ _ 7 _ _ _
              rw [hdr, show z_los C (p :: L.drop (j + 1)) v = z_los C (L.drop (j + 1)) (z_lo1 C v p) from rfl, e1] at hQ
              exact ih (j + 1) _ (by omega) hQ
set_option maxHeartbeats 4000000 in
set_option maxRecDepth 100000 in
theorem c_leastOver (G : x_G) {C : Nat → Int32} {h : x_H} {ts L : List Nat} (hts : y_is C h ts L) (hL : ∀ p ∈ L, v_it C p) {r : Nat} (hr : x_kd h r = 6) (h7 : x_fr h 607 r = ts[0]?) : x_Call G mX6_leastOver h [x_r (some r)] (some (x_i (z_los C L (-1)))) h := by
  refine x_Ex.call (x_enter mwX6_leastOver (Nat.le_of_ble_eq_true rfl) ?_)
  show x_E _ _ _ _ _ [(0, x_r (some r))] _ _
  refine x_iconst (v := (-1)) dX6_leastOver_0 (by decide) ?_
  refine x_istore_n (i := 1) (lv' := [(0, x_r (some r)), (1, x_i ((-1)))]) dX6_leastOver_1 rfl (by decide) rfl ?_
  refine x_aload_n (i := 0) (o := some r) dX6_leastOver_2 rfl rfl ?_
  refine x_getRv (v := ts[0]?) dX6_leastOver_3 fX6_leastOver_28 (i := 607) rfl rfl hr (h7) ?_
  refine x_astore_n (i := 2) (lv' := [(0, x_r (some r)), (1, x_i ((-1))), (2, x_r (ts[0]?))]) dX6_leastOver_6 rfl (by decide) rfl ?_
  show x_E _ _ _ _ 7 _ _ _
  exact l_leastOver G hts hL (some r) _ _ 0 (-1) rfl ⟨by rw [List.drop_zero], rfl⟩
