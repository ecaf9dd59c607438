/-! THE CLASS: Book: lookAt -/
theorem f_P.Y {h h1 : x_H} {fa : Nat} {P : Nat → Nat → Prop} {S : Nat → Prop} (hf : f_P h fa) (hl : fa + 4 < x_sz h) (hF : y_F h h1 P S) (hp : ∀ f, 300 ≤ f → f ≤ 304 → ¬ P f fa) : f_P h1 fa := by
  obtain ⟨a0, ⟨a1, a2, a3⟩, ⟨b1, b2, b3⟩, ⟨c1, c2, c3⟩, ⟨d1, d2, d3⟩⟩ := hf
  exact ⟨(hF.kd (by omega)).trans a0, ⟨(hF.fr (by omega) (hp 301 (by omega) (by omega))).trans a1, (hF.kd (by omega)).trans a2, (hF.ln (by omega)).trans a3⟩, ⟨(hF.fr (by omega) (hp 302 (by omega) (by omega))).trans b1, (hF.kd (by omega)).trans b2, (hF.ln (by omega)).trans b3⟩, ⟨(hF.fr (by omega) (hp 303 (by omega) (by omega))).trans c1, (hF.kd (by omega)).trans c2, (hF.ln (by omega)).trans c3⟩, ⟨(hF.fr (by omega) (hp 304 (by omega) (by omega))).trans d1, (hF.kd (by omega)).trans d2, (hF.ln (by omega)).trans d3⟩⟩
theorem f_X.Y {h h1 : x_H} {fa : Nat} {X : z_X} {P : Nat → Nat → Prop} {S : Nat → Prop} (hX : f_X h fa X) (hl : fa + 4 < x_sz h) (hF : y_F h h1 P S) (hp : ¬ P 300 fa) (hs : ∀ k, 1 ≤ k → k ≤ 4 → ¬ S (fa + k)) : f_X h1 fa X := by
  obtain ⟨x1, x2, x3⟩ := hX
  unfold f_X
  rw [hF.rw (q := fa + 3) (by omega) (hs 3 (by omega) (by omega)), hF.rw (q := fa + 4) (by omega) (hs 4 (by omega) (by omega)), hF.rl (q := fa + 1) (by omega) (hs 1 (by omega) (by omega)), hF.rl (q := fa + 2) (by omega) (hs 2 (by omega) (by omega)), hF.fi (by omega) hp]
  exact ⟨x1, x2, x3⟩
theorem y_inj {rs : List Nat} (hp : rs.Pairwise (· < ·)) {i j r : Nat} (hi : rs[i]? = some r) (hj : rs[j]? = some r) : i = j := by
  obtain ⟨a1, a2⟩ := List.getElem?_eq_some_iff.mp hi
  obtain ⟨b1, b2⟩ := List.getElem?_eq_some_iff.mp hj
  rcases Nat.lt_trichotomy i j with z | z | z
  · have := List.pairwise_iff_getElem.mp hp i j a1 b1 z
    omega
  · exact z
  · have := List.pairwise_iff_getElem.mp hp j i b1 a1 z
    omega
/-- a look is under way -/
def y_lA (h h1 : x_H) (bk : Nat) (rs : List Nat) (act : Int32) : Prop := y_F h h1 (fun f q => (f = 605 ∧ q ∈ rs) ∨ (f = 106 ∧ q = bk)) (fun _ => False) ∧ x_sz h1 = x_sz h ∧ x_us h1 = x_us h ∧ x_fi h1 106 bk = act
theorem y_lA.V {h h1 : x_H} {bk : Nat} {rs : List Nat} {act : Int32} (k : y_lA h h1 bk rs act) {r : Nat} (hr : r ∈ rs) (v : Int32) : y_lA h (x_sI h1 605 r v) bk rs act := by
  obtain ⟨k1, k2, k3, k4⟩ := k
  refine ⟨k1.I (fun _ => Or.inl ⟨rfl, hr⟩), k2, k3, ?_⟩
  rw [x_fi_sI, if_neg (by omega)]
  exact k4
set_option maxHeartbeats 4000000 in
set_option maxRecDepth 100000 in
theorem l_look1 (G : x_G) {C : Nat → Int32} {h : x_H} {bk : Nat} {rs : List Nat} {R : List (Nat × Nat)} {es : List Nat} {E : List Int32} (hb : y_bk C h bk rs R es E) (day : Int64) (fa : Nat) (act : Int32) (D : Room → x_Z → Prop) : ∀ (n j : Nat) (h1 : x_H), rs.length - j = n → y_lA h h1 bk rs act → (∀ i s, i < j → rs[i]? = some s → x_fi h1 605 s = -5) → (∀ h2, y_lA h h2 bk rs act → y_V h2 rs (fun _ => -5) → x_E G mX0_lookAt D h 37 [(0, x_r (some bk)), (1, x_l day), (3, x_r (some fa)), (4, x_r none)] [] h2) → x_E G mX0_lookAt D h 15 [(0, x_r (some bk)), (1, x_l day), (3, x_r (some fa)), (4, x_r (rs[j]?))] [] h1 := by
  intro n
  induction n with
  | zero =>
    intro j h1 hj hA hv kx
    have hb1 : y_bk C h1 bk rs R es E := hb.F hA.1 (fun f q z => by omega)
    have hle1 : x_sz h ≤ x_sz h1 ∧ x_us h ≤ x_us h1 := hA.1.le
    have hn0 : rs[j]? = none := List.getElem?_eq_none (by omega)
    rw [hn0]
    refine x_aload (i := 4) (o := none) dX0_lookAt_15 rfl ?_
    refine x_ifnull (o := none) (tgt := 37) dX0_lookAt_17 (by decide) (fun _ => ?_) (fun _ c => absurd c (by simp))
    show x_E _ _ _ _ 37 _ _ _
    exact kx h1 hA (fun i s hs => hv i s (by have := (List.getElem?_eq_some_iff.mp hs).1; omega) hs)
  | succ n ih =>
    intro j h1 hj hA hv kx
    have hb1 : y_bk C h1 bk rs R es E := hb.F hA.1 (fun f q z => by omega)
    have hle1 : x_sz h ≤ x_sz h1 ∧ x_us h ≤ x_us h1 := hA.1.le
    rcases hb1.nx j with ⟨hn0, hd0⟩ | ⟨r, q, hrj, hqj, hru, hnx, hjl⟩
    · have := List.getElem?_eq_none_iff.mp hn0
      omega
    · rw [hrj]
      have hrm : r ∈ rs := List.mem_of_getElem? hrj
      refine x_aload (i := 4) (o := some r) dX0_lookAt_15 rfl ?_
      refine x_ifnull (o := some r) (tgt := 37) dX0_lookAt_17 (by decide) (fun c => absurd c (by simp)) (fun _ _ => ?_)
      refine x_aload (i := 4) (o := some r) dX0_lookAt_20 rfl ?_
      refine x_bipush (v := (-5)) dX0_lookAt_22 (by decide) ?_
      refine x_putI (i := 605) dX0_lookAt_24 pX0_lookAt_60 rfl rfl (by first | (simp only [x_kd_sI, x_kd_sR, x_kd_sA]; exact hru.1) | exact hru.1) (rfl) (by rfl) ?_
      refine x_aload (i := 4) (o := some r) dX0_lookAt_27 rfl ?_
      refine x_getRv (v := rs[j + 1]?) dX0_lookAt_29 fX0_lookAt_54 (i := 606) rfl rfl (by first | (simp only [x_kd_sI, x_kd_sR, x_kd_sA]; exact hru.1) | exact hru.1) ((by rw [x_fr_sI]; exact hnx)) ?_
      refine x_astore (i := 4) (lv' := [(0, x_r (some bk)), (1, x_l day), (3, x_r (some fa)), (4, x_r (rs[j + 1]?))]) dX0_lookAt_32 (by decide) rfl ?_
      refine x_goto (tgt := 15) dX0_lookAt_34 (by decide) ?_
      show x_E _ _ _ _ 15 _ _ _
      refine ih (j + 1) _ (by omega) (hA.V hrm (-5)) (fun i s hi hs => ?_) kx
      rw [x_fi_sI]
      split
      · rfl
      · rename_i hne
        refine hv i s ?_ hs
        rcases Nat.lt_or_ge i j with z | z
        · exact z
        · have : i = j := by omega
          subst this
          rw [hrj] at hs
          cases hs
          exact absurd ⟨rfl, rfl⟩ hne
set_option maxHeartbeats 4000000 in
set_option maxRecDepth 100000 in
theorem l_look2 (G : x_G) {C : Nat → Int32} {h : x_H} {bk : Nat} {rs : List Nat} {R : List (Nat × Nat)} {es : List Nat} {E : List Int32} (hb : y_bk C h bk rs R es E) (hR : ∀ q ∈ R, v_ru C q) {fa : Nat} (hf : f_P h fa) {X : z_X} (hX : f_X h fa X) (hfl : fa + 4 < x_sz h) (day : Int64) (act : Int32) (D : Room → x_Z → Prop) : ∀ (n j : Nat) (h1 : x_H), rs.length - j = n → j ≤ rs.length → y_lA h h1 bk rs act → y_V h1 rs (z_V X C R act j) → (∀ h2, y_lA h h2 bk rs act → y_V h2 rs (z_V X C R act R.length) → x_E G mX0_lookAt D h 97 [(0, x_r (some bk)), (1, x_l day), (3, x_r (some fa)), (4, x_r none)] [] h2) → x_E G mX0_lookAt D h 43 [(0, x_r (some bk)), (1, x_l day), (3, x_r (some fa)), (4, x_r (rs[j]?))] [] h1 := by
  intro n
  induction n with
  | zero =>
    intro j h1 hj hjr hA hv kx
    have hb1 : y_bk C h1 bk rs R es E := hb.F hA.1 (fun f q z => by omega)
    have hle1 : x_sz h ≤ x_sz h1 ∧ x_us h ≤ x_us h1 := hA.1.le
    have hf1 := hf.Y hfl hA.1 (fun f g1 g2 => by omega)
    have hX1 := hX.Y hfl hA.1 (by omega) (fun _ _ _ z => z)
    have hrl := hb.2.2.2.2.2.2.2.1.1
    have hn0 : rs[j]? = none := List.getElem?_eq_none (by omega)
    rw [hn0]
    refine x_aload (i := 4) (o := none) dX0_lookAt_43 rfl ?_
    refine x_ifnull (o := none) (tgt := 97) dX0_lookAt_45 (by decide) (fun _ => ?_) (fun _ c => absurd c (by simp))
    show x_E _ _ _ _ 97 _ _ _
    refine kx h1 hA ?_
    rw [show R.length = j from ?_]
    · exact hv
    · have := hb.2.2.2.2.2.2.2.1.1
      omega
  | succ n ih =>
    intro j h1 hj hjr hA hv kx
    have hb1 : y_bk C h1 bk rs R es E := hb.F hA.1 (fun f q z => by omega)
    have hle1 : x_sz h ≤ x_sz h1 ∧ x_us h ≤ x_us h1 := hA.1.le
    have hf1 := hf.Y hfl hA.1 (fun f g1 g2 => by omega)
    have hX1 := hX.Y hfl hA.1 (by omega) (fun _ _ _ z => z)
    have hrl := hb.2.2.2.2.2.2.2.1.1
    rcases hb1.nx j with ⟨hn0, hd0⟩ | ⟨r, q, hrj, hqj, hru, hnx, hjl⟩
    · have := List.getElem?_eq_none_iff.mp hn0
      omega
    · rw [hrj]
      have hrm : r ∈ rs := List.mem_of_getElem? hrj
      refine x_aload (i := 4) (o := some r) dX0_lookAt_43 rfl ?_
      refine x_ifnull (o := some r) (tgt := 97) dX0_lookAt_45 (by decide) (fun c => absurd c (by simp)) (fun _ _ => ?_)
      refine x_aload (i := 4) (o := some r) dX0_lookAt_48 rfl ?_
      refine x_getIv (v := nI q.2) dX0_lookAt_50 fX0_lookAt_51 (i := 603) rfl rfl (by first | (simp only [x_kd_sI, x_kd_sR, x_kd_sA]; exact hru.1) | exact hru.1) (hru.2.2.2.2.1) ?_
      refine x_aload_n (i := 0) (o := some bk) dX0_lookAt_53 rfl rfl ?_
      refine x_getIv (v := act) dX0_lookAt_54 fX0_lookAt_32 (i := 106) rfl rfl hb1.1.2 (hA.2.2.2) ?_
      refine x_icmp_ne (tgt := 87) dX0_lookAt_57 (by decide) (fun c57 => ?_) (fun c57 => ?_)
      · skip
        have ea : ¬ nI q.2 = act := c57
        refine x_aload (i := 4) (o := some r) dX0_lookAt_87 rfl ?_
        refine x_getRv (v := rs[j + 1]?) dX0_lookAt_89 fX0_lookAt_54 (i := 606) rfl rfl (by first | (simp only [x_kd_sI, x_kd_sR, x_kd_sA]; exact hru.1) | exact hru.1) ((by first | exact hnx | (rw [x_fr_sI]; exact hnx))) ?_
        refine x_astore (i := 4) (lv' := [(0, x_r (some bk)), (1, x_l day), (3, x_r (some fa)), (4, x_r (rs[j + 1]?))]) dX0_lookAt_92 (by decide) rfl ?_
        refine x_goto (tgt := 43) dX0_lookAt_94 (by decide) ?_
        show x_E _ _ _ _ 43 _ _ _
        refine ih (j + 1) h1 (by omega) (by omega) hA ?_ kx
        rw [z_V_s0 hqj ea]
        exact hv
      · skip
        have ea : nI q.2 = act := c57
        refine x_aload (i := 4) (o := some r) dX0_lookAt_60 rfl ?_
        refine x_aload_n (i := 0) (o := some bk) dX0_lookAt_62 rfl rfl ?_
        refine x_aload (i := 4) (o := some r) dX0_lookAt_63 rfl ?_
        refine x_aload_n (i := 3) (o := some fa) dX0_lookAt_65 rfl rfl ?_
        by_cases qp : z_ps X C R q = true
        · skip
          have ej : z_jd X C R (z_V X C R act j) j q = -4 := if_pos qp
          refine x_callV (a := bk) (av := [x_r (some r), x_r (some fa)]) (rest := [x_r (some r)]) (r := (some (x_i 1))) (h1 := h1) dX0_lookAt_66 sX0_lookAt_63 hb1.1.2 rfl rfl (Nat.le_of_ble_eq_true rfl) hle1 (by have k := c_isPassedX G hb1 hR hf1 hX1 hrj hqj; rw [if_pos qp] at k; exact k) ?_
          show x_E _ _ _ _ 69 _ [x_i 1, x_r (some r)] _
          refine x_if_eq (tgt := 77) dX0_lookAt_69 (by decide) (fun c => absurd c (by decide)) (fun _ => ?_)
          refine x_bipush (v := (-4)) dX0_lookAt_72 (by decide) ?_
          refine x_goto (tgt := 84) dX0_lookAt_74 (by decide) ?_
          refine x_putI (i := 605) dX0_lookAt_84 pX0_lookAt_60 rfl rfl (by first | (simp only [x_kd_sI, x_kd_sR, x_kd_sA]; exact hru.1) | exact hru.1) (rfl) (by rfl) ?_
          refine x_aload (i := 4) (o := some r) dX0_lookAt_87 rfl ?_
          refine x_getRv (v := rs[j + 1]?) dX0_lookAt_89 fX0_lookAt_54 (i := 606) rfl rfl (by first | (simp only [x_kd_sI, x_kd_sR, x_kd_sA]; exact hru.1) | exact hru.1) ((by first | exact hnx | (rw [x_fr_sI]; exact hnx))) ?_
          refine x_astore (i := 4) (lv' := [(0, x_r (some bk)), (1, x_l day), (3, x_r (some fa)), (4, x_r (rs[j + 1]?))]) dX0_lookAt_92 (by decide) rfl ?_
          refine x_goto (tgt := 43) dX0_lookAt_94 (by decide) ?_
          show x_E _ _ _ _ 43 _ _ _
          refine ih (j + 1) _ (by omega) (by omega) (hA.V hrm _) ?_ kx
          rw [z_V_s1 hqj ea, ej]
          intro i s hs
          rw [x_fi_sI]
          by_cases e : i = j
          · subst e
            rw [hrj] at hs
            cases hs
            rw [if_pos ⟨rfl, rfl⟩, pk_us]
          · rw [if_neg (fun z => e (y_inj hb.2.2.2.2.2.2.2.1.2.1.1 hs (by rw [z.2]; exact hrj))), pk_un e]
            exact hv i s hs
        · skip
          have ej : z_jd X C R (z_V X C R act j) j q = z_rv X C R (z_V X C R act j) j q.2 (z_its C q) (-2) := if_neg qp
          refine x_callV (a := bk) (av := [x_r (some r), x_r (some fa)]) (rest := [x_r (some r)]) (r := (some (x_i 0))) (h1 := h1) dX0_lookAt_66 sX0_lookAt_63 hb1.1.2 rfl rfl (Nat.le_of_ble_eq_true rfl) hle1 (by have k := c_isPassedX G hb1 hR hf1 hX1 hrj hqj; rw [if_neg qp] at k; exact k) ?_
          show x_E _ _ _ _ 69 _ [x_i 0, x_r (some r)] _
          refine x_if_eq (tgt := 77) dX0_lookAt_69 (by decide) (fun _ => ?_) (fun c => absurd (by decide) c)
          refine x_aload_n (i := 0) (o := some bk) dX0_lookAt_77 rfl rfl ?_
          refine x_aload (i := 4) (o := some r) dX0_lookAt_78 rfl ?_
          refine x_aload_n (i := 3) (o := some fa) dX0_lookAt_80 rfl rfl ?_
          refine x_callV (a := bk) (av := [x_r (some r), x_r (some fa)]) (rest := [x_r (some r)]) (r := (some (x_i (z_rv X C R (z_V X C R act j) j q.2 (z_its C q) (-2))))) (h1 := h1) dX0_lookAt_81 sX0_lookAt_67 hb1.1.2 rfl rfl (Nat.le_of_ble_eq_true rfl) hle1 (by have k := c_verdictOf G hb1 hR hv (z_oh_V j (by omega)) hf1 hX1 hrj hqj; rw [z_rx_V hR hqj ea (by omega)] at k; exact k) ?_
          show x_E _ _ _ _ 84 _ [x_i (z_rv X C R (z_V X C R act j) j q.2 (z_its C q) (-2)), x_r (some r)] _
          refine x_putI (i := 605) dX0_lookAt_84 pX0_lookAt_60 rfl rfl (by first | (simp only [x_kd_sI, x_kd_sR, x_kd_sA]; exact hru.1) | exact hru.1) (rfl) (by rfl) ?_
          refine x_aload (i := 4) (o := some r) dX0_lookAt_87 rfl ?_
          refine x_getRv (v := rs[j + 1]?) dX0_lookAt_89 fX0_lookAt_54 (i := 606) rfl rfl (by first | (simp only [x_kd_sI, x_kd_sR, x_kd_sA]; exact hru.1) | exact hru.1) ((by first | exact hnx | (rw [x_fr_sI]; exact hnx))) ?_
          refine x_astore (i := 4) (lv' := [(0, x_r (some bk)), (1, x_l day), (3, x_r (some fa)), (4, x_r (rs[j + 1]?))]) dX0_lookAt_92 (by decide) rfl ?_
          refine x_goto (tgt := 43) dX0_lookAt_94 (by decide) ?_
          show x_E _ _ _ _ 43 _ _ _
          refine ih (j + 1) _ (by omega) (by omega) (hA.V hrm _) ?_ kx
          rw [z_V_s1 hqj ea, ej]
          intro i s hs
          rw [x_fi_sI]
          by_cases e : i = j
          · subst e
            rw [hrj] at hs
            cases hs
            rw [if_pos ⟨rfl, rfl⟩, pk_us]
          · rw [if_neg (fun z => e (y_inj hb.2.2.2.2.2.2.2.1.2.1.1 hs (by rw [z.2]; exact hrj))), pk_un e]
            exact hv i s hs
/-- what a look leaves -/
def y_lk2 (h h' : x_H) (bk : Nat) (rs : List Nat) (X : z_X) (C : Nat → Int32) (R : List (Nat × Nat)) (act : Int32) : Prop := y_lA h h' bk rs act ∧ y_V h' rs (z_V X C R act R.length)
set_option maxHeartbeats 4000000 in
set_option maxRecDepth 100000 in
theorem c_lookAt (G : x_G) {C : Nat → Int32} {h : x_H} {bk : Nat} {rs : List Nat} {R : List (Nat × Nat)} {es : List Nat} {E : List Int32} (hb : y_bk C h bk rs R es E) (hR : ∀ q ∈ R, v_ru C q) {fa : Nat} (hf : f_P h fa) {X : z_X} (hX : f_X h fa X) (hfl : fa + 4 < x_sz h) (h60 : R.length ≤ 60) (day : Int64) {act : Int32} (ha : nI (z_lead E day) - 1 = act) : x_Ex G mX0_lookAt h [x_r (some bk), x_l day, x_r (some fa)] (fun r h' => r = some (x_i (z_ra C R (z_V X C R act R.length) (z_OO X C R act R.length))) ∧ y_lk2 h h' bk rs X C R act) := by
  subst ha
  generalize ha : nI (z_lead E day) - 1 = act
  refine x_enter mwX0_lookAt (Nat.le_of_ble_eq_true rfl) ?_
  show x_E _ _ _ _ _ [(0, x_r (some bk)), (1, x_l day), (3, x_r (some fa))] _ _
  refine x_aload_n (i := 0) (o := some bk) dX0_lookAt_0 rfl rfl ?_
  refine x_aload_n (i := 0) (o := some bk) dX0_lookAt_1 rfl rfl ?_
  refine x_lload_n (i := 1) (x := day) dX0_lookAt_2 rfl rfl ?_
  refine x_callV (a := bk) (av := [x_l day]) (rest := [x_r (some bk)]) (r := (some (x_i act))) (h1 := h) dX0_lookAt_3 sX0_lookAt_56 hb.1.2 rfl rfl (Nat.le_of_ble_eq_true rfl) ⟨Nat.le_refl _, Nat.le_refl _⟩ (by have k := c_actingOn G hb day; rw [ha] at k; exact k) ?_
  show x_E _ _ _ _ 6 _ [x_i act, x_r (some bk)] _
  refine x_putI (i := 106) dX0_lookAt_6 pX0_lookAt_32 rfl rfl hb.1.2 (rfl) (by rfl) ?_
  refine x_aload_n (i := 0) (o := some bk) dX0_lookAt_9 rfl rfl ?_
  refine x_getRv (v := rs[0]?) dX0_lookAt_10 fX0_lookAt_9 (i := 100) rfl rfl hb.1.2 (by rw [x_fr_sI]; exact hb.f0) ?_
  refine x_astore (i := 4) (lv' := [(0, x_r (some bk)), (1, x_l day), (3, x_r (some fa)), (4, x_r (rs[0]?))]) dX0_lookAt_13 (by decide) rfl ?_
  show x_E _ _ _ _ 15 _ _ _
  refine l_look1 G hb day fa act _ _ 0 _ rfl ⟨y_F.rf.I (fun _ => Or.inr ⟨rfl, rfl⟩), rfl, rfl, by rw [x_fi_sI, if_pos ⟨rfl, rfl⟩]⟩ (fun i s hi => by omega) (fun h1 hA1 hV1 => ?_)
  have hb1 : y_bk C h1 bk rs R es E := hb.F hA1.1 (fun f q z => by omega)
  refine x_aload_n (i := 0) (o := some bk) dX0_lookAt_37 rfl rfl ?_
  refine x_getRv (v := rs[0]?) dX0_lookAt_38 fX0_lookAt_9 (i := 100) rfl rfl hb1.1.2 (hb1.f0) ?_
  refine x_astore (i := 4) (lv' := [(0, x_r (some bk)), (1, x_l day), (3, x_r (some fa)), (4, x_r (rs[0]?))]) dX0_lookAt_41 (by decide) rfl ?_
  show x_E _ _ _ _ 43 _ _ _
  refine l_look2 G hb hR hf hX hfl day act _ _ 0 _ rfl (Nat.zero_le _) hA1 hV1 (fun h2 hA2 hV2 => ?_)
  have hb2 : y_bk C h2 bk rs R es E := hb.F hA2.1 (fun f q z => by omega)
  have hO2 := z_oh_V (X := X) (C := C) (R := R) (act := act) R.length (Nat.le_refl _)
  have hon := z_on_OO (X := X) (act := act) hR R.length
  refine x_aload_n (i := 0) (o := some bk) dX0_lookAt_97 rfl rfl ?_
  refine x_iconst (v := 0) dX0_lookAt_98 (by decide) ?_
  rcases hs : z_ops C R (z_V X C R act R.length) (z_OO X C R act R.length) 0 with _ | ⟨i, l⟩
  · skip
    refine x_callV (a := bk) (av := [x_i 0]) (rest := []) (r := (some (x_r none))) (h1 := h2) dX0_lookAt_99 sX0_lookAt_71 hb2.1.2 rfl rfl (Nat.le_of_ble_eq_true rfl) hA2.1.le (by have k := c_openRuleX G hb2 hV2 hO2 0; rw [hs] at k; exact k) ?_
    show x_E _ _ _ _ 102 _ [x_r none] _
    refine x_astore (i := 4) (lv' := [(0, x_r (some bk)), (1, x_l day), (3, x_r (some fa)), (4, x_r none)]) dX0_lookAt_102 (by decide) rfl ?_
    refine x_aload (i := 4) (o := none) dX0_lookAt_104 rfl ?_
    refine x_ifnonnull (o := none) (tgt := 116) dX0_lookAt_106 (by decide) (fun _ c => absurd c (by simp)) (fun _ => ?_)
    refine x_aload_n (i := 0) (o := some bk) dX0_lookAt_109 rfl rfl ?_
    refine x_callV (a := bk) (av := []) (rest := []) (r := (some (x_i (nI (z_OO X C R act R.length).length)))) (h1 := h2) dX0_lookAt_110 sX0_lookAt_75 hb2.1.2 rfl rfl (Nat.le_of_ble_eq_true rfl) hA2.1.le (by have k := c_heldCount G hb2 hV2 hO2; rw [z_hl_len hon] at k; exact k) ?_
    show x_E _ _ _ _ 113 _ [x_i (nI (z_OO X C R act R.length).length)] _
    refine x_goto (tgt := 123) dX0_lookAt_113 (by decide) ?_
    refine x_ireturn dX0_lookAt_123 rfl (rfl) hA2.1.le ?_
    refine ⟨?_, hA2, hV2⟩
    unfold z_ra
    rw [hs]
    rfl
  · skip
    have hi : i ∈ z_ops C R (z_V X C R act R.length) (z_OO X C R act R.length) 0 := by rw [hs]; exact List.mem_cons_self
    obtain ⟨g1, g2, g3⟩ := z_ops_m hi
    have hrl := hb.2.2.2.2.2.2.2.1.1
    obtain ⟨r, hri⟩ : ∃ r, rs[i]? = some r := ⟨_, List.getElem?_eq_getElem (by omega)⟩
    obtain ⟨q, hqi⟩ : ∃ q, R[i]? = some q := ⟨_, List.getElem?_eq_getElem g1⟩
    have hru := hb2.2.2.2.2.2.2.2.1.2.2.2 i r q hri hqi
    refine x_callV (a := bk) (av := [x_i 0]) (rest := []) (r := (some (x_r (some r)))) (h1 := h2) dX0_lookAt_99 sX0_lookAt_71 hb2.1.2 rfl rfl (Nat.le_of_ble_eq_true rfl) hA2.1.le (by have k := c_openRuleX G hb2 hV2 hO2 0; rw [hs, show z_ta (i :: l) 0 0 = some i from if_pos rfl, show (some i).bind (fun i => rs[i]?) = some r from hri] at k; exact k) ?_
    show x_E _ _ _ _ 102 _ [x_r (some r)] _
    refine x_astore (i := 4) (lv' := [(0, x_r (some bk)), (1, x_l day), (3, x_r (some fa)), (4, x_r (some r))]) dX0_lookAt_102 (by decide) rfl ?_
    refine x_aload (i := 4) (o := some r) dX0_lookAt_104 rfl ?_
    refine x_ifnonnull (o := some r) (tgt := 116) dX0_lookAt_106 (by decide) (fun _ _ => ?_) (fun c => absurd c (by simp))
    refine x_iconst (v := (-1)) dX0_lookAt_116 (by decide) ?_
    refine x_aload (i := 4) (o := some r) dX0_lookAt_117 rfl ?_
    refine x_getIv (v := nI i) dX0_lookAt_119 fX0_lookAt_46 (i := 602) rfl rfl hru.1 (hru.2.2.2.1) ?_
    refine x_isub dX0_lookAt_122 ?_
    refine x_ireturn dX0_lookAt_123 rfl (rfl) hA2.1.le ?_
    refine ⟨?_, hA2, hV2⟩
    unfold z_ra
    rw [hs, List.map_cons, show z_kt (nI i :: l.map nI) 0 0 = nI i from if_pos rfl, if_neg (z_neg1 (nI_pos' (by omega)))]
