/-! THE CLASS: Book: isFirstToHold, isFirstToLack -/
def z_fh (C : Nat → Int32) (R : List (Nat × Nat)) (V : Nat → Int32) (j : Nat) : Bool := match R[j]? with
  | some q => V j == -2 && !((List.range j).any (z_so C R V (C (q.1 + 1))))
  | none => false
def z_fl (C : Nat → Int32) (R : List (Nat × Nat)) (V : Nat → Int32) (O : List Int32) (j : Nat) : Bool := z_op C R V O j && !((List.range j).any (fun i => V i == V j && z_op C R V O i))
theorem z_sos_hd {C : Nat → Int32} {R : List (Nat × Nat)} {V : Nat → Int32} {c : Int32} : ∀ (m i : Nat), R.length - i = m → ∀ j l, z_sos C R V c i = j :: l → z_so C R V c j = true ∧ i ≤ j ∧ ∀ k, i ≤ k → k < j → ¬ z_so C R V c k = true := by
  intro m
  induction m with
  | zero =>
    intro i hi j l h
    rw [z_sos_e (by omega)] at h
    cases h
  | succ m ih =>
    intro i hi j l h
    rw [z_sos_s (by omega)] at h
    split at h
    · rename_i h1
      cases h
      exact ⟨h1, Nat.le_refl _, fun k y1 y2 => by omega⟩
    · rename_i h1
      obtain ⟨g1, g2, g3⟩ := ih (i + 1) (by omega) j l h
      refine ⟨g1, by omega, fun k y1 y2 => ?_⟩
      by_cases e : k = i
      · subst e
        exact h1
      · exact g3 k (by omega) y2
theorem z_fh_iff {C : Nat → Int32} {R : List (Nat × Nat)} {V : Nat → Int32} {j : Nat} {q : Nat × Nat} (hq : R[j]? = some q) : z_fh C R V j = true ↔ ∃ l, z_sos C R V (C (q.1 + 1)) 0 = j :: l := by
  have e0 : z_fh C R V j = (V j == -2 && !((List.range j).any (z_so C R V (C (q.1 + 1))))) := by
    unfold z_fh
    rw [hq]
  rw [e0, Bool.and_eq_true, beq_iff_eq, Bool.not_eq_true']
  constructor
  · rintro ⟨h1, h2⟩
    have hj : z_so C R V (C (q.1 + 1)) j = true := (z_so_iff hq).mpr ⟨h1, rfl⟩
    cases hs : z_sos C R V (C (q.1 + 1)) 0 with
    | nil =>
      have := z_sos_mem.mpr ⟨Nat.zero_le j, hj⟩
      rw [hs] at this
      cases this
    | cons i l =>
      obtain ⟨g1, g2, g3⟩ := z_sos_hd _ 0 rfl i l hs
      rcases Nat.lt_trichotomy i j with z | z | z
      · have : (List.range j).any (z_so C R V (C (q.1 + 1))) = true := List.any_eq_true.mpr ⟨i, List.mem_range.mpr z, g1⟩
        rw [this] at h2
        cases h2
      · subst z
        exact ⟨l, rfl⟩
      · exact absurd hj (g3 j (Nat.zero_le _) z)
  · rintro ⟨l, hs⟩
    obtain ⟨g1, g2, g3⟩ := z_sos_hd _ 0 rfl j l hs
    refine ⟨((z_so_iff hq).mp g1).1, ?_⟩
    cases ha : (List.range j).any (z_so C R V (C (q.1 + 1))) with
    | false => rfl
    | true =>
      obtain ⟨k, hk, h2⟩ := List.any_eq_true.mp ha
      exact absurd h2 (g3 k (Nat.zero_le _) (List.mem_range.mp hk))
set_option maxHeartbeats 4000000 in
set_option maxRecDepth 100000 in
theorem c_isFirstHold (G : x_G) {C : Nat → Int32} {h : x_H} {bk : Nat} {rs : List Nat} {R : List (Nat × Nat)} {es : List Nat} {E : List Int32} (hb : y_bk C h bk rs R es E) {V : Nat → Int32} (hV : y_V h rs V) (h60 : R.length ≤ 60) {i ri : Nat} {qi : Nat × Nat} (hri : rs[i]? = some ri) (hqi : R[i]? = some qi) : x_Call G mX0_isFirstToHold h [x_r (some bk), x_r (some ri)] (some (x_i (if z_fh C R V i = true then 1 else 0))) h := by
  have hrui := hb.2.2.2.2.2.2.2.1.2.2.2 i ri qi hri hqi
  have hil := (List.getElem?_eq_some_iff.mp hqi).1
  refine x_Ex.call (x_enter mwX0_isFirstToHold (Nat.le_of_ble_eq_true rfl) ?_)
  show x_E _ _ _ _ _ [(0, x_r (some bk)), (1, x_r (some ri))] _ _
  refine x_aload_n (i := 0) (o := some bk) dX0_isFirstToHold_0 rfl rfl ?_
  refine x_aload_n (i := 1) (o := some ri) dX0_isFirstToHold_1 rfl rfl ?_
  refine x_getIv (v := C (qi.1 + 1)) dX0_isFirstToHold_2 fX0_isFirstToHold_83 (i := 600) rfl rfl hrui.1 (hrui.2.1) ?_
  refine x_iconst (v := 0) dX0_isFirstToHold_5 (by decide) ?_
  rcases hs : z_sos C R V (C (qi.1 + 1)) 0 with _ | ⟨k, l⟩
  · skip
    refine x_callV (a := bk) (av := [x_i (C (qi.1 + 1)), x_i 0]) (rest := []) (r := (some (x_r none))) (h1 := h) dX0_isFirstToHold_6 sX0_isFirstToHold_124 hb.1.2 rfl rfl (Nat.le_of_ble_eq_true rfl) ⟨Nat.le_refl _, Nat.le_refl _⟩ (by have k := c_heldBy G hb hV (C (qi.1 + 1)) 0; rw [hs] at k; exact k) ?_
    show x_E _ _ _ _ 9 _ [x_r none] _
    refine x_astore_n (i := 2) (lv' := [(0, x_r (some bk)), (1, x_r (some ri)), (2, x_r none)]) dX0_isFirstToHold_9 rfl (by decide) rfl ?_
    refine x_aload_n (i := 2) (o := none) dX0_isFirstToHold_10 rfl rfl ?_
    refine x_ifnull (o := none) (tgt := 29) dX0_isFirstToHold_11 (by decide) (fun _ => ?_) (fun _ c => absurd c (by simp))
    refine x_iconst (v := 0) dX0_isFirstToHold_29 (by decide) ?_
    refine x_ireturn dX0_isFirstToHold_30 rfl (rfl) ⟨Nat.le_refl _, Nat.le_refl _⟩ ?_
    exact ⟨by rw [if_neg (fun z => by obtain ⟨l, hl⟩ := (z_fh_iff hqi).mp z; rw [hs] at hl; cases hl)], rfl⟩
  · skip
    have hk : k ∈ z_sos C R V (C (qi.1 + 1)) 0 := by rw [hs]; exact List.mem_cons_self
    have hkl := z_so_lt (z_sos_mem.mp hk).2
    have hrl := hb.2.2.2.2.2.2.2.1.1
    obtain ⟨rk, hrk⟩ : ∃ r, rs[k]? = some r := ⟨_, List.getElem?_eq_getElem (by omega)⟩
    obtain ⟨qk, hqk⟩ : ∃ q, R[k]? = some q := ⟨_, List.getElem?_eq_getElem hkl⟩
    have hruk := hb.2.2.2.2.2.2.2.1.2.2.2 k rk qk hrk hqk
    refine x_callV (a := bk) (av := [x_i (C (qi.1 + 1)), x_i 0]) (rest := []) (r := (some (x_r (some rk)))) (h1 := h) dX0_isFirstToHold_6 sX0_isFirstToHold_124 hb.1.2 rfl rfl (Nat.le_of_ble_eq_true rfl) ⟨Nat.le_refl _, Nat.le_refl _⟩ (by have k9 := c_heldBy G hb hV (C (qi.1 + 1)) 0; rw [hs, show z_ta (k :: l) 0 0 = some k from if_pos rfl, show (some k).bind (fun i => rs[i]?) = some rk from hrk] at k9; exact k9) ?_
    show x_E _ _ _ _ 9 _ [x_r (some rk)] _
    refine x_astore_n (i := 2) (lv' := [(0, x_r (some bk)), (1, x_r (some ri)), (2, x_r (some rk))]) dX0_isFirstToHold_9 rfl (by decide) rfl ?_
    refine x_aload_n (i := 2) (o := some rk) dX0_isFirstToHold_10 rfl rfl ?_
    refine x_ifnull (o := some rk) (tgt := 29) dX0_isFirstToHold_11 (by decide) (fun c => absurd c (by simp)) (fun _ _ => ?_)
    refine x_aload_n (i := 2) (o := some rk) dX0_isFirstToHold_14 rfl rfl ?_
    refine x_getIv (v := nI k) dX0_isFirstToHold_15 fX0_isFirstToHold_46 (i := 602) rfl rfl hruk.1 (hruk.2.2.2.1) ?_
    refine x_aload_n (i := 1) (o := some ri) dX0_isFirstToHold_18 rfl rfl ?_
    refine x_getIv (v := nI i) dX0_isFirstToHold_19 fX0_isFirstToHold_46 (i := 602) rfl rfl hrui.1 (hrui.2.2.2.1) ?_
    refine x_icmp_ne (tgt := 29) dX0_isFirstToHold_22 (by decide) (fun c22 => ?_) (fun c22 => ?_)
    · skip
      refine x_iconst (v := 0) dX0_isFirstToHold_29 (by decide) ?_
      refine x_ireturn dX0_isFirstToHold_30 rfl (rfl) ⟨Nat.le_refl _, Nat.le_refl _⟩ ?_
      exact ⟨by rw [if_neg (fun z => by obtain ⟨l2, hl⟩ := (z_fh_iff hqi).mp z; rw [hs] at hl; cases hl; exact c22 rfl)], rfl⟩
    · skip
      refine x_iconst (v := 1) dX0_isFirstToHold_25 (by decide) ?_
      refine x_goto (tgt := 30) dX0_isFirstToHold_26 (by decide) ?_
      refine x_ireturn dX0_isFirstToHold_30 rfl (rfl) ⟨Nat.le_refl _, Nat.le_refl _⟩ ?_
      have ek : k = i := (nI_eq (by omega) (by omega)).mp c22
      subst ek
      exact ⟨by rw [if_pos ((z_fh_iff hqi).mpr ⟨l, hs⟩)], rfl⟩
set_option maxHeartbeats 4000000 in
set_option maxRecDepth 100000 in
theorem l_isFirstLack (G : x_G) {C : Nat → Int32} {h : x_H} {bk : Nat} {rs : List Nat} {R : List (Nat × Nat)} {es : List Nat} {E : List Int32} (hb : y_bk C h bk rs R es E) {V : Nat → Int32} (hV : y_V h rs V) {O : List Int32} (hO : z_oh C R V O) (h60 : R.length ≤ 60) {i ri : Nat} {qi : Nat × Nat} (hri : rs[i]? = some ri) (hqi : R[i]? = some qi) (Q : Option x_V → x_H → Prop) : ∀ (n j : Nat), rs.length - j = n → Q (some (x_i (if (List.range' j (i - j)).any (fun k => V k == V i && z_op C R V O k) = true then 0 else 1))) h → x_E G mX0_isFirstToLack (x_D G mX0_isFirstToLack h Q) h 15 [(0, x_r (some bk)), (1, x_r (some ri)), (2, x_r (rs[j]?))] [] h := by
  have hrui := hb.2.2.2.2.2.2.2.1.2.2.2 i ri qi hri hqi
  have hil := (List.getElem?_eq_some_iff.mp hqi).1
  intro n
  induction n with
  | zero =>
    intro j hj hQ
    have hn0 : rs[j]? = none := List.getElem?_eq_none (by omega)
    rw [hn0]
    have hjR : R.length ≤ j := by rw [← hb.2.2.2.2.2.2.2.1.1]; omega
    refine x_aload_n (i := 2) (o := none) dX0_isFirstToLack_15 rfl rfl ?_
    refine x_ifnull (o := none) (tgt := 59) dX0_isFirstToLack_16 (by decide) (fun _ => ?_) (fun _ c => absurd c (by simp))
    refine x_iconst (v := 1) dX0_isFirstToLack_59 (by decide) ?_
    refine x_ireturn dX0_isFirstToLack_60 rfl (rfl) ⟨Nat.le_refl _, Nat.le_refl _⟩ ?_
    rw [show i - j = 0 by omega] at hQ
    exact hQ
  | succ n ih =>
    intro j hj hQ
    rcases hb.nx j with ⟨hn0, hd0⟩ | ⟨r, q, hrj, hqj, hru, hnx, hjl⟩
    · have := List.getElem?_eq_none_iff.mp hn0
      omega
    · rw [hrj]
      have hjR : j < R.length := by rw [← hb.2.2.2.2.2.2.2.1.1]; exact hjl
      refine x_aload_n (i := 2) (o := some r) dX0_isFirstToLack_15 rfl rfl ?_
      refine x_ifnull (o := some r) (tgt := 59) dX0_isFirstToLack_16 (by decide) (fun c => absurd c (by simp)) (fun _ _ => ?_)
      refine x_aload_n (i := 2) (o := some r) dX0_isFirstToLack_19 rfl rfl ?_
      refine x_getIv (v := nI j) dX0_isFirstToLack_20 fX0_isFirstToLack_46 (i := 602) rfl rfl hru.1 (hru.2.2.2.1) ?_
      refine x_aload_n (i := 1) (o := some ri) dX0_isFirstToLack_23 rfl rfl ?_
      refine x_getIv (v := nI i) dX0_isFirstToLack_24 fX0_isFirstToLack_46 (i := 602) rfl rfl hrui.1 (hrui.2.2.2.1) ?_
      refine x_icmp_ge (tgt := 59) dX0_isFirstToLack_27 (by decide) (fun c27 => ?_) (fun c27 => ?_)
      · skip
        have q27 := (nI_leI (by omega) (by omega)).mp c27
        refine x_iconst (v := 1) dX0_isFirstToLack_59 (by decide) ?_
        refine x_ireturn dX0_isFirstToLack_60 rfl (rfl) ⟨Nat.le_refl _, Nat.le_refl _⟩ ?_
        rw [show i - j = 0 by omega] at hQ
        exact hQ
      · skip
        have q27 : j < i := Nat.lt_of_not_le fun z => c27 (nI_le z (by omega))
        have hra : List.range' j (i - j) = j :: List.range' (j + 1) (i - (j + 1)) := by
          rw [show i - j = (i - (j + 1)) + 1 by omega, List.range'_succ]
        refine x_aload_n (i := 2) (o := some r) dX0_isFirstToLack_30 rfl rfl ?_
        refine x_getIv (v := V j) dX0_isFirstToLack_31 fX0_isFirstToLack_60 (i := 605) rfl rfl hru.1 (hV j r hrj) ?_
        refine x_aload_n (i := 1) (o := some ri) dX0_isFirstToLack_34 rfl rfl ?_
        refine x_getIv (v := V i) dX0_isFirstToLack_35 fX0_isFirstToLack_60 (i := 605) rfl rfl hrui.1 (hV i ri hri) ?_
        refine x_icmp_ne (tgt := 51) dX0_isFirstToLack_38 (by decide) (fun c38 => ?_) (fun c38 => ?_)
        · skip
          have e1 : (V j == V i && z_op C R V O j) = false := by simp [c38]
          refine x_aload_n (i := 2) (o := some r) dX0_isFirstToLack_51 rfl rfl ?_
          refine x_getRv (v := rs[j + 1]?) dX0_isFirstToLack_52 fX0_isFirstToLack_54 (i := 606) rfl rfl hru.1 (hnx) ?_
          refine x_astore_n (i := 2) (lv' := [(0, x_r (some bk)), (1, x_r (some ri)), (2, x_r (rs[j + 1]?))]) dX0_isFirstToLack_55 rfl (by decide) rfl ?_
          refine x_goto (tgt := 15) dX0_isFirstToLack_56 (by decide) ?_
          show x_E _ _ _ _ 15 _ _ _
          rw [hra, List.any_cons, e1, Bool.false_or] at hQ
          exact ih (j + 1) (by omega) hQ
        · skip
          refine x_aload_n (i := 0) (o := some bk) dX0_isFirstToLack_41 rfl rfl ?_
          refine x_aload_n (i := 2) (o := some r) dX0_isFirstToLack_42 rfl rfl ?_
          by_cases qo : z_op C R V O j = true
          · skip
            have e1 : (V j == V i && z_op C R V O j) = true := by simp [c38, qo]
            refine x_callV (a := bk) (av := [x_r (some r)]) (rest := []) (r := (some (x_i 1))) (h1 := h) dX0_isFirstToLack_43 sX0_isFirstToLack_128 hb.1.2 rfl rfl (Nat.le_of_ble_eq_true rfl) ⟨Nat.le_refl _, Nat.le_refl _⟩ (by have k := c_isOpenX G hb hV hO hrj hqj; rw [if_pos qo] at k; exact k) ?_
            show x_E _ _ _ _ 46 _ [x_i 1] _
            refine x_if_eq (tgt := 51) dX0_isFirstToLack_46 (by decide) (fun c => absurd c (by decide)) (fun _ => ?_)
            refine x_iconst (v := 0) dX0_isFirstToLack_49 (by decide) ?_
            refine x_ireturn dX0_isFirstToLack_50 rfl (rfl) ⟨Nat.le_refl _, Nat.le_refl _⟩ ?_
            rw [hra, List.any_cons, e1, Bool.true_or] at hQ
            exact hQ
          · skip
            have e1 : (V j == V i && z_op C R V O j) = false := by simp [qo]
            refine x_callV (a := bk) (av := [x_r (some r)]) (rest := []) (r := (some (x_i 0))) (h1 := h) dX0_isFirstToLack_43 sX0_isFirstToLack_128 hb.1.2 rfl rfl (Nat.le_of_ble_eq_true rfl) ⟨Nat.le_refl _, Nat.le_refl _⟩ (by have k := c_isOpenX G hb hV hO hrj hqj; rw [if_neg qo] at k; exact k) ?_
            show x_E _ _ _ _ 46 _ [x_i 0] _
            refine x_if_eq (tgt := 51) dX0_isFirstToLack_46 (by decide) (fun _ => ?_) (fun c => absurd (by decide) c)
            refine x_aload_n (i := 2) (o := some r) dX0_isFirstToLack_51 rfl rfl ?_
            refine x_getRv (v := rs[j + 1]?) dX0_isFirstToLack_52 fX0_isFirstToLack_54 (i := 606) rfl rfl hru.1 (hnx) ?_
            refine x_astore_n (i := 2) (lv' := [(0, x_r (some bk)), (1, x_r (some ri)), (2, x_r (rs[j + 1]?))]) dX0_isFirstToLack_55 rfl (by decide) rfl ?_
            refine x_goto (tgt := 15) dX0_isFirstToLack_56 (by decide) ?_
            show x_E _ _ _ _ 15 _ _ _
            rw [hra, List.any_cons, e1, Bool.false_or] at hQ
            exact ih (j + 1) (by omega) hQ
set_option maxHeartbeats 4000000 in
set_option maxRecDepth 100000 in
theorem c_isFirstLack (G : x_G) {C : Nat → Int32} {h : x_H} {bk : Nat} {rs : List Nat} {R : List (Nat × Nat)} {es : List Nat} {E : List Int32} (hb : y_bk C h bk rs R es E) {V : Nat → Int32} (hV : y_V h rs V) {O : List Int32} (hO : z_oh C R V O) (h60 : R.length ≤ 60) {i ri : Nat} {qi : Nat × Nat} (hri : rs[i]? = some ri) (hqi : R[i]? = some qi) : x_Call G mX0_isFirstToLack h [x_r (some bk), x_r (some ri)] (some (x_i (if z_fl C R V O i = true then 1 else 0))) h := by
  have hrui := hb.2.2.2.2.2.2.2.1.2.2.2 i ri qi hri hqi
  refine x_Ex.call (x_enter mwX0_isFirstToLack (Nat.le_of_ble_eq_true rfl) ?_)
  show x_E _ _ _ _ _ [(0, x_r (some bk)), (1, x_r (some ri))] _ _
  refine x_aload_n (i := 0) (o := some bk) dX0_isFirstToLack_0 rfl rfl ?_
  refine x_aload_n (i := 1) (o := some ri) dX0_isFirstToLack_1 rfl rfl ?_
  by_cases qo : z_op C R V O i = true
  · skip
    refine x_callV (a := bk) (av := [x_r (some ri)]) (rest := []) (r := (some (x_i 1))) (h1 := h) dX0_isFirstToLack_2 sX0_isFirstToLack_128 hb.1.2 rfl rfl (Nat.le_of_ble_eq_true rfl) ⟨Nat.le_refl _, Nat.le_refl _⟩ (by have k := c_isOpenX G hb hV hO hri hqi; rw [if_pos qo] at k; exact k) ?_
    show x_E _ _ _ _ 5 _ [x_i 1] _
    refine x_if_ne (tgt := 10) dX0_isFirstToLack_5 (by decide) (fun _ => ?_) (fun c => absurd c (by decide))
    refine x_aload_n (i := 0) (o := some bk) dX0_isFirstToLack_10 rfl rfl ?_
    refine x_getRv (v := rs[0]?) dX0_isFirstToLack_11 fX0_isFirstToLack_9 (i := 100) rfl rfl hb.1.2 (hb.f0) ?_
    refine x_astore_n (i := 2) (lv' := [(0, x_r (some bk)), (1, x_r (some ri)), (2, x_r (rs[0]?))]) dX0_isFirstToLack_14 rfl (by decide) rfl ?_
    show x_E _ _ _ _ 15 _ _ _
    refine l_isFirstLack G hb hV hO h60 hri hqi _ _ 0 rfl ⟨?_, rfl⟩
    rw [Nat.sub_zero, ← List.range_eq_range']
    unfold z_fl
    rw [qo, Bool.true_and]
    cases (List.range i).any (fun k => V k == V i && z_op C R V O k) <;> rfl
  · skip
    refine x_callV (a := bk) (av := [x_r (some ri)]) (rest := []) (r := (some (x_i 0))) (h1 := h) dX0_isFirstToLack_2 sX0_isFirstToLack_128 hb.1.2 rfl rfl (Nat.le_of_ble_eq_true rfl) ⟨Nat.le_refl _, Nat.le_refl _⟩ (by have k := c_isOpenX G hb hV hO hri hqi; rw [if_neg qo] at k; exact k) ?_
    show x_E _ _ _ _ 5 _ [x_i 0] _
    refine x_if_ne (tgt := 10) dX0_isFirstToLack_5 (by decide) (fun c => absurd c (by decide)) (fun _ => ?_)
    refine x_iconst (v := 0) dX0_isFirstToLack_8 (by decide) ?_
    refine x_ireturn dX0_isFirstToLack_9 rfl (rfl) ⟨Nat.le_refl _, Nat.le_refl _⟩ ?_
    exact ⟨by rw [if_neg (by unfold z_fl; simp [qo])], rfl⟩
/-! the orders are the same -/
def z_fhs (C : Nat → Int32) (R : List (Nat × Nat)) (V : Nat → Int32) (i : Nat) : List Nat := (List.range' i (R.length - i)).filter (z_fh C R V)
def z_fls (C : Nat → Int32) (R : List (Nat × Nat)) (V : Nat → Int32) (O : List Int32) (i : Nat) : List Nat := (List.range' i (R.length - i)).filter (z_fl C R V O)
def z_cl' (C : Nat → Int32) (R : List (Nat × Nat)) (j : Nat) : Int32 := match R[j]? with
  | some q => C (q.1 + 1)
  | none => -1
theorem z_fhs_s {C : Nat → Int32} {R : List (Nat × Nat)} {V : Nat → Int32} {i : Nat} (h : i < R.length) : z_fhs C R V i = if z_fh C R V i = true then i :: z_fhs C R V (i + 1) else z_fhs C R V (i + 1) := by
  unfold z_fhs
  rw [show R.length - i = (R.length - (i + 1)) + 1 by omega, List.range'_succ, List.filter_cons]
theorem z_fhs_e {C : Nat → Int32} {R : List (Nat × Nat)} {V : Nat → Int32} {i : Nat} (h : R.length ≤ i) : z_fhs C R V i = [] := by
  unfold z_fhs
  rw [show R.length - i = 0 by omega]
  rfl
theorem z_fls_s {C : Nat → Int32} {R : List (Nat × Nat)} {V : Nat → Int32} {O : List Int32} {i : Nat} (h : i < R.length) : z_fls C R V O i = if z_fl C R V O i = true then i :: z_fls C R V O (i + 1) else z_fls C R V O (i + 1) := by
  unfold z_fls
  rw [show R.length - i = (R.length - (i + 1)) + 1 by omega, List.range'_succ, List.filter_cons]
theorem z_fls_e {C : Nat → Int32} {R : List (Nat × Nat)} {V : Nat → Int32} {O : List Int32} {i : Nat} (h : R.length ≤ i) : z_fls C R V O i = [] := by
  unfold z_fls
  rw [show R.length - i = 0 by omega]
  rfl
theorem z_dd_eq {C : Nat → Int32} {R : List (Nat × Nat)} {V : Nat → Int32} {O : List Int32} : ∀ (m i : Nat), R.length - i = m → i ≤ R.length → z_dd (((List.range i).filter (z_op C R V O)).map V) ((z_ops C R V O i).map V) = (z_fls C R V O i).map V := by
  intro m
  induction m with
  | zero =>
    intro i hi _
    rw [z_ops_e (by omega), z_fls_e (by omega)]
    rfl
  | succ m ih =>
    intro i hi hl
    have ih2 := ih (i + 1) (by omega) (by omega)
    rw [List.range_succ, List.filter_append, List.map_append] at ih2
    rw [z_ops_s (by omega), z_fls_s (by omega)]
    by_cases ho : z_op C R V O i = true
    · rw [if_pos ho, List.map_cons]
      rw [show List.filter (z_op C R V O) [i] = [i] from by simp [ho]] at ih2
      have hmem : V i ∈ ((List.range i).filter (z_op C R V O)).map V ↔ (List.range i).any (fun k => V k == V i && z_op C R V O k) = true := by
        rw [List.mem_map, List.any_eq_true]
        constructor
        · rintro ⟨k, hk, e⟩
          have := List.mem_filter.mp hk
          exact ⟨k, this.1, by simp [e, this.2]⟩
        · rintro ⟨k, hk, e⟩
          simp at e
          exact ⟨k, List.mem_filter.mpr ⟨hk, e.2⟩, e.1⟩
      by_cases hin : V i ∈ ((List.range i).filter (z_op C R V O)).map V
      · have hf : ¬ z_fl C R V O i = true := by
          unfold z_fl
          rw [hmem.mp hin]
          simp
        rw [if_neg hf, ← ih2]
        exact if_pos hin
      · have hf : z_fl C R V O i = true := by
          unfold z_fl
          rw [ho, Bool.true_and]
          cases ha : (List.range i).any (fun k => V k == V i && z_op C R V O k) with
          | false => rfl
          | true => exact absurd (hmem.mpr ha) hin
        rw [if_pos hf, List.map_cons, ← ih2]
        exact if_neg hin
    · have hf : ¬ z_fl C R V O i = true := by
        unfold z_fl
        simp [ho]
      rw [if_neg ho, if_neg hf]
      rw [show List.filter (z_op C R V O) [i] = [] from by simp [ho], List.map_nil, List.append_nil] at ih2
      exact ih2
theorem z_V_fin {X : z_X} {C : Nat → Int32} {R : List (Nat × Nat)} {act : Int32} : ∀ (m k : Nat), k + m ≤ R.length → ∀ j, j < k → z_V X C R act (k + m) j = z_V X C R act k j
  | 0, k, _, j, _ => rfl
  | m + 1, k, h, j, hj => by
    rw [show k + (m + 1) = k + m + 1 by omega]
    obtain ⟨q, hq⟩ : ∃ q, R[k + m]? = some q := ⟨_, List.getElem?_eq_getElem (by omega)⟩
    by_cases ha : nI q.2 = act
    · rw [z_V_s1 hq ha, pk_un (by omega)]
      exact z_V_fin m k (by omega) j hj
    · rw [z_V_s0 hq ha]
      exact z_V_fin m k (by omega) j hj
/-- the classes in the order in which they came to hold -/
theorem z_OO_eq {X : z_X} {C : Nat → Int32} {R : List (Nat × Nat)} {act : Int32} : ∀ (k : Nat), k ≤ R.length → z_OO X C R act k = ((List.range k).filter (z_fh C R (z_V X C R act R.length))).map (z_cl' C R)
  | 0, _ => rfl
  | k + 1, hk => by
    have ih := z_OO_eq (X := X) (C := C) (R := R) (act := act) k (by omega)
    have hoh := z_oh_V (X := X) (C := C) (R := R) (act := act) k (by omega)
    obtain ⟨q, hq⟩ : ∃ q, R[k]? = some q := ⟨_, List.getElem?_eq_getElem (by omega)⟩
    have ec : z_cl' C R k = C (q.1 + 1) := by unfold z_cl'; rw [hq]
    have hfin : z_V X C R act R.length k = z_V X C R act (k + 1) k := by
      have := z_V_fin (X := X) (C := C) (R := R) (act := act) (R.length - (k + 1)) (k + 1) (by omega) k (by omega)
      rw [show k + 1 + (R.length - (k + 1)) = R.length by omega] at this
      exact this
    have hfin2 : ∀ j, j < k → z_V X C R act R.length j = z_V X C R act k j := by
      intro j hj
      have := z_V_fin (X := X) (C := C) (R := R) (act := act) (R.length - k) k (by omega) j hj
      rw [show k + (R.length - k) = R.length by omega] at this
      exact this
    have hany : (List.range k).any (z_so C R (z_V X C R act R.length) (C (q.1 + 1))) = true ↔ C (q.1 + 1) ∈ z_OO X C R act k := by
      rw [hoh, List.any_eq_true]
      constructor
      · rintro ⟨j, hj, h2⟩
        obtain ⟨s, hs⟩ : ∃ s, R[j]? = some s := ⟨_, List.getElem?_eq_getElem (z_so_lt h2)⟩
        have h3 := (z_so_iff hs).mp h2
        rw [hfin2 j (List.mem_range.mp hj)] at h3
        exact ⟨j, (z_so_iff hs).mpr h3⟩
      · rintro ⟨j, h2⟩
        obtain ⟨s, hs⟩ : ∃ s, R[j]? = some s := ⟨_, List.getElem?_eq_getElem (z_so_lt h2)⟩
        have h3 := (z_so_iff hs).mp h2
        have hjk := (z_V_un k j (by rw [h3.1]; decide)).1
        refine ⟨j, List.mem_range.mpr hjk, (z_so_iff hs).mpr ?_⟩
        rw [hfin2 j hjk]
        exact h3
    have e0 : z_fh C R (z_V X C R act R.length) k = (z_V X C R act R.length k == -2 && !((List.range k).any (z_so C R (z_V X C R act R.length) (C (q.1 + 1))))) := by
      unfold z_fh
      rw [hq]
    rw [List.range_succ, List.filter_append, List.map_append, ← ih]
    by_cases ha : nI q.2 = act
    · rw [z_OO_s1 hq ha]
      have hw : z_V X C R act R.length k = z_jd X C R (z_V X C R act k) k q := by rw [hfin, z_V_s1 hq ha, pk_us]
      unfold z_oa
      by_cases h1 : z_jd X C R (z_V X C R act k) k q = -2 ∧ ¬ C (q.1 + 1) ∈ z_OO X C R act k
      · rw [if_pos h1]
        have : z_fh C R (z_V X C R act R.length) k = true := by
          rw [e0, hw, h1.1]
          cases hb : (List.range k).any (z_so C R (z_V X C R act R.length) (C (q.1 + 1))) with
          | false => rfl
          | true => exact absurd (hany.mp hb) h1.2
        rw [show List.filter (z_fh C R (z_V X C R act R.length)) [k] = [k] from by simp [this]]
        simp [ec]
      · rw [if_neg h1]
        have : ¬ z_fh C R (z_V X C R act R.length) k = true := by
          rw [e0, hw]
          intro z
          rw [Bool.and_eq_true, beq_iff_eq, Bool.not_eq_true'] at z
          exact h1 ⟨z.1, fun y => by rw [hany.mpr y] at z; cases z.2⟩
        rw [show List.filter (z_fh C R (z_V X C R act R.length)) [k] = [] from by simp [this]]
        simp
    · rw [z_OO_s0 hq ha]
      have hw : z_V X C R act R.length k = -5 := by rw [hfin, z_V_s0 hq ha, z_V_k (Nat.le_refl k)]
      have : ¬ z_fh C R (z_V X C R act R.length) k = true := by
        rw [e0, hw]
        simp
      rw [show List.filter (z_fh C R (z_V X C R act R.length)) [k] = [] from by simp [this]]
      simp
