/-! THE CLASS: Book: what was found -/
def y_V (h : x_H) (rs : List Nat) (V : Nat → Int32) : Prop := ∀ (j r : Nat), rs[j]? = some r → x_fi h 605 r = V j
/-- the classes that hold -/
def z_oh (C : Nat → Int32) (R : List (Nat × Nat)) (V : Nat → Int32) (O : List Int32) : Prop := ∀ c, c ∈ O ↔ ∃ j, z_so C R V c j = true
theorem y_bk.nx {C : Nat → Int32} {h : x_H} {bk : Nat} {rs : List Nat} {R : List (Nat × Nat)} {es : List Nat} {E : List Int32} (hb : y_bk C h bk rs R es E) (j : Nat) : (rs[j]? = none ∧ R[j]? = none) ∨ ∃ r q, rs[j]? = some r ∧ R[j]? = some q ∧ y_ru C h r q j ∧ x_fr h 606 r = rs[j + 1]? ∧ j < rs.length := by
  obtain ⟨k1, k2, k3, k4⟩ := hb.2.2.2.2.2.2.2.1
  rcases Nat.lt_or_ge j rs.length with hl | hl
  · obtain ⟨r, hr⟩ : ∃ r, rs[j]? = some r := ⟨_, List.getElem?_eq_getElem hl⟩
    obtain ⟨q, hq⟩ : ∃ q, R[j]? = some q := ⟨_, List.getElem?_eq_getElem (by omega)⟩
    exact Or.inr ⟨r, q, hr, hq, k4 j r q hr hq, k3 j r hr, hl⟩
  · exact Or.inl ⟨List.getElem?_eq_none hl, List.getElem?_eq_none (by omega)⟩
theorem y_bk.f0 {C : Nat → Int32} {h : x_H} {bk : Nat} {rs : List Nat} {R : List (Nat × Nat)} {es : List Nat} {E : List Int32} (hb : y_bk C h bk rs R es E) : x_fr h 100 bk = rs[0]? := by
  rw [hb.2.1, List.head?_eq_getElem?]
theorem z_so_lt {C : Nat → Int32} {R : List (Nat × Nat)} {V : Nat → Int32} {c : Int32} {j : Nat} (h : z_so C R V c j = true) : j < R.length := by
  unfold z_so at h
  cases hq : R[j]? with
  | none => rw [hq] at h; cases h
  | some q => exact (List.getElem?_eq_some_iff.mp hq).1
theorem z_so_iff {C : Nat → Int32} {R : List (Nat × Nat)} {V : Nat → Int32} {c : Int32} {j : Nat} {q : Nat × Nat} (hq : R[j]? = some q) : z_so C R V c j = true ↔ V j = -2 ∧ C (q.1 + 1) = c := by
  unfold z_so
  rw [hq]
  simp
theorem z_sos_mem {C : Nat → Int32} {R : List (Nat × Nat)} {V : Nat → Int32} {c : Int32} {i j : Nat} : j ∈ z_sos C R V c i ↔ i ≤ j ∧ z_so C R V c j = true := by
  unfold z_sos
  rw [List.mem_filter, List.mem_range'_1]
  constructor
  · rintro ⟨⟨h1, h2⟩, h3⟩
    exact ⟨h1, h3⟩
  · rintro ⟨h1, h2⟩
    have := z_so_lt h2
    exact ⟨⟨h1, by omega⟩, h2⟩
theorem z_oh.nil {C : Nat → Int32} {R : List (Nat × Nat)} {V : Nat → Int32} {O : List Int32} (hO : z_oh C R V O) (c : Int32) : z_sos C R V c 0 = [] ↔ ¬ c ∈ O := by
  rw [hO c]
  constructor
  · intro z hj
    obtain ⟨j, hj⟩ := hj
    have := z_sos_mem.mpr ⟨Nat.zero_le j, hj⟩
    rw [z] at this
    cases this
  · intro z
    cases hs : z_sos C R V c 0 with
    | nil => rfl
    | cons j l =>
      have : j ∈ z_sos C R V c 0 := by rw [hs]; exact List.mem_cons_self
      exact absurd ⟨j, (z_sos_mem.mp this).2⟩ z
set_option maxHeartbeats 4000000 in
set_option maxRecDepth 100000 in
theorem l_heldBy (G : x_G) {C : Nat → Int32} {h : x_H} {bk : Nat} {rs : List Nat} {R : List (Nat × Nat)} {es : List Nat} {E : List Int32} (hb : y_bk C h bk rs R es E) {V : Nat → Int32} (hV : y_V h rs V) (c kk : Int32) (Q : Option x_V → x_H → Prop) : ∀ (n j s : Nat), rs.length - j = n → Q (some (x_r ((z_ta (z_sos C R V c j) s kk).bind (fun i => rs[i]?)))) h → x_E G mX0_heldBy (x_D G mX0_heldBy h Q) h 8 [(0, x_r (some bk)), (1, x_i c), (2, x_i kk), (3, x_i (nI s)), (4, x_r (rs[j]?))] [] h := by
  intro n
  induction n with
  | zero =>
    intro j s hj hQ
    have hn0 : rs[j]? = none := List.getElem?_eq_none (by omega)
    rw [hn0]
    have hjR : R.length ≤ j := by rw [← hb.2.2.2.2.2.2.2.1.1]; omega
    refine x_aload (i := 4) (o := none) dX0_heldBy_8 rfl ?_
    refine x_ifnull (o := none) (tgt := 53) dX0_heldBy_10 (by decide) (fun _ => ?_) (fun _ c => absurd c (by simp))
    refine x_null dX0_heldBy_53 ?_
    refine x_areturn dX0_heldBy_54 rfl ⟨Nat.le_refl _, Nat.le_refl _⟩ ?_
    rw [z_sos_e hjR] at hQ
    exact hQ
  | succ n ih =>
    intro j s hj hQ
    rcases hb.nx j with ⟨hn0, hd0⟩ | ⟨r, q, hrj, hqj, hru, hnx, hjl⟩
    · have := List.getElem?_eq_none_iff.mp hn0
      omega
    · rw [hrj]
      have hjR : j < R.length := by rw [← hb.2.2.2.2.2.2.2.1.1]; exact hjl
      refine x_aload (i := 4) (o := some r) dX0_heldBy_8 rfl ?_
      refine x_ifnull (o := some r) (tgt := 53) dX0_heldBy_10 (by decide) (fun c => absurd c (by simp)) (fun _ _ => ?_)
      refine x_aload (i := 4) (o := some r) dX0_heldBy_13 rfl ?_
      refine x_getIv (v := C (q.1 + 1)) dX0_heldBy_15 fX0_heldBy_83 (i := 600) rfl rfl hru.1 (hru.2.1) ?_
      refine x_iload_n (i := 1) (x := c) dX0_heldBy_18 rfl rfl ?_
      refine x_icmp_ne (tgt := 43) dX0_heldBy_19 (by decide) (fun c19 => ?_) (fun c19 => ?_)
      · skip
        have e1 : ¬ z_so C R V c j = true := fun z => c19 ((z_so_iff hqj).mp z).2
        refine x_aload (i := 4) (o := some r) dX0_heldBy_43 rfl ?_
        refine x_getRv (v := rs[j + 1]?) dX0_heldBy_45 fX0_heldBy_54 (i := 606) rfl rfl hru.1 (hnx) ?_
        refine x_astore (i := 4) (lv' := [(0, x_r (some bk)), (1, x_i c), (2, x_i kk), (3, x_i (nI s)), (4, x_r (rs[j + 1]?))]) dX0_heldBy_48 (by decide) rfl ?_
        refine x_goto (tgt := 8) dX0_heldBy_50 (by decide) ?_
        show x_E _ _ _ _ 8 _ _ _
        rw [z_sos_s hjR, if_neg e1] at hQ
        exact ih (j + 1) s (by omega) hQ
      · skip
        refine x_aload (i := 4) (o := some r) dX0_heldBy_22 rfl ?_
        refine x_getIv (v := V j) dX0_heldBy_24 fX0_heldBy_60 (i := 605) rfl rfl hru.1 (hV j r hrj) ?_
        refine x_bipush (v := (-2)) dX0_heldBy_27 (by decide) ?_
        refine x_icmp_ne (tgt := 43) dX0_heldBy_29 (by decide) (fun c29 => ?_) (fun c29 => ?_)
        · skip
          have e1 : ¬ z_so C R V c j = true := fun z => c29 ((z_so_iff hqj).mp z).1
          refine x_aload (i := 4) (o := some r) dX0_heldBy_43 rfl ?_
          refine x_getRv (v := rs[j + 1]?) dX0_heldBy_45 fX0_heldBy_54 (i := 606) rfl rfl hru.1 (hnx) ?_
          refine x_astore (i := 4) (lv' := [(0, x_r (some bk)), (1, x_i c), (2, x_i kk), (3, x_i (nI s)), (4, x_r (rs[j + 1]?))]) dX0_heldBy_48 (by decide) rfl ?_
          refine x_goto (tgt := 8) dX0_heldBy_50 (by decide) ?_
          show x_E _ _ _ _ 8 _ _ _
          rw [z_sos_s hjR, if_neg e1] at hQ
          exact ih (j + 1) s (by omega) hQ
        · skip
          have e1 : z_so C R V c j = true := (z_so_iff hqj).mpr ⟨c29, c19⟩
          refine x_iload_n (i := 3) (x := nI s) dX0_heldBy_32 rfl rfl ?_
          refine x_iload_n (i := 2) (x := kk) dX0_heldBy_33 rfl rfl ?_
          refine x_icmp_ne (tgt := 40) dX0_heldBy_34 (by decide) (fun c34 => ?_) (fun c34 => ?_)
          · skip
            refine x_iinc (i := 3) (x := nI s) (v := nI (s + 1)) (lv' := [(0, x_r (some bk)), (1, x_i c), (2, x_i kk), (3, x_i (nI (s + 1))), (4, x_r (some r))]) dX0_heldBy_40 rfl (nI_1 s) (by decide) rfl ?_
            refine x_aload (i := 4) (o := some r) dX0_heldBy_43 rfl ?_
            refine x_getRv (v := rs[j + 1]?) dX0_heldBy_45 fX0_heldBy_54 (i := 606) rfl rfl hru.1 (hnx) ?_
            refine x_astore (i := 4) (lv' := [(0, x_r (some bk)), (1, x_i c), (2, x_i kk), (3, x_i (nI (s + 1))), (4, x_r (rs[j + 1]?))]) dX0_heldBy_48 (by decide) rfl ?_
            refine x_goto (tgt := 8) dX0_heldBy_50 (by decide) ?_
            show x_E _ _ _ _ 8 _ _ _
            rw [z_sos_s hjR, if_pos e1, show z_ta (j :: z_sos C R V c (j + 1)) s kk = z_ta (z_sos C R V c (j + 1)) (s + 1) kk from if_neg c34] at hQ
            exact ih (j + 1) (s + 1) (by omega) hQ
          · skip
            refine x_aload (i := 4) (o := some r) dX0_heldBy_37 rfl ?_
            refine x_areturn dX0_heldBy_39 rfl ⟨Nat.le_refl _, Nat.le_refl _⟩ ?_
            rw [z_sos_s hjR, if_pos e1, show z_ta (j :: z_sos C R V c (j + 1)) s kk = some j from if_pos c34] at hQ
            rw [show (some j).bind (fun i => rs[i]?) = some r from hrj] at hQ
            exact hQ
set_option maxHeartbeats 4000000 in
set_option maxRecDepth 100000 in
theorem c_heldBy (G : x_G) {C : Nat → Int32} {h : x_H} {bk : Nat} {rs : List Nat} {R : List (Nat × Nat)} {es : List Nat} {E : List Int32} (hb : y_bk C h bk rs R es E) {V : Nat → Int32} (hV : y_V h rs V) (c kk : Int32) : x_Call G mX0_heldBy h [x_r (some bk), x_i c, x_i kk] (some (x_r ((z_ta (z_sos C R V c 0) 0 kk).bind (fun i => rs[i]?)))) h := by
  refine x_Ex.call (x_enter mwX0_heldBy (Nat.le_of_ble_eq_true rfl) ?_)
  show x_E _ _ _ _ _ [(0, x_r (some bk)), (1, x_i c), (2, x_i kk)] _ _
  refine x_iconst (v := 0) dX0_heldBy_0 (by decide) ?_
  refine x_istore_n (i := 3) (lv' := [(0, x_r (some bk)), (1, x_i c), (2, x_i kk), (3, x_i 0)]) dX0_heldBy_1 rfl (by decide) rfl ?_
  refine x_aload_n (i := 0) (o := some bk) dX0_heldBy_2 rfl rfl ?_
  refine x_getRv (v := rs[0]?) dX0_heldBy_3 fX0_heldBy_9 (i := 100) rfl rfl hb.1.2 (hb.f0) ?_
  refine x_astore (i := 4) (lv' := [(0, x_r (some bk)), (1, x_i c), (2, x_i kk), (3, x_i 0), (4, x_r (rs[0]?))]) dX0_heldBy_6 (by decide) rfl ?_
  show x_E _ _ _ _ 8 _ _ _
  exact l_heldBy G hb hV c kk _ _ 0 0 rfl ⟨rfl, rfl⟩
set_option maxHeartbeats 4000000 in
set_option maxRecDepth 100000 in
theorem c_isHeld (G : x_G) {C : Nat → Int32} {h : x_H} {bk : Nat} {rs : List Nat} {R : List (Nat × Nat)} {es : List Nat} {E : List Int32} (hb : y_bk C h bk rs R es E) {V : Nat → Int32} (hV : y_V h rs V) {O : List Int32} (hO : z_oh C R V O) (c : Int32) : x_Call G mX0_isHeld h [x_r (some bk), x_i c] (some (x_i (if c ∈ O then 1 else 0))) h := by
  refine x_Ex.call (x_enter mwX0_isHeld (Nat.le_of_ble_eq_true rfl) ?_)
  show x_E _ _ _ _ _ [(0, x_r (some bk)), (1, x_i c)] _ _
  refine x_aload_n (i := 0) (o := some bk) dX0_isHeld_0 rfl rfl ?_
  refine x_iload_n (i := 1) (x := c) dX0_isHeld_1 rfl rfl ?_
  refine x_iconst (v := 0) dX0_isHeld_2 (by decide) ?_
  by_cases hm : c ∈ O
  · skip
    obtain ⟨i, l, hs⟩ : ∃ i l, z_sos C R V c 0 = i :: l := by
      cases hs : z_sos C R V c 0 with
      | nil => exact absurd hm ((hO.nil c).mp hs)
      | cons i l => exact ⟨i, l, rfl⟩
    have hi : i ∈ z_sos C R V c 0 := by rw [hs]; exact List.mem_cons_self
    have hil := z_so_lt (z_sos_mem.mp hi).2
    obtain ⟨r, hri⟩ : ∃ r, rs[i]? = some r := ⟨_, List.getElem?_eq_getElem (by rw [hb.2.2.2.2.2.2.2.1.1]; exact hil)⟩
    refine x_callV (a := bk) (av := [x_i c, x_i 0]) (rest := []) (r := (some (x_r (some r)))) (h1 := h) dX0_isHeld_3 sX0_isHeld_124 hb.1.2 rfl rfl (Nat.le_of_ble_eq_true rfl) ⟨Nat.le_refl _, Nat.le_refl _⟩ (by have k := c_heldBy G hb hV c 0; rw [hs, show z_ta (i :: l) 0 0 = some i from if_pos rfl, show (some i).bind (fun i => rs[i]?) = some r from hri] at k; exact k) ?_
    show x_E _ _ _ _ 6 _ [x_r (some r)] _
    refine x_ifnull (o := some r) (tgt := 13) dX0_isHeld_6 (by decide) (fun c => absurd c (by simp)) (fun _ _ => ?_)
    refine x_iconst (v := 1) dX0_isHeld_9 (by decide) ?_
    refine x_goto (tgt := 14) dX0_isHeld_10 (by decide) ?_
    refine x_ireturn dX0_isHeld_14 rfl (rfl) ⟨Nat.le_refl _, Nat.le_refl _⟩ ?_
    exact ⟨by rw [if_pos hm], rfl⟩
  · skip
    refine x_callV (a := bk) (av := [x_i c, x_i 0]) (rest := []) (r := (some (x_r none))) (h1 := h) dX0_isHeld_3 sX0_isHeld_124 hb.1.2 rfl rfl (Nat.le_of_ble_eq_true rfl) ⟨Nat.le_refl _, Nat.le_refl _⟩ (by have k := c_heldBy G hb hV c 0; rw [(hO.nil c).mpr hm] at k; exact k) ?_
    show x_E _ _ _ _ 6 _ [x_r none] _
    refine x_ifnull (o := none) (tgt := 13) dX0_isHeld_6 (by decide) (fun _ => ?_) (fun _ c => absurd c (by simp))
    refine x_iconst (v := 0) dX0_isHeld_13 (by decide) ?_
    refine x_ireturn dX0_isHeld_14 rfl (rfl) ⟨Nat.le_refl _, Nat.le_refl _⟩ ?_
    exact ⟨by rw [if_neg hm], rfl⟩
theorem z_op_iff {C : Nat → Int32} {R : List (Nat × Nat)} {V : Nat → Int32} {O : List Int32} {j : Nat} {q : Nat × Nat} (hq : R[j]? = some q) : z_op C R V O j = true ↔ 0 ≤ V j ∧ ¬ C (q.1 + 1) ∈ O := by
  unfold z_op
  rw [hq]
  simp
set_option maxHeartbeats 4000000 in
set_option maxRecDepth 100000 in
theorem c_isOpenX (G : x_G) {C : Nat → Int32} {h : x_H} {bk : Nat} {rs : List Nat} {R : List (Nat × Nat)} {es : List Nat} {E : List Int32} (hb : y_bk C h bk rs R es E) {V : Nat → Int32} (hV : y_V h rs V) {O : List Int32} (hO : z_oh C R V O) {j r : Nat} {q : Nat × Nat} (hrj : rs[j]? = some r) (hqj : R[j]? = some q) : x_Call G mX0_isOpen h [x_r (some bk), x_r (some r)] (some (x_i (if z_op C R V O j = true then 1 else 0))) h := by
  have hru := hb.2.2.2.2.2.2.2.1.2.2.2 j r q hrj hqj
  refine x_Ex.call (x_enter mwX0_isOpen (Nat.le_of_ble_eq_true rfl) ?_)
  show x_E _ _ _ _ _ [(0, x_r (some bk)), (1, x_r (some r))] _ _
  refine x_aload_n (i := 1) (o := some r) dX0_isOpen_0 rfl rfl ?_
  refine x_getIv (v := V j) dX0_isOpen_1 fX0_isOpen_60 (i := 605) rfl rfl hru.1 (hV j r hrj) ?_
  refine x_if_lt (tgt := 22) dX0_isOpen_4 (by decide) (fun c4 => ?_) (fun c4 => ?_)
  · skip
    have e1 : ¬ z_op C R V O j = true := fun z => by have := ((z_op_iff hqj).mp z).1; exact absurd this (Int32.not_le.mpr c4)
    refine x_iconst (v := 0) dX0_isOpen_22 (by decide) ?_
    refine x_ireturn dX0_isOpen_23 rfl (rfl) ⟨Nat.le_refl _, Nat.le_refl _⟩ ?_
    exact ⟨by rw [if_neg e1], rfl⟩
  · skip
    refine x_aload_n (i := 0) (o := some bk) dX0_isOpen_7 rfl rfl ?_
    refine x_aload_n (i := 1) (o := some r) dX0_isOpen_8 rfl rfl ?_
    refine x_getIv (v := C (q.1 + 1)) dX0_isOpen_9 fX0_isOpen_83 (i := 600) rfl rfl hru.1 (hru.2.1) ?_
    by_cases qm : C (q.1 + 1) ∈ O
    · skip
      have e1 : ¬ z_op C R V O j = true := fun z => ((z_op_iff hqj).mp z).2 qm
      refine x_callV (a := bk) (av := [x_i (C (q.1 + 1))]) (rest := []) (r := (some (x_i 1))) (h1 := h) dX0_isOpen_12 sX0_isOpen_120 hb.1.2 rfl rfl (Nat.le_of_ble_eq_true rfl) ⟨Nat.le_refl _, Nat.le_refl _⟩ (by have k := c_isHeld G hb hV hO (C (q.1 + 1)); rw [if_pos qm] at k; exact k) ?_
      show x_E _ _ _ _ 15 _ [x_i 1] _
      refine x_if_ne (tgt := 22) dX0_isOpen_15 (by decide) (fun _ => ?_) (fun c => absurd c (by decide))
      refine x_iconst (v := 0) dX0_isOpen_22 (by decide) ?_
      refine x_ireturn dX0_isOpen_23 rfl (rfl) ⟨Nat.le_refl _, Nat.le_refl _⟩ ?_
      exact ⟨by rw [if_neg e1], rfl⟩
    · skip
      have e1 : z_op C R V O j = true := (z_op_iff hqj).mpr ⟨Int32.not_lt.mp c4, qm⟩
      refine x_callV (a := bk) (av := [x_i (C (q.1 + 1))]) (rest := []) (r := (some (x_i 0))) (h1 := h) dX0_isOpen_12 sX0_isOpen_120 hb.1.2 rfl rfl (Nat.le_of_ble_eq_true rfl) ⟨Nat.le_refl _, Nat.le_refl _⟩ (by have k := c_isHeld G hb hV hO (C (q.1 + 1)); rw [if_neg qm] at k; exact k) ?_
      show x_E _ _ _ _ 15 _ [x_i 0] _
      refine x_if_ne (tgt := 22) dX0_isOpen_15 (by decide) (fun c => absurd c (by decide)) (fun _ => ?_)
      refine x_iconst (v := 1) dX0_isOpen_18 (by decide) ?_
      refine x_goto (tgt := 23) dX0_isOpen_19 (by decide) ?_
      refine x_ireturn dX0_isOpen_23 rfl (rfl) ⟨Nat.le_refl _, Nat.le_refl _⟩ ?_
      exact ⟨by rw [if_pos e1], rfl⟩
set_option maxHeartbeats 4000000 in
set_option maxRecDepth 100000 in
theorem l_openRuleX (G : x_G) {C : Nat → Int32} {h : x_H} {bk : Nat} {rs : List Nat} {R : List (Nat × Nat)} {es : List Nat} {E : List Int32} (hb : y_bk C h bk rs R es E) {V : Nat → Int32} (hV : y_V h rs V) {O : List Int32} (hO : z_oh C R V O) (kk : Int32) (Q : Option x_V → x_H → Prop) : ∀ (n j s : Nat), rs.length - j = n → Q (some (x_r ((z_ta (z_ops C R V O j) s kk).bind (fun i => rs[i]?)))) h → x_E G mX0_openRule (x_D G mX0_openRule h Q) h 7 [(0, x_r (some bk)), (1, x_i kk), (2, x_i (nI s)), (3, x_r (rs[j]?))] [] h := by
  intro n
  induction n with
  | zero =>
    intro j s hj hQ
    have hn0 : rs[j]? = none := List.getElem?_eq_none (by omega)
    rw [hn0]
    have hjR : R.length ≤ j := by rw [← hb.2.2.2.2.2.2.2.1.1]; omega
    refine x_aload_n (i := 3) (o := none) dX0_openRule_7 rfl rfl ?_
    refine x_ifnull (o := none) (tgt := 37) dX0_openRule_8 (by decide) (fun _ => ?_) (fun _ c => absurd c (by simp))
    refine x_null dX0_openRule_37 ?_
    refine x_areturn dX0_openRule_38 rfl ⟨Nat.le_refl _, Nat.le_refl _⟩ ?_
    rw [z_ops_e hjR] at hQ
    exact hQ
  | succ n ih =>
    intro j s hj hQ
    rcases hb.nx j with ⟨hn0, hd0⟩ | ⟨r, q, hrj, hqj, hru, hnx, hjl⟩
    · have := List.getElem?_eq_none_iff.mp hn0
      omega
    · rw [hrj]
      have hjR : j < R.length := by rw [← hb.2.2.2.2.2.2.2.1.1]; exact hjl
      refine x_aload_n (i := 3) (o := some r) dX0_openRule_7 rfl rfl ?_
      refine x_ifnull (o := some r) (tgt := 37) dX0_openRule_8 (by decide) (fun c => absurd c (by simp)) (fun _ _ => ?_)
      refine x_aload_n (i := 0) (o := some bk) dX0_openRule_11 rfl rfl ?_
      refine x_aload_n (i := 3) (o := some r) dX0_openRule_12 rfl rfl ?_
      by_cases e1 : z_op C R V O j = true
      · skip
        refine x_callV (a := bk) (av := [x_r (some r)]) (rest := []) (r := (some (x_i 1))) (h1 := h) dX0_openRule_13 sX0_openRule_128 hb.1.2 rfl rfl (Nat.le_of_ble_eq_true rfl) ⟨Nat.le_refl _, Nat.le_refl _⟩ (by have k := c_isOpenX G hb hV hO hrj hqj; rw [if_pos e1] at k; exact k) ?_
        show x_E _ _ _ _ 16 _ [x_i 1] _
        refine x_if_eq (tgt := 29) dX0_openRule_16 (by decide) (fun c => absurd c (by decide)) (fun _ => ?_)
        refine x_iload_n (i := 2) (x := nI s) dX0_openRule_19 rfl rfl ?_
        refine x_iload_n (i := 1) (x := kk) dX0_openRule_20 rfl rfl ?_
        refine x_icmp_ne (tgt := 26) dX0_openRule_21 (by decide) (fun c21 => ?_) (fun c21 => ?_)
        · skip
          refine x_iinc (i := 2) (x := nI s) (v := nI (s + 1)) (lv' := [(0, x_r (some bk)), (1, x_i kk), (2, x_i (nI (s + 1))), (3, x_r (some r))]) dX0_openRule_26 rfl (nI_1 s) (by decide) rfl ?_
          refine x_aload_n (i := 3) (o := some r) dX0_openRule_29 rfl rfl ?_
          refine x_getRv (v := rs[j + 1]?) dX0_openRule_30 fX0_openRule_54 (i := 606) rfl rfl hru.1 (hnx) ?_
          refine x_astore_n (i := 3) (lv' := [(0, x_r (some bk)), (1, x_i kk), (2, x_i (nI (s + 1))), (3, x_r (rs[j + 1]?))]) dX0_openRule_33 rfl (by decide) rfl ?_
          refine x_goto (tgt := 7) dX0_openRule_34 (by decide) ?_
          show x_E _ _ _ _ 7 _ _ _
          rw [z_ops_s hjR, if_pos e1, show z_ta (j :: z_ops C R V O (j + 1)) s kk = z_ta (z_ops C R V O (j + 1)) (s + 1) kk from if_neg c21] at hQ
          exact ih (j + 1) (s + 1) (by omega) hQ
        · skip
          refine x_aload_n (i := 3) (o := some r) dX0_openRule_24 rfl rfl ?_
          refine x_areturn dX0_openRule_25 rfl ⟨Nat.le_refl _, Nat.le_refl _⟩ ?_
          rw [z_ops_s hjR, if_pos e1, show z_ta (j :: z_ops C R V O (j + 1)) s kk = some j from if_pos c21] at hQ
          rw [show (some j).bind (fun i => rs[i]?) = some r from hrj] at hQ
          exact hQ
      · skip
        refine x_callV (a := bk) (av := [x_r (some r)]) (rest := []) (r := (some (x_i 0))) (h1 := h) dX0_openRule_13 sX0_openRule_128 hb.1.2 rfl rfl (Nat.le_of_ble_eq_true rfl) ⟨Nat.le_refl _, Nat.le_refl _⟩ (by have k := c_isOpenX G hb hV hO hrj hqj; rw [if_neg e1] at k; exact k) ?_
        show x_E _ _ _ _ 16 _ [x_i 0] _
        refine x_if_eq (tgt := 29) dX0_openRule_16 (by decide) (fun _ => ?_) (fun c => absurd (by decide) c)
        refine x_aload_n (i := 3) (o := some r) dX0_openRule_29 rfl rfl ?_
        refine x_getRv (v := rs[j + 1]?) dX0_openRule_30 fX0_openRule_54 (i := 606) rfl rfl hru.1 (hnx) ?_
        refine x_astore_n (i := 3) (lv' := [(0, x_r (some bk)), (1, x_i kk), (2, x_i (nI s)), (3, x_r (rs[j + 1]?))]) dX0_openRule_33 rfl (by decide) rfl ?_
        refine x_goto (tgt := 7) dX0_openRule_34 (by decide) ?_
        show x_E _ _ _ _ 7 _ _ _
        rw [z_ops_s hjR, if_neg e1] at hQ
        exact ih (j + 1) s (by omega) hQ
set_option maxHeartbeats 4000000 in
set_option maxRecDepth 100000 in
theorem c_openRuleX (G : x_G) {C : Nat → Int32} {h : x_H} {bk : Nat} {rs : List Nat} {R : List (Nat × Nat)} {es : List Nat} {E : List Int32} (hb : y_bk C h bk rs R es E) {V : Nat → Int32} (hV : y_V h rs V) {O : List Int32} (hO : z_oh C R V O) (kk : Int32) : x_Call G mX0_openRule h [x_r (some bk), x_i kk] (some (x_r ((z_ta (z_ops C R V O 0) 0 kk).bind (fun i => rs[i]?)))) h := by
  refine x_Ex.call (x_enter mwX0_openRule (Nat.le_of_ble_eq_true rfl) ?_)
  show x_E _ _ _ _ _ [(0, x_r (some bk)), (1, x_i kk)] _ _
  refine x_iconst (v := 0) dX0_openRule_0 (by decide) ?_
  refine x_istore_n (i := 2) (lv' := [(0, x_r (some bk)), (1, x_i kk), (2, x_i 0)]) dX0_openRule_1 rfl (by decide) rfl ?_
  refine x_aload_n (i := 0) (o := some bk) dX0_openRule_2 rfl rfl ?_
  refine x_getRv (v := rs[0]?) dX0_openRule_3 fX0_openRule_9 (i := 100) rfl rfl hb.1.2 (hb.f0) ?_
  refine x_astore_n (i := 3) (lv' := [(0, x_r (some bk)), (1, x_i kk), (2, x_i 0), (3, x_r (rs[0]?))]) dX0_openRule_6 rfl (by decide) rfl ?_
  show x_E _ _ _ _ 7 _ _ _
  exact l_openRuleX G hb hV hO kk _ _ 0 0 rfl ⟨rfl, rfl⟩
set_option maxHeartbeats 4000000 in
set_option maxRecDepth 100000 in
theorem l_ruleAt (G : x_G) {C : Nat → Int32} {h : x_H} {bk : Nat} {rs : List Nat} {R : List (Nat × Nat)} {es : List Nat} {E : List Int32} (hb : y_bk C h bk rs R es E) (ll : Int32) (Q : Option x_V → x_H → Prop) : ∀ (n j : Nat), rs.length - j = n → Q (some (x_r (z_ta (rs.drop j) j ll))) h → x_E G mX0_ruleAt (x_D G mX0_ruleAt h Q) h 5 [(0, x_r (some bk)), (1, x_i ll), (2, x_r (rs[j]?))] [] h := by
  intro n
  induction n with
  | zero =>
    intro j hj hQ
    have hn0 : rs[j]? = none := List.getElem?_eq_none (by omega)
    rw [hn0]
    have hjR : R.length ≤ j := by rw [← hb.2.2.2.2.2.2.2.1.1]; omega
    refine x_aload_n (i := 2) (o := none) dX0_ruleAt_5 rfl rfl ?_
    refine x_ifnull (o := none) (tgt := 27) dX0_ruleAt_6 (by decide) (fun _ => ?_) (fun _ c => absurd c (by simp))
    refine x_null dX0_ruleAt_27 ?_
    refine x_areturn dX0_ruleAt_28 rfl ⟨Nat.le_refl _, Nat.le_refl _⟩ ?_
    rw [List.drop_of_length_le (by omega)] at hQ
    exact hQ
  | succ n ih =>
    intro j hj hQ
    rcases hb.nx j with ⟨hn0, hd0⟩ | ⟨r, q, hrj, hqj, hru, hnx, hjl⟩
    · have := List.getElem?_eq_none_iff.mp hn0
      omega
    · rw [hrj]
      have hjR : j < R.length := by rw [← hb.2.2.2.2.2.2.2.1.1]; exact hjl
      refine x_aload_n (i := 2) (o := some r) dX0_ruleAt_5 rfl rfl ?_
      refine x_ifnull (o := some r) (tgt := 27) dX0_ruleAt_6 (by decide) (fun c => absurd c (by simp)) (fun _ _ => ?_)
      refine x_aload_n (i := 2) (o := some r) dX0_ruleAt_9 rfl rfl ?_
      refine x_getIv (v := nI j) dX0_ruleAt_10 fX0_ruleAt_46 (i := 602) rfl rfl hru.1 (hru.2.2.2.1) ?_
      refine x_iload_n (i := 1) (x := ll) dX0_ruleAt_13 rfl rfl ?_
      refine x_icmp_ne (tgt := 19) dX0_ruleAt_14 (by decide) (fun c14 => ?_) (fun c14 => ?_)
      · skip
        refine x_aload_n (i := 2) (o := some r) dX0_ruleAt_19 rfl rfl ?_
        refine x_getRv (v := rs[j + 1]?) dX0_ruleAt_20 fX0_ruleAt_54 (i := 606) rfl rfl hru.1 (hnx) ?_
        refine x_astore_n (i := 2) (lv' := [(0, x_r (some bk)), (1, x_i ll), (2, x_r (rs[j + 1]?))]) dX0_ruleAt_23 rfl (by decide) rfl ?_
        refine x_goto (tgt := 5) dX0_ruleAt_24 (by decide) ?_
        show x_E _ _ _ _ 5 _ _ _
        rw [y_drop hrj, show z_ta (r :: rs.drop (j + 1)) j ll = z_ta (rs.drop (j + 1)) (j + 1) ll from if_neg c14] at hQ
        exact ih (j + 1) (by omega) hQ
      · skip
        refine x_aload_n (i := 2) (o := some r) dX0_ruleAt_17 rfl rfl ?_
        refine x_areturn dX0_ruleAt_18 rfl ⟨Nat.le_refl _, Nat.le_refl _⟩ ?_
        rw [y_drop hrj, show z_ta (r :: rs.drop (j + 1)) j ll = some r from if_pos c14] at hQ
        exact hQ
set_option maxHeartbeats 4000000 in
set_option maxRecDepth 100000 in
theorem c_ruleAt (G : x_G) {C : Nat → Int32} {h : x_H} {bk : Nat} {rs : List Nat} {R : List (Nat × Nat)} {es : List Nat} {E : List Int32} (hb : y_bk C h bk rs R es E) (ll : Int32) : x_Call G mX0_ruleAt h [x_r (some bk), x_i ll] (some (x_r (z_ta rs 0 ll))) h := by
  refine x_Ex.call (x_enter mwX0_ruleAt (Nat.le_of_ble_eq_true rfl) ?_)
  show x_E _ _ _ _ _ [(0, x_r (some bk)), (1, x_i ll)] _ _
  refine x_aload_n (i := 0) (o := some bk) dX0_ruleAt_0 rfl rfl ?_
  refine x_getRv (v := rs[0]?) dX0_ruleAt_1 fX0_ruleAt_9 (i := 100) rfl rfl hb.1.2 (hb.f0) ?_
  refine x_astore_n (i := 2) (lv' := [(0, x_r (some bk)), (1, x_i ll), (2, x_r (rs[0]?))]) dX0_ruleAt_4 rfl (by decide) rfl ?_
  show x_E _ _ _ _ 5 _ _ _
  exact l_ruleAt G hb ll _ _ 0 rfl ⟨by rw [List.drop_zero], rfl⟩
set_option maxHeartbeats 4000000 in
set_option maxRecDepth 100000 in
theorem l_heldCount (G : x_G) {C : Nat → Int32} {h : x_H} {bk : Nat} {rs : List Nat} {R : List (Nat × Nat)} {es : List Nat} {E : List Int32} (hb : y_bk C h bk rs R es E) {V : Nat → Int32} (hV : y_V h rs V) {O : List Int32} (hO : z_oh C R V O) (Q : Option x_V → x_H → Prop) : ∀ (n i s : Nat), i ≤ 20 → 20 - i = n → Q (some (x_i (nI (s + (z_hl O i).length)))) h → x_E G mX0_heldCount (x_D G mX0_heldCount h Q) h 4 [(0, x_r (some bk)), (1, x_i (nI s)), (2, x_i (nI i))] [] h := by
  intro n
  induction n with
  | zero =>
    intro i s hi hn hQ
    have ei : i = 20 := by omega
    subst ei
    rw [show z_hl O 20 = [] from rfl] at hQ
    refine x_iload_n (i := 2) (x := nI 20) dX0_heldCount_4 rfl rfl ?_
    refine x_bipush (v := 20) dX0_heldCount_5 (by decide) ?_
    refine x_icmp_ge (tgt := 27) dX0_heldCount_7 (by decide) (fun c7 => ?_) (fun c7 => ?_)
    · skip
      refine x_iload_n (i := 1) (x := nI s) dX0_heldCount_27 rfl rfl ?_
      refine x_ireturn dX0_heldCount_28 rfl (rfl) ⟨Nat.le_refl _, Nat.le_refl _⟩ ?_
      exact hQ
    · skip
      exact absurd (by decide) c7
  | succ n ih =>
    intro i s hi hn hQ
    refine x_iload_n (i := 2) (x := nI i) dX0_heldCount_4 rfl rfl ?_
    refine x_bipush (v := 20) dX0_heldCount_5 (by decide) ?_
    refine x_icmp_ge (tgt := 27) dX0_heldCount_7 (by decide) (fun c7 => ?_) (fun c7 => ?_)
    · skip
      exact absurd ((nI_leI (a := 20) (by omega) (by omega)).mp c7) (by omega)
    · skip
      refine x_aload_n (i := 0) (o := some bk) dX0_heldCount_10 rfl rfl ?_
      refine x_iload_n (i := 2) (x := nI i) dX0_heldCount_11 rfl rfl ?_
      by_cases qm : nI i ∈ O
      · skip
        refine x_callV (a := bk) (av := [x_i (nI i)]) (rest := []) (r := (some (x_i 1))) (h1 := h) dX0_heldCount_12 sX0_heldCount_120 hb.1.2 rfl rfl (Nat.le_of_ble_eq_true rfl) ⟨Nat.le_refl _, Nat.le_refl _⟩ (by have k := c_isHeld G hb hV hO (nI i); rw [if_pos qm] at k; exact k) ?_
        show x_E _ _ _ _ 15 _ [x_i 1] _
        refine x_if_eq (tgt := 21) dX0_heldCount_15 (by decide) (fun c => absurd c (by decide)) (fun _ => ?_)
        refine x_iinc (i := 1) (x := nI s) (v := nI (s + 1)) (lv' := [(0, x_r (some bk)), (1, x_i (nI (s + 1))), (2, x_i (nI i))]) dX0_heldCount_18 rfl (nI_1 s) (by decide) rfl ?_
        refine x_iinc (i := 2) (x := nI i) (v := nI (i + 1)) (lv' := [(0, x_r (some bk)), (1, x_i (nI (s + 1))), (2, x_i (nI (i + 1)))]) dX0_heldCount_21 rfl (nI_1 i) (by decide) rfl ?_
        refine x_goto (tgt := 4) dX0_heldCount_24 (by decide) ?_
        show x_E _ _ _ _ 4 _ _ _
        rw [z_hl_s (by omega), if_pos qm, List.length_cons, show s + ((z_hl O (i + 1)).length + 1) = s + 1 + (z_hl O (i + 1)).length by omega] at hQ
        exact ih (i + 1) (s + 1) (by omega) (by omega) hQ
      · skip
        refine x_callV (a := bk) (av := [x_i (nI i)]) (rest := []) (r := (some (x_i 0))) (h1 := h) dX0_heldCount_12 sX0_heldCount_120 hb.1.2 rfl rfl (Nat.le_of_ble_eq_true rfl) ⟨Nat.le_refl _, Nat.le_refl _⟩ (by have k := c_isHeld G hb hV hO (nI i); rw [if_neg qm] at k; exact k) ?_
        show x_E _ _ _ _ 15 _ [x_i 0] _
        refine x_if_eq (tgt := 21) dX0_heldCount_15 (by decide) (fun _ => ?_) (fun c => absurd (by decide) c)
        refine x_iinc (i := 2) (x := nI i) (v := nI (i + 1)) (lv' := [(0, x_r (some bk)), (1, x_i (nI s)), (2, x_i (nI (i + 1)))]) dX0_heldCount_21 rfl (nI_1 i) (by decide) rfl ?_
        refine x_goto (tgt := 4) dX0_heldCount_24 (by decide) ?_
        show x_E _ _ _ _ 4 _ _ _
        rw [z_hl_s (by omega), if_neg qm] at hQ
        exact ih (i + 1) s (by omega) (by omega) hQ
set_option maxHeartbeats 4000000 in
set_option maxRecDepth 100000 in
theorem c_heldCount (G : x_G) {C : Nat → Int32} {h : x_H} {bk : Nat} {rs : List Nat} {R : List (Nat × Nat)} {es : List Nat} {E : List Int32} (hb : y_bk C h bk rs R es E) {V : Nat → Int32} (hV : y_V h rs V) {O : List Int32} (hO : z_oh C R V O) : x_Call G mX0_heldCount h [x_r (some bk)] (some (x_i (nI (z_hl O 0).length))) h := by
  refine x_Ex.call (x_enter mwX0_heldCount (Nat.le_of_ble_eq_true rfl) ?_)
  show x_E _ _ _ _ _ [(0, x_r (some bk))] _ _
  refine x_iconst (v := 0) dX0_heldCount_0 (by decide) ?_
  refine x_istore_n (i := 1) (lv' := [(0, x_r (some bk)), (1, x_i 0)]) dX0_heldCount_1 rfl (by decide) rfl ?_
  refine x_iconst (v := 0) dX0_heldCount_2 (by decide) ?_
  refine x_istore_n (i := 2) (lv' := [(0, x_r (some bk)), (1, x_i 0), (2, x_i 0)]) dX0_heldCount_3 rfl (by decide) rfl ?_
  show x_E _ _ _ _ 4 _ _ _
  exact l_heldCount G hb hV hO _ _ 0 0 (by omega) rfl ⟨by rw [Nat.zero_add], rfl⟩
def z_anyo (C : Nat → Int32) (V : Nat → Int32) (c : Int32) : List (Nat × Nat) → Nat → Bool
  | [], _ => false
  | q :: L, j => (C (q.1 + 1) == c && decide (0 ≤ V j)) || z_anyo C V c L (j + 1)
theorem y_dropR {R : List (Nat × Nat)} {j : Nat} {q : Nat × Nat} (h : R[j]? = some q) : R.drop j = q :: R.drop (j + 1) := by
  obtain ⟨h1, h2⟩ := List.getElem?_eq_some_iff.mp h
  rw [List.drop_eq_getElem_cons h1, h2]
set_option maxHeartbeats 4000000 in
set_option maxRecDepth 100000 in
theorem l_holdsV (G : x_G) {C : Nat → Int32} {h : x_H} {bk : Nat} {rs : List Nat} {R : List (Nat × Nat)} {es : List Nat} {E : List Int32} (hb : y_bk C h bk rs R es E) {V : Nat → Int32} (hV : y_V h rs V) (c : Int32) (Q : Option x_V → x_H → Prop) : ∀ (n j : Nat), rs.length - j = n → Q (some (x_i (if z_anyo C V c (R.drop j) j = true then 300 + c else -3))) h → x_E G mX0_holdsVerdict (x_D G mX0_holdsVerdict h Q) h 16 [(0, x_r (some bk)), (1, x_i c), (2, x_r (rs[j]?))] [] h := by
  intro n
  induction n with
  | zero =>
    intro j hj hQ
    have hn0 : rs[j]? = none := List.getElem?_eq_none (by omega)
    rw [hn0]
    have hjR : R.length ≤ j := by rw [← hb.2.2.2.2.2.2.2.1.1]; omega
    refine x_aload_n (i := 2) (o := none) dX0_holdsVerdict_16 rfl rfl ?_
    refine x_ifnull (o := none) (tgt := 49) dX0_holdsVerdict_17 (by decide) (fun _ => ?_) (fun _ c => absurd c (by simp))
    refine x_bipush (v := (-3)) dX0_holdsVerdict_49 (by decide) ?_
    refine x_ireturn dX0_holdsVerdict_51 rfl (rfl) ⟨Nat.le_refl _, Nat.le_refl _⟩ ?_
    rw [List.drop_of_length_le hjR] at hQ
    exact hQ
  | succ n ih =>
    intro j hj hQ
    rcases hb.nx j with ⟨hn0, hd0⟩ | ⟨r, q, hrj, hqj, hru, hnx, hjl⟩
    · have := List.getElem?_eq_none_iff.mp hn0
      omega
    · rw [hrj]
      have hjR : j < R.length := by rw [← hb.2.2.2.2.2.2.2.1.1]; exact hjl
      refine x_aload_n (i := 2) (o := some r) dX0_holdsVerdict_16 rfl rfl ?_
      refine x_ifnull (o := some r) (tgt := 49) dX0_holdsVerdict_17 (by decide) (fun c => absurd c (by simp)) (fun _ _ => ?_)
      refine x_aload_n (i := 2) (o := some r) dX0_holdsVerdict_20 rfl rfl ?_
      refine x_getIv (v := C (q.1 + 1)) dX0_holdsVerdict_21 fX0_holdsVerdict_83 (i := 600) rfl rfl hru.1 (hru.2.1) ?_
      refine x_iload_n (i := 1) (x := c) dX0_holdsVerdict_24 rfl rfl ?_
      refine x_icmp_ne (tgt := 41) dX0_holdsVerdict_25 (by decide) (fun c25 => ?_) (fun c25 => ?_)
      · skip
        have e1 : (C (q.1 + 1) == c && decide (0 ≤ V j)) = false := by simp [c25]
        refine x_aload_n (i := 2) (o := some r) dX0_holdsVerdict_41 rfl rfl ?_
        refine x_getRv (v := rs[j + 1]?) dX0_holdsVerdict_42 fX0_holdsVerdict_54 (i := 606) rfl rfl hru.1 (hnx) ?_
        refine x_astore_n (i := 2) (lv' := [(0, x_r (some bk)), (1, x_i c), (2, x_r (rs[j + 1]?))]) dX0_holdsVerdict_45 rfl (by decide) rfl ?_
        refine x_goto (tgt := 16) dX0_holdsVerdict_46 (by decide) ?_
        show x_E _ _ _ _ 16 _ _ _
        rw [y_dropR hqj, show z_anyo C V c (q :: R.drop (j + 1)) j = ((C (q.1 + 1) == c && decide (0 ≤ V j)) || z_anyo C V c (R.drop (j + 1)) (j + 1)) from rfl, e1, Bool.false_or] at hQ
        exact ih (j + 1) (by omega) hQ
      · skip
        refine x_aload_n (i := 2) (o := some r) dX0_holdsVerdict_28 rfl rfl ?_
        refine x_getIv (v := V j) dX0_holdsVerdict_29 fX0_holdsVerdict_60 (i := 605) rfl rfl hru.1 (hV j r hrj) ?_
        refine x_if_lt (tgt := 41) dX0_holdsVerdict_32 (by decide) (fun c32 => ?_) (fun c32 => ?_)
        · skip
          have e1 : (C (q.1 + 1) == c && decide (0 ≤ V j)) = false := by rw [decide_eq_false (Int32.not_le.mpr c32), Bool.and_false]
          refine x_aload_n (i := 2) (o := some r) dX0_holdsVerdict_41 rfl rfl ?_
          refine x_getRv (v := rs[j + 1]?) dX0_holdsVerdict_42 fX0_holdsVerdict_54 (i := 606) rfl rfl hru.1 (hnx) ?_
          refine x_astore_n (i := 2) (lv' := [(0, x_r (some bk)), (1, x_i c), (2, x_r (rs[j + 1]?))]) dX0_holdsVerdict_45 rfl (by decide) rfl ?_
          refine x_goto (tgt := 16) dX0_holdsVerdict_46 (by decide) ?_
          show x_E _ _ _ _ 16 _ _ _
          rw [y_dropR hqj, show z_anyo C V c (q :: R.drop (j + 1)) j = ((C (q.1 + 1) == c && decide (0 ≤ V j)) || z_anyo C V c (R.drop (j + 1)) (j + 1)) from rfl, e1, Bool.false_or] at hQ
          exact ih (j + 1) (by omega) hQ
        · skip
          have e1 : (C (q.1 + 1) == c && decide (0 ≤ V j)) = true := by rw [decide_eq_true (Int32.not_lt.mp c32), c25]; simp
          refine x_sipush (v := 300) dX0_holdsVerdict_35 (by decide) ?_
          refine x_iload_n (i := 1) (x := c) dX0_holdsVerdict_38 rfl rfl ?_
          refine x_iadd dX0_holdsVerdict_39 ?_
          refine x_ireturn dX0_holdsVerdict_40 rfl (rfl) ⟨Nat.le_refl _, Nat.le_refl _⟩ ?_
          rw [y_dropR hqj, show z_anyo C V c (q :: R.drop (j + 1)) j = ((C (q.1 + 1) == c && decide (0 ≤ V j)) || z_anyo C V c (R.drop (j + 1)) (j + 1)) from rfl, e1, Bool.true_or] at hQ
          exact hQ
set_option maxHeartbeats 4000000 in
set_option maxRecDepth 100000 in
theorem c_holdsV (G : x_G) {C : Nat → Int32} {h : x_H} {bk : Nat} {rs : List Nat} {R : List (Nat × Nat)} {es : List Nat} {E : List Int32} (hb : y_bk C h bk rs R es E) {V : Nat → Int32} (hV : y_V h rs V) {O : List Int32} (hO : z_oh C R V O) (c : Int32) : x_Call G mX0_holdsVerdict h [x_r (some bk), x_i c] (some (x_i (if c ∈ O then -2 else if z_anyo C V c R 0 = true then 300 + c else -3))) h := by
  refine x_Ex.call (x_enter mwX0_holdsVerdict (Nat.le_of_ble_eq_true rfl) ?_)
  show x_E _ _ _ _ _ [(0, x_r (some bk)), (1, x_i c)] _ _
  refine x_aload_n (i := 0) (o := some bk) dX0_holdsVerdict_0 rfl rfl ?_
  refine x_iload_n (i := 1) (x := c) dX0_holdsVerdict_1 rfl rfl ?_
  by_cases qm : c ∈ O
  · skip
    refine x_callV (a := bk) (av := [x_i c]) (rest := []) (r := (some (x_i 1))) (h1 := h) dX0_holdsVerdict_2 sX0_holdsVerdict_120 hb.1.2 rfl rfl (Nat.le_of_ble_eq_true rfl) ⟨Nat.le_refl _, Nat.le_refl _⟩ (by have k := c_isHeld G hb hV hO (c); rw [if_pos qm] at k; exact k) ?_
    show x_E _ _ _ _ 5 _ [x_i 1] _
    refine x_if_eq (tgt := 11) dX0_holdsVerdict_5 (by decide) (fun c => absurd c (by decide)) (fun _ => ?_)
    refine x_bipush (v := (-2)) dX0_holdsVerdict_8 (by decide) ?_
    refine x_ireturn dX0_holdsVerdict_10 rfl (rfl) ⟨Nat.le_refl _, Nat.le_refl _⟩ ?_
    exact ⟨by rw [if_pos qm], rfl⟩
  · skip
    refine x_callV (a := bk) (av := [x_i c]) (rest := []) (r := (some (x_i 0))) (h1 := h) dX0_holdsVerdict_2 sX0_holdsVerdict_120 hb.1.2 rfl rfl (Nat.le_of_ble_eq_true rfl) ⟨Nat.le_refl _, Nat.le_refl _⟩ (by have k := c_isHeld G hb hV hO (c); rw [if_neg qm] at k; exact k) ?_
    show x_E _ _ _ _ 5 _ [x_i 0] _
    refine x_if_eq (tgt := 11) dX0_holdsVerdict_5 (by decide) (fun _ => ?_) (fun c => absurd (by decide) c)
    refine x_aload_n (i := 0) (o := some bk) dX0_holdsVerdict_11 rfl rfl ?_
    refine x_getRv (v := rs[0]?) dX0_holdsVerdict_12 fX0_holdsVerdict_9 (i := 100) rfl rfl hb.1.2 (hb.f0) ?_
    refine x_astore_n (i := 2) (lv' := [(0, x_r (some bk)), (1, x_i c), (2, x_r (rs[0]?))]) dX0_holdsVerdict_15 rfl (by decide) rfl ?_
    show x_E _ _ _ _ 16 _ _ _
    exact l_holdsV G hb hV c _ _ 0 rfl ⟨by rw [if_neg qm, List.drop_zero], rfl⟩
