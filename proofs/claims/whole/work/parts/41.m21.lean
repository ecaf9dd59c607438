/-! THE REFERENCE: run -/
def z_OO (X : z_X) (C : Nat → Int32) (R : List (Nat × Nat)) (act : Int32) : Nat → List Int32
  | 0 => []
  | k + 1 => match R[k]? with
    | some q => if nI q.2 = act then z_oa (z_OO X C R act k) (z_jd X C R (z_V X C R act k) k q) (C (q.1 + 1)) else z_OO X C R act k
    | none => z_OO X C R act k
/-- the classes that came to hold are different ones, of 0 .. 19 -/
def z_on (O : List Int32) : Prop := O.Nodup ∧ ∀ c ∈ O, 0 ≤ c ∧ c ≤ 19
theorem z_pig : ∀ (N : Nat) (L : List Nat), L.Nodup → (∀ a ∈ L, a < N) → L.length ≤ N
  | 0, L, _, h => by
    cases L with
    | nil => exact Nat.le_refl _
    | cons a L => exact absurd (h a List.mem_cons_self) (by omega)
  | N + 1, L, hn, h => by
    by_cases hm : N ∈ L
    · have h1 := z_pig N (L.erase N) (hn.erase N) (fun a ha => by
        have h2 := (hn.mem_erase_iff).mp ha
        have := h a h2.2
        have := h2.1
        omega)
      have h3 := List.length_erase_of_mem hm
      have h4 : 0 < L.length := List.length_pos_of_mem hm
      omega
    · have := z_pig N L hn (fun a ha => by
        have := h a ha
        have : ¬ a = N := fun z => hm (z ▸ ha)
        omega)
      omega
theorem z_on.le {O : List Int32} (h : z_on O) : O.length ≤ 20 := by
  have h1 : (O.map Int32.toNatClampNeg).Nodup := by
    refine List.Pairwise.map _ ?_ (List.Pairwise.and_mem.mp h.1)
    rintro a b ⟨ha, hb, hab⟩ e
    obtain ⟨i, hi, rfl⟩ := nI_of2 (x := a) (M := 19) (n := 19) (by decide) (Int32.not_lt.mpr (h.2 a ha).1) (h.2 a ha).2
    obtain ⟨j, hj, rfl⟩ := nI_of2 (x := b) (M := 19) (n := 19) (by decide) (Int32.not_lt.mpr (h.2 b hb).1) (h.2 b hb).2
    rw [nI_clamp (by omega), nI_clamp (by omega)] at e
    exact hab (by rw [e])
  have h2 := z_pig 20 _ h1 (fun a ha => by
    obtain ⟨c, hc, rfl⟩ := List.mem_map.mp ha
    obtain ⟨i, hi, rfl⟩ := nI_of2 (x := c) (M := 19) (n := 19) (by decide) (Int32.not_lt.mpr (h.2 c hc).1) (h.2 c hc).2
    rw [nI_clamp (by omega)]
    omega)
  rw [List.length_map] at h2
  exact h2
theorem z_on.app {O : List Int32} (h : z_on O) {c : Int32} (hc : 0 ≤ c ∧ c ≤ 19) (hn : ¬ c ∈ O) : z_on (O ++ [c]) := by
  refine ⟨List.nodup_append.mpr ⟨h.1, by simp, fun a ha b hb e => ?_⟩, fun d hd => ?_⟩
  · rw [List.mem_singleton.mp hb] at e
    exact hn (e ▸ ha)
  · rcases List.mem_append.mp hd with hd | hd
    · exact h.2 d hd
    · rw [List.mem_singleton.mp hd]; exact hc
theorem z_on.oa {O : List Int32} (h : z_on O) {w c : Int32} (hc : 0 ≤ c ∧ c ≤ 19) : z_on (z_oa O w c) := by
  unfold z_oa
  split
  · rename_i h1
    exact h.app hc h1.2
  · exact h
/-- what has been looked at: verdicts V, classes O in their order -/
def m_Lk (h : x_H) (m : Nat) (V : Nat → Int32) (O : List Int32) : Prop := m_V h m V 60 ∧ m_O h m O ∧ z_on O
def m_R1 (h h1 : x_H) (m : Nat) (act : Int32) (V : Nat → Int32) (O : List Int32) : Prop := x_F h h1 (fun i a => a = m ∧ (i = 1019 ∨ i = 1023 ∨ i = 1024 ∨ i = 1026 ∨ i = 1027 ∨ i = 1028)) (fun a => a = m + 14 ∨ a = m + 15 ∨ a = m + 16) ∧ x_fi h1 1019 m = act ∧ x_fi h1 1024 m = 0 ∧ m_Lk h1 m V O
set_option maxHeartbeats 4000000 in
set_option maxRecDepth 100000 in
theorem l_run (G : x_G) {h : x_H} {m : Nat} {l : List (Nat × Nat)} {C : Nat → Int32} {R : List (Nat × Nat)} {E : List Int32} (hB : m_Bk h m l C R E) {X : z_X} (hX : m_X h m X) (act : Int32) (day : Int64) (D : Room → x_Z → Prop) (kx : ∀ h1, m_R1 h h1 m act (z_V X C R act R.length) (z_OO X C R act R.length) → x_E G mX10_run D h 47 [(0, x_r (some m)), (1, x_l day), (3, x_i (nI R.length))] [] h1) : ∀ (n k : Nat) (h1 : x_H), k ≤ R.length → R.length - k = n → m_R1 h h1 m act (z_V X C R act k) (z_OO X C R act k) → x_E G mX10_run D h 15 [(0, x_r (some m)), (1, x_l day), (3, x_i (nI k))] [] h1 := by
  have h60 := hB.2.2.1
  intro n
  induction n with
  | zero =>
    intro k h1 hk hn hI
    have hB1 : m_Bk h1 m l C R E := hB.F hI.1 ⟨by omega, by omega, by omega⟩ (fun a z => by omega)
    have ek : k = R.length := by omega
    subst ek
    refine x_iload_n (i := 3) (x := nI R.length) dX10_run_15 rfl rfl ?_
    refine x_aload_n (i := 0) (o := some m) dX10_run_16 rfl rfl ?_
    refine x_getIv (v := nI R.length) dX10_run_17 fX10_run_162 (i := 1011) rfl rfl (mPk_0 (hI.1.pm hB.1.1)) (hB1.2.1.1) ?_
    refine x_icmp_ge (tgt := 47) dX10_run_20 (by decide) (fun c20 => ?_) (fun c20 => ?_)
    · skip
      exact kx h1 hI
    · skip
      exact absurd (nI_le (by omega) (by omega)) c20
  | succ n ih =>
    intro k h1 hk hn hI
    have hB1 : m_Bk h1 m l C R E := hB.F hI.1 ⟨by omega, by omega, by omega⟩ (fun a z => by omega)
    refine x_iload_n (i := 3) (x := nI k) dX10_run_15 rfl rfl ?_
    refine x_aload_n (i := 0) (o := some m) dX10_run_16 rfl rfl ?_
    refine x_getIv (v := nI R.length) dX10_run_17 fX10_run_162 (i := 1011) rfl rfl (mPk_0 (hI.1.pm hB.1.1)) (hB1.2.1.1) ?_
    refine x_icmp_ge (tgt := 47) dX10_run_20 (by decide) (fun c20 => ?_) (fun c20 => ?_)
    · skip
      have q20 := (nI_leI (by omega) (by omega)).mp c20
      exact absurd q20 (by omega)
    · skip
      have q20 : k < R.length := Nat.lt_of_not_le fun z => c20 (nI_le z (by omega))
      obtain ⟨q, hr⟩ : ∃ q, R[k]? = some q := ⟨_, List.getElem?_eq_getElem q20⟩
      obtain ⟨h7, h8, hk6, hq1, hq2, hc, e, hqs⟩ := hB1.at hr
      have eV : z_V X C R act (k + 1) = if nI q.2 = act then upd (z_V X C R act k) k (z_jd X C R (z_V X C R act k) k q) else z_V X C R act k := by
        show (match R[k]? with | some q => _ | none => _) = _
        rw [hr]
      have eO : z_OO X C R act (k + 1) = if nI q.2 = act then z_oa (z_OO X C R act k) (z_jd X C R (z_V X C R act k) k q) (C (q.1 + 1)) else z_OO X C R act k := by
        show (match R[k]? with | some q => _ | none => _) = _
        rw [hr]
      refine x_aload_n (i := 0) (o := some m) dX10_run_23 rfl rfl ?_
      refine x_getRv (v := some (m + 8)) dX10_run_24 fX10_run_32 (i := 1010) rfl rfl (mPk_0 (hI.1.pm hB.1.1)) (mPr_1010 (hI.1.pm hB.1.1)) ?_
      refine x_iload_n (i := 3) (x := nI k) dX10_run_27 rfl rfl ?_
      refine x_ialoadN (n := k) (v := nI q.2) dX10_run_28 (mPk_8 (hI.1.pm hB.1.1)) (rfl) (by rw [mPl_8 (hI.1.pm hB.1.1)]; omega) (by rw [mPl_8 (hI.1.pm hB.1.1)]; omega) (h8) ?_
      refine x_aload_n (i := 0) (o := some m) dX10_run_29 rfl rfl ?_
      refine x_getIv (v := act) dX10_run_30 fX10_run_55 (i := 1019) rfl rfl (mPk_0 (hI.1.pm hB.1.1)) (hI.2.1) ?_
      refine x_icmp_ne (tgt := 41) dX10_run_33 (by decide) (fun c33 => ?_) (fun c33 => ?_)
      · skip
        rw [if_neg c33] at eV eO
        refine x_iinc (i := 3) (x := nI k) (v := nI (k + 1)) (lv' := [(0, x_r (some m)), (1, x_l day), (3, x_i (nI (k + 1)))]) dX10_run_41 rfl (nI_1 k) (by decide) rfl ?_
        refine x_goto (tgt := 15) dX10_run_44 (by decide) ?_
        show x_E _ _ _ _ 15 _ _ _
        exact ih (k + 1) h1 (by omega) (by omega) (by rw [eV, eO]; exact hI)
      · skip
        rw [if_pos c33] at eV eO
        refine x_aload_n (i := 0) (o := some m) dX10_run_36 rfl rfl ?_
        refine x_iload_n (i := 3) (x := nI k) dX10_run_37 rfl rfl ?_
        have hX1 : m_X h1 m X := hX.F hI.1 (by omega) (fun a z => by omega)
        obtain ⟨_, h2, ⟨rfl, hj⟩, hcj⟩ := c_judge G hB1 hX1 hr (V := z_V X C R act k) (fun r hr => hI.2.2.2.1 r (by omega)) hI.2.2.2.2.1 hI.2.2.2.2.2.le (fun hn => by
          have := (hI.2.2.2.2.2.app ⟨hc.1, hc.2.2⟩ hn).le
          rw [List.length_append] at this
          simp at this
          omega)
        have hI2 : m_R1 h h2 m act (z_V X C R act (k + 1)) (z_OO X C R act (k + 1)) := by
          rw [eV, eO]
          obtain ⟨j1, j2, j3, j4, j5⟩ := hj
          refine ⟨hI.1.tr j1 (fun i a z => z) (fun i a z => ⟨z.1, by omega⟩) (fun a z => z) (fun a z => z), (j1.fi (by omega)).trans hI.2.1, (j1.fi (by omega)).trans hI.2.2.1, fun r hr6 => ?_, j5, hI.2.2.2.2.2.oa ⟨hc.1, hc.2.2⟩⟩
          by_cases hrk : r = k
          · subst hrk
            rw [show upd (z_V X C R act r) r (z_jd X C R (z_V X C R act r) r q) r = z_jd X C R (z_V X C R act r) r q from pk_us]
            exact ⟨j2, j3⟩
          · rw [show upd (z_V X C R act k) k (z_jd X C R (z_V X C R act k) k q) r = z_V X C R act k r from pk_un hrk, (j4 r hrk).1, (j4 r hrk).2]
            exact hI.2.2.2.1 r hr6
        refine x_callV (a := m) (av := [x_i (nI k)]) (rest := []) (r := none) (h1 := h2) dX10_run_38 sX10_run_231 (mPk_0 (hI.1.pm hB.1.1)) rfl rfl (Nat.le_of_ble_eq_true rfl) hI.1.le (hcj) ?_
        show x_E _ _ _ _ 41 _ [] _
        refine x_iinc (i := 3) (x := nI k) (v := nI (k + 1)) (lv' := [(0, x_r (some m)), (1, x_l day), (3, x_i (nI (k + 1)))]) dX10_run_41 rfl (nI_1 k) (by decide) rfl ?_
        refine x_goto (tgt := 15) dX10_run_44 (by decide) ?_
        show x_E _ _ _ _ 15 _ _ _
        exact ih (k + 1) h2 (by omega) (by omega) hI2
/-- what run answers -/
def z_ra (C : Nat → Int32) (R : List (Nat × Nat)) (V : Nat → Int32) (O : List Int32) : Int32 := if z_kt ((z_ops C R V O 0).map nI) 0 0 = -1 then nI O.length else -1 - z_kt ((z_ops C R V O 0).map nI) 0 0
set_option maxHeartbeats 4000000 in
set_option maxRecDepth 100000 in
theorem c_runM (G : x_G) {h : x_H} {m : Nat} {l : List (Nat × Nat)} {C : Nat → Int32} {R : List (Nat × Nat)} {E : List Int32} (hB : m_Bk h m l C R E) {X : z_X} (hX : m_X h m X) (day : Int64) : x_Ex G mX10_run h [x_r (some m), x_l day] (fun r h' => r = some (x_i (z_ra C R (z_V X C R (z_ed E day E.length) R.length) (z_OO X C R (z_ed E day E.length) R.length))) ∧ m_R1 h h' m (z_ed E day E.length) (z_V X C R (z_ed E day E.length) R.length) (z_OO X C R (z_ed E day E.length) R.length)) := by
  refine x_enter mwX10_run (Nat.le_of_ble_eq_true rfl) ?_
  show x_E _ _ _ _ _ [(0, x_r (some m)), (1, x_l day)] _ _
  refine x_aload_n (i := 0) (o := some m) dX10_run_0 rfl rfl ?_
  obtain ⟨_, h1, ⟨rfl, hg⟩, hcf⟩ := c_forget G hB.1.1
  have hB1 : m_Bk h1 m l C R E := hB.F hg.1 ⟨by omega, by omega, by omega⟩ (fun a z => by omega)
  refine x_callV (a := m) (av := []) (rest := []) (r := none) (h1 := h1) dX10_run_1 sX10_run_176 (by first | exact mPk_0 hB.1.1 | exact mPk_0 (hg.1.pm hB.1.1) | exact mPk_0 hB2.1.1 | exact mPk_0 hB3.1.1) rfl rfl (Nat.le_of_ble_eq_true rfl) ⟨Nat.le_refl _, Nat.le_refl _⟩ (hcf) ?_
  show x_E _ _ _ _ 4 _ [] _
  refine x_aload_n (i := 0) (o := some m) dX10_run_4 rfl rfl ?_
  refine x_aload_n (i := 0) (o := some m) dX10_run_5 rfl rfl ?_
  refine x_lload_n (i := 1) (x := day) dX10_run_6 rfl rfl ?_
  refine x_callV (a := m) (av := [x_l day]) (rest := [x_r (some m)]) (r := (some (x_i (z_ed E day E.length)))) (h1 := x_sI h1 1024 m 0) dX10_run_7 sX10_run_227 (by first | exact mPk_0 hB.1.1 | exact mPk_0 (hg.1.pm hB.1.1) | exact mPk_0 hB2.1.1 | exact mPk_0 hB3.1.1) rfl rfl (Nat.le_of_ble_eq_true rfl) hg.1.le (c_edition G hB1 day) ?_
  show x_E _ _ _ _ 10 _ [x_i (z_ed E day E.length), x_r (some m)] _
  refine x_putI (i := 1019) dX10_run_10 pX10_run_55 rfl rfl (by first | exact mPk_0 hB.1.1 | exact mPk_0 (hg.1.pm hB.1.1) | exact mPk_0 hB2.1.1 | exact mPk_0 hB3.1.1) (rfl) (by rfl) ?_
  refine x_iconst (v := 0) dX10_run_13 (by decide) ?_
  refine x_istore_n (i := 3) (lv' := [(0, x_r (some m)), (1, x_l day), (3, x_i 0)]) dX10_run_14 rfl (by decide) rfl ?_
  show x_E _ _ _ _ 15 _ _ _
  refine l_run G hB hX (z_ed E day E.length) day _ (fun h3 hI => ?_) R.length 0 _ (Nat.zero_le _) rfl ?_
  rotate_left
  · refine ⟨((hg.1.mono (P := (fun i a => a = m ∧ (i = 1019 ∨ i = 1023 ∨ i = 1024 ∨ i = 1026 ∨ i = 1027 ∨ i = 1028))) (R := (fun a => a = m + 14 ∨ a = m + 15 ∨ a = m + 16)) (fun i a z => ⟨z.1, by omega⟩) (fun a z => Or.inl z)).I ⟨rfl, by omega⟩).I ⟨rfl, by omega⟩, ?_, ?_, fun r hr => ⟨?_, fun z => absurd (show (0 : Int32) ≤ -5 from z) (by decide)⟩, ⟨?_, fun j c hj => by simp [z_OO] at hj⟩, ⟨List.nodup_nil, fun c hc => by cases hc⟩⟩
    · rw [x_fi_sI, if_pos ⟨rfl, rfl⟩]
    · rw [x_fi_sI, if_neg (by omega), x_fi_sI, if_pos ⟨rfl, rfl⟩]
    · exact hg.2.2.2 r hr
    · rw [x_fi_sI, if_neg (by omega), x_fi_sI, if_neg (by omega)]
      exact hg.2.2.1
  have hB3 : m_Bk h3 m l C R E := hB.F hI.1 ⟨by omega, by omega, by omega⟩ (fun a z => by omega)
  have h60 := hB.2.2.1
  have hI4 : m_R1 h (x_sI h3 1024 m 0) m (z_ed E day E.length) (z_V X C R (z_ed E day E.length) R.length) (z_OO X C R (z_ed E day E.length) R.length) := by
    obtain ⟨i1, i2, i3, i4, i5, i6⟩ := hI
    refine ⟨i1.I ⟨rfl, by omega⟩, ?_, ?_, i4, ⟨?_, i5.2⟩, i6⟩
    · rw [x_fi_sI, if_neg (by omega)]; exact i2
    · rw [x_fi_sI, if_pos ⟨rfl, rfl⟩]
    · rw [x_fi_sI, if_neg (by omega)]; exact i5.1
  refine x_aload_n (i := 0) (o := some m) dX10_run_47 rfl rfl ?_
  refine x_iconst (v := 0) dX10_run_48 (by decide) ?_
  refine x_iconst (v := 0) dX10_run_49 (by decide) ?_
  refine x_callV (a := m) (av := [x_i 0, x_i 0]) (rest := []) (r := (some (x_i (z_kt ((z_ops C R (z_V X C R (z_ed E day E.length) R.length) (z_OO X C R (z_ed E day E.length) R.length) 0).map nI) 0 0)))) (h1 := x_sI h3 1024 m 0) dX10_run_50 sX10_run_235 (by first | exact mPk_0 hB3.1.1) rfl rfl (Nat.le_of_ble_eq_true rfl) hI.1.le (by have k := c_openM G hB3 (fun r hr => hI.2.2.2.1 r (by omega)) hI.2.2.2.2.1 hI.2.2.2.2.2.le 0 0; rw [show z_ow C R (z_V X C R (z_ed E day E.length) R.length) 0 = nI from funext fun r => if_pos rfl] at k; exact k) ?_
  show x_E _ _ _ _ 53 _ [x_i (z_kt ((z_ops C R (z_V X C R (z_ed E day E.length) R.length) (z_OO X C R (z_ed E day E.length) R.length) 0).map nI) 0 0)] _
  refine x_istore_n (i := 3) (lv' := [(0, x_r (some m)), (1, x_l day), (3, x_i (z_kt ((z_ops C R (z_V X C R (z_ed E day E.length) R.length) (z_OO X C R (z_ed E day E.length) R.length) 0).map nI) 0 0))]) dX10_run_53 rfl (by decide) rfl ?_
  refine x_iload_n (i := 3) (x := z_kt ((z_ops C R (z_V X C R (z_ed E day E.length) R.length) (z_OO X C R (z_ed E day E.length) R.length) 0).map nI) 0 0) dX10_run_54 rfl rfl ?_
  refine x_iconst (v := (-1)) dX10_run_55 (by decide) ?_
  refine x_icmp_ne (tgt := 66) dX10_run_56 (by decide) (fun c56 => ?_) (fun c56 => ?_)
  · skip
    refine x_iconst (v := (-1)) dX10_run_66 (by decide) ?_
    refine x_iload_n (i := 3) (x := z_kt ((z_ops C R (z_V X C R (z_ed E day E.length) R.length) (z_OO X C R (z_ed E day E.length) R.length) 0).map nI) 0 0) dX10_run_67 rfl rfl ?_
    refine x_isub dX10_run_68 ?_
    refine x_ireturn dX10_run_69 rfl (rfl) hI.1.le ?_
    exact ⟨by rw [show z_ra C R (z_V X C R (z_ed E day E.length) R.length) (z_OO X C R (z_ed E day E.length) R.length) = _ from if_neg c56], hI4⟩
  · skip
    refine x_aload_n (i := 0) (o := some m) dX10_run_59 rfl rfl ?_
    refine x_getIv (v := nI (z_OO X C R (z_ed E day E.length) R.length).length) dX10_run_60 fX10_run_179 (i := 1023) rfl rfl (by first | exact mPk_0 hB3.1.1) ((by rw [x_fi_sI, if_neg (by omega)]; exact hI.2.2.2.2.1.1)) ?_
    refine x_goto (tgt := 69) dX10_run_63 (by decide) ?_
    refine x_ireturn dX10_run_69 rfl (rfl) hI.1.le ?_
    exact ⟨by rw [show z_ra C R (z_V X C R (z_ed E day E.length) R.length) (z_OO X C R (z_ed E day E.length) R.length) = _ from if_pos c56], hI4⟩
set_option maxHeartbeats 4000000 in
set_option maxRecDepth 100000 in
theorem c_walkM (G : x_G) {h : x_H} {m : Nat} {l : List (Nat × Nat)} {C : Nat → Int32} {R : List (Nat × Nat)} {E : List Int32} (hB : m_Bk h m l C R E) {X : z_X} (hX : m_X h m X) (day : Int64) : x_Ex G mX10_walk h [x_r (some m), x_l day] (fun r h' => r = some (x_i (z_ra C R (z_V X C R (z_ed E day E.length) R.length) (z_OO X C R (z_ed E day E.length) R.length))) ∧ m_R1 h h' m (z_ed E day E.length) (z_V X C R (z_ed E day E.length) R.length) (z_OO X C R (z_ed E day E.length) R.length)) := by
  refine x_enter mwX10_walk (Nat.le_of_ble_eq_true rfl) ?_
  show x_E _ _ _ _ _ [(0, x_r (some m)), (1, x_l day)] _ _
  refine x_aload_n (i := 0) (o := some m) dX10_walk_0 rfl rfl ?_
  refine x_lload_n (i := 1) (x := day) dX10_walk_1 rfl rfl ?_
  obtain ⟨_, h1, ⟨rfl, hI⟩, hcr⟩ := c_runM G hB hX day
  refine x_callV (a := m) (av := [x_l day]) (rest := []) (r := (some (x_i (z_ra C R (z_V X C R (z_ed E day E.length) R.length) (z_OO X C R (z_ed E day E.length) R.length))))) (h1 := h1) dX10_walk_2 sX10_walk_238 (mPk_0 hB.1.1) rfl rfl (Nat.le_of_ble_eq_true rfl) ⟨Nat.le_refl _, Nat.le_refl _⟩ (hcr) ?_
  show x_E _ _ _ _ 5 _ [x_i (z_ra C R (z_V X C R (z_ed E day E.length) R.length) (z_OO X C R (z_ed E day E.length) R.length))] _
  refine x_ireturn dX10_walk_5 rfl (rfl) hI.1.le ?_
  exact ⟨rfl, hI⟩
