/-! THE REFERENCE: judge, edition -/
def m_O (h : x_H) (m : Nat) (O : List Int32) : Prop := x_fi h 1023 m = nI O.length ∧ ∀ (j : Nat) (c : Int32), O[j]? = some c → x_rw h (m + 16) j = c
def z_oa (O : List Int32) (w c : Int32) : List Int32 := if w = -2 ∧ ¬ c ∈ O then O ++ [c] else O
def m_Jd (h h' : x_H) (m k : Nat) (w : Int32) (O : List Int32) : Prop := x_F h h' (fun i a => a = m ∧ (i = 1023 ∨ i = 1026 ∨ i = 1027 ∨ i = 1028)) (fun a => a = m + 14 ∨ a = m + 15 ∨ a = m + 16) ∧ x_rw h' (m + 14) k = z_st w ∧ (0 ≤ w → x_rw h' (m + 15) k = w) ∧ (∀ j, ¬ j = k → x_rw h' (m + 14) j = x_rw h (m + 14) j ∧ x_rw h' (m + 15) j = x_rw h (m + 15) j) ∧ m_O h' m O
set_option maxHeartbeats 4000000 in
set_option maxRecDepth 100000 in
theorem l_judgeC (G : x_G) {h h4 : x_H} {m : Nat} {l : List (Nat × Nat)} {C : Nat → Int32} {R : List (Nat × Nat)} {E : List Int32} {k : Nat} {q : Nat × Nat} (hr : R[k]? = some q) {O : List Int32} (h20 : O.length ≤ 20) (h19 : ¬ C (q.1 + 1) ∈ O → O.length < 20) {w : Int32} (hF4 : x_F h h4 (fun i a => a = m ∧ (i = 1023 ∨ i = 1026 ∨ i = 1027 ∨ i = 1028)) (fun a => a = m + 14 ∨ a = m + 15 ∨ a = m + 16)) (hw4 : x_rw h4 (m + 14) k = z_st w) (hl4 : 0 ≤ w → x_rw h4 (m + 15) k = w) (ho4 : ∀ j, ¬ j = k → x_rw h4 (m + 14) j = x_rw h (m + 14) j ∧ x_rw h4 (m + 15) j = x_rw h (m + 15) j) (hO4 : m_O h4 m O) (hB4 : m_Bk h4 m l C R E) : x_E G mX10_judge (x_D G mX10_judge h (fun r h' => r = none ∧ m_Jd h h' m k w (z_oa O w (C (q.1 + 1))))) h 149 [(0, x_r (some m)), (1, x_i (nI k)), (2, x_i (z_st w))] [] h4 := by
  refine x_iload_n (i := 2) (x := z_st w) dX10_judge_149 rfl rfl ?_
  refine x_iconst (v := 1) dX10_judge_150 (by decide) ?_
  refine x_icmp_ne (tgt := 190) dX10_judge_151 (by decide) (fun c151 => ?_) (fun c151 => ?_)
  · skip
    have e51 : ¬ w = -2 := fun z => c151 (z_st_1.mpr z)
    refine x_return dX10_judge_190 rfl hF4.le ?_
    rw [show z_oa O w (C (q.1 + 1)) = O from if_neg (fun z => e51 z.1)]
    exact ⟨rfl, hF4, hw4, hl4, ho4, hO4⟩
  · skip
    have e51 : w = -2 := z_st_1.mp c151
    refine x_aload_n (i := 0) (o := some m) dX10_judge_154 rfl rfl ?_
    refine x_aload_n (i := 0) (o := some m) dX10_judge_155 rfl rfl ?_
    refine x_iload_n (i := 1) (x := nI k) dX10_judge_156 rfl rfl ?_
    refine x_callV (a := m) (av := [x_i (nI k)]) (rest := [x_r (some m)]) (r := (some (x_i (C (q.1 + 1))))) (h1 := h4) dX10_judge_157 sX10_judge_198 (mPk_0 hB4.1.1) rfl rfl (Nat.le_of_ble_eq_true rfl) hF4.le (c_classOf G hB4 hr) ?_
    show x_E _ _ _ _ 160 _ [x_i (C (q.1 + 1)), x_r (some m)] _
    by_cases qm : C (q.1 + 1) ∈ O
    · skip
      refine x_callV (a := m) (av := [x_i (C (q.1 + 1))]) (rest := []) (r := (some (x_i 1))) (h1 := h4) dX10_judge_160 sX10_judge_224 (mPk_0 hB4.1.1) rfl rfl (Nat.le_of_ble_eq_true rfl) hF4.le (by have k := c_holds G hB4.1.1 hO4 h20 (C (q.1 + 1)); rw [if_pos qm] at k; exact k) ?_
      show x_E _ _ _ _ 163 _ [x_i 1] _
      refine x_if_ne (tgt := 190) dX10_judge_163 (by decide) (fun _ => ?_) (fun c => absurd c (by decide))
      refine x_return dX10_judge_190 rfl hF4.le ?_
      rw [show z_oa O w (C (q.1 + 1)) = O from if_neg (fun z => z.2 qm)]
      exact ⟨rfl, hF4, hw4, hl4, ho4, hO4⟩
    · skip
      refine x_callV (a := m) (av := [x_i (C (q.1 + 1))]) (rest := []) (r := (some (x_i 0))) (h1 := h4) dX10_judge_160 sX10_judge_224 (mPk_0 hB4.1.1) rfl rfl (Nat.le_of_ble_eq_true rfl) hF4.le (by have k := c_holds G hB4.1.1 hO4 h20 (C (q.1 + 1)); rw [if_neg qm] at k; exact k) ?_
      show x_E _ _ _ _ 163 _ [x_i 0] _
      refine x_if_ne (tgt := 190) dX10_judge_163 (by decide) (fun c => absurd c (by decide)) (fun _ => ?_)
      refine x_aload_n (i := 0) (o := some m) dX10_judge_166 rfl rfl ?_
      refine x_getRv (v := some (m + 16)) dX10_judge_167 fX10_judge_65 (i := 1022) rfl rfl (mPk_0 hB4.1.1) (mPr_1022 hB4.1.1) ?_
      refine x_aload_n (i := 0) (o := some m) dX10_judge_170 rfl rfl ?_
      refine x_getIv (v := nI O.length) dX10_judge_171 fX10_judge_179 (i := 1023) rfl rfl (mPk_0 hB4.1.1) (hO4.1) ?_
      refine x_aload_n (i := 0) (o := some m) dX10_judge_174 rfl rfl ?_
      refine x_iload_n (i := 1) (x := nI k) dX10_judge_175 rfl rfl ?_
      refine x_callV (a := m) (av := [x_i (nI k)]) (rest := [x_i (nI O.length), x_r (some (m + 16))]) (r := (some (x_i (C (q.1 + 1))))) (h1 := h4) dX10_judge_176 sX10_judge_198 (mPk_0 hB4.1.1) rfl rfl (Nat.le_of_ble_eq_true rfl) hF4.le (c_classOf G hB4 hr) ?_
      show x_E _ _ _ _ 179 _ [x_i (C (q.1 + 1)), x_i (nI O.length), x_r (some (m + 16))] _
      refine x_iastoreN (n := O.length) (v := C (q.1 + 1)) dX10_judge_179 (mPk_16 hB4.1.1) (rfl) (by rw [mPl_16 hB4.1.1]; exact h19 qm) (by rw [mPl_16 hB4.1.1]; omega) (rfl) ?_
      refine x_aload_n (i := 0) (o := some m) dX10_judge_180 rfl rfl ?_
      refine x_dup dX10_judge_181 rfl ?_
      refine x_getIv (v := nI O.length) dX10_judge_182 fX10_judge_179 (i := 1023) rfl rfl (mPk_0 hB4.1.1) (hO4.1) ?_
      refine x_iconst (v := 1) dX10_judge_185 (by decide) ?_
      refine x_iadd dX10_judge_186 ?_
      rw [show (nI O.length) + 1 = nI (O.length + 1) from nI_1 _]
      refine x_putI (i := 1023) dX10_judge_187 pX10_judge_179 rfl rfl (mPk_0 hB4.1.1) (rfl) (by rfl) ?_
      refine x_return dX10_judge_190 rfl hF4.le ?_
      rw [show z_oa O w (C (q.1 + 1)) = O ++ [C (q.1 + 1)] from if_pos ⟨e51, qm⟩]
      refine ⟨rfl, (hF4.A (Or.inr (Or.inr rfl))).I ⟨rfl, Or.inl rfl⟩, ?_, fun z => ?_, fun j hj => ?_, ?_, fun j c hj => ?_⟩
      · rw [x_rw_sI, x_rw_sA, if_neg (by omega)]; exact hw4
      · rw [x_rw_sI, x_rw_sA, if_neg (by omega)]; exact hl4 z
      · simp only [x_rw_sI, x_rw_sA]
        rw [if_neg (by omega), if_neg (by omega)]
        exact ho4 j hj
      · rw [x_fi_sI, if_pos ⟨rfl, rfl⟩, List.length_append]
        rfl
      · rw [x_rw_sI, x_rw_sA]
        rcases m_get_app hj with ⟨y1, y2⟩ | ⟨y1, y2⟩
        · rw [if_neg (by omega)]
          exact hO4.2 j c y2
        · rw [if_pos ⟨rfl, y1⟩]
          exact y2
set_option maxHeartbeats 4000000 in
set_option maxRecDepth 100000 in
theorem l_judgeB (G : x_G) {h : x_H} {m : Nat} {l : List (Nat × Nat)} {C : Nat → Int32} {R : List (Nat × Nat)} {E : List Int32} (hB : m_Bk h m l C R E) {X : z_X} (hX : m_X h m X) {V : Nat → Int32} {k : Nat} {q : Nat × Nat} (hr : R[k]? = some q) (hV : m_V h m V k) {O : List Int32} (hO : m_O h m O) (h20 : O.length ≤ 20) (h19 : ¬ C (q.1 + 1) ∈ O → O.length < 20) {N e : Nat} (hqs : q_items C 1501 N (q.1 + 3) = (true, e)) {w : Int32} (hw : z_rv X C R V k q.2 (q_its C 1501 N (q.1 + 3)) (-2) = w) : x_E G mX10_judge (x_D G mX10_judge h (fun r h' => r = none ∧ m_Jd h h' m k w (z_oa O w (C (q.1 + 1))))) h 31 [(0, x_r (some m)), (1, x_i (nI k)), (2, x_i 1), (3, x_i (nI (q.1 + 3)))] [] (x_sA h (m + 15) k (-1)) := by
  obtain ⟨h7, h8, hk6, hq1, hq2, hc, -⟩ := hB.at hr
  have hJ0 : m_J h (x_sA h (m + 15) k (-1)) m k (-2) := ⟨x_F.rf.A rfl, fun j hj => by rw [x_rw_sA, if_neg (fun z => hj z.2)], fun _ => by rw [x_rw_sA, if_pos ⟨rfl, rfl⟩], fun z => absurd z (by decide)⟩
  refine l_judge G hB hX hr hV h ⟨Nat.le_refl _, Nat.le_refl _⟩ _ N (q.1 + 3) (-2) _ (by omega) hqs (Or.inl rfl) hJ0 (fun h3 hJ hw3 => ?_)
  rw [hw] at hJ hw3 ⊢
  have hB3 : m_Bk h3 m l C R E := hB.F hJ.1 ⟨by omega, by omega, by omega⟩ (fun a z => by omega)
  have hF4 : x_F h (x_sA h3 (m + 14) k (z_st w)) (fun i a => a = m ∧ (i = 1023 ∨ i = 1026 ∨ i = 1027 ∨ i = 1028)) (fun a => a = m + 14 ∨ a = m + 15 ∨ a = m + 16) := (hJ.1.mono (P := fun i a => a = m ∧ (i = 1023 ∨ i = 1026 ∨ i = 1027 ∨ i = 1028)) (R := fun a => a = m + 14 ∨ a = m + 15 ∨ a = m + 16) (fun i a z => ⟨z.1, by omega⟩) (fun a z => Or.inr (Or.inl z))).A (Or.inl rfl)
  have hw4 : x_rw (x_sA h3 (m + 14) k (z_st w)) (m + 14) k = z_st w := by rw [x_rw_sA, if_pos ⟨rfl, rfl⟩]
  have hl4 : 0 ≤ w → x_rw (x_sA h3 (m + 14) k (z_st w)) (m + 15) k = w := fun z => by rw [x_rw_sA, if_neg (by omega)]; exact hJ.2.2.2 z
  have ho4 : ∀ j, ¬ j = k → x_rw (x_sA h3 (m + 14) k (z_st w)) (m + 14) j = x_rw h (m + 14) j ∧ x_rw (x_sA h3 (m + 14) k (z_st w)) (m + 15) j = x_rw h (m + 15) j := by
    intro j hj
    refine ⟨?_, ?_⟩
    · rw [x_rw_sA, if_neg (fun z => hj z.2), hJ.1.rw (by omega)]
    · rw [x_rw_sA, if_neg (by omega)]
      exact hJ.2.1 j hj
  have hO4 : m_O (x_sA h3 (m + 14) k (z_st w)) m O := by
    refine ⟨?_, fun j c hj => ?_⟩
    · show x_fi h3 1023 m = _
      rw [hJ.1.fi (by omega)]
      exact hO.1
    · rw [x_rw_sA, if_neg (by omega), hJ.1.rw (by omega)]
      exact hO.2 j c hj
  have hB4 : m_Bk (x_sA h3 (m + 14) k (z_st w)) m l C R E := hB.F hF4 ⟨by omega, by omega, by omega⟩ (fun a z => by omega)
  refine x_aload_n (i := 0) (o := some m) dX10_judge_142 rfl rfl ?_
  refine x_getRv (v := some (m + 14)) dX10_judge_143 fX10_judge_59 (i := 1020) rfl rfl (mPk_0 (hJ.1.pm hB.1.1)) (mPr_1020 (hJ.1.pm hB.1.1)) ?_
  refine x_iload_n (i := 1) (x := nI k) dX10_judge_146 rfl rfl ?_
  refine x_iload_n (i := 2) (x := z_st w) dX10_judge_147 rfl rfl ?_
  refine x_iastoreN (n := k) (v := z_st w) dX10_judge_148 (mPk_14 (hJ.1.pm hB.1.1)) (rfl) (by rw [mPl_14 (hJ.1.pm hB.1.1)]; omega) (by rw [mPl_14 (hJ.1.pm hB.1.1)]; omega) (rfl) ?_
  show x_E _ _ _ _ 149 _ _ _
  generalize x_sA h3 (m + 14) k (z_st w) = h4 at hF4 hw4 hl4 ho4 hO4 hB4 ⊢
  have k9 := l_judgeC G hr h20 h19 hF4 hw4 hl4 ho4 hO4 hB4
  show x_E _ _ _ _ 149 _ _ _
  exact k9
set_option maxHeartbeats 4000000 in
set_option maxRecDepth 100000 in
theorem c_judge (G : x_G) {h : x_H} {m : Nat} {l : List (Nat × Nat)} {C : Nat → Int32} {R : List (Nat × Nat)} {E : List Int32} (hB : m_Bk h m l C R E) {X : z_X} (hX : m_X h m X) {V : Nat → Int32} {k : Nat} {q : Nat × Nat} (hr : R[k]? = some q) (hV : m_V h m V k) {O : List Int32} (hO : m_O h m O) (h20 : O.length ≤ 20) (h19 : ¬ C (q.1 + 1) ∈ O → O.length < 20) : x_Ex G mX10_judge h [x_r (some m), x_i (nI k)] (fun r h' => r = none ∧ m_Jd h h' m k (z_jd X C R V k q) (z_oa O (z_jd X C R V k q) (C (q.1 + 1)))) := by
  obtain ⟨h7, h8, hk6, hq1, hq2, hc, e, hqs⟩ := hB.at hr
  have hjd : z_ps X C R q = false → z_rv X C R V k q.2 (z_its C q) (-2) = z_jd X C R V k q := fun z => (if_neg (by rw [z]; decide)).symm
  refine x_enter mwX10_judge (Nat.le_of_ble_eq_true rfl) ?_
  show x_E _ _ _ _ _ [(0, x_r (some m)), (1, x_i (nI k))] _ _
  refine x_aload_n (i := 0) (o := some m) dX10_judge_0 rfl rfl ?_
  refine x_iload_n (i := 1) (x := nI k) dX10_judge_1 rfl rfl ?_
  rcases hps : z_ps X C R q with _ | _
  · skip
    refine x_callV (a := m) (av := [x_i (nI k)]) (rest := []) (r := (some (x_i 0))) (h1 := h) dX10_judge_2 sX10_judge_211 (mPk_0 hB.1.1) rfl rfl (Nat.le_of_ble_eq_true rfl) ⟨Nat.le_refl _, Nat.le_refl _⟩ (by have k := c_isPassed G hB hX hr; rw [hps] at k; exact k) ?_
    show x_E _ _ _ _ 5 _ [x_i 0] _
    refine x_if_eq (tgt := 16) dX10_judge_5 (by decide) (fun _ => ?_) (fun c => absurd (by decide) c)
    refine x_iconst (v := 1) dX10_judge_16 (by decide) ?_
    refine x_istore_n (i := 2) (lv' := [(0, x_r (some m)), (1, x_i (nI k)), (2, x_i 1)]) dX10_judge_17 rfl (by decide) rfl ?_
    refine x_aload_n (i := 0) (o := some m) dX10_judge_18 rfl rfl ?_
    refine x_getRv (v := some (m + 15)) dX10_judge_19 fX10_judge_62 (i := 1021) rfl rfl (mPk_0 hB.1.1) (mPr_1021 hB.1.1) ?_
    refine x_iload_n (i := 1) (x := nI k) dX10_judge_22 rfl rfl ?_
    refine x_iconst (v := (-1)) dX10_judge_23 (by decide) ?_
    refine x_iastoreN (n := k) (v := (-1)) dX10_judge_24 (mPk_15 hB.1.1) (rfl) (by rw [mPl_15 hB.1.1]; omega) (by rw [mPl_15 hB.1.1]; omega) (rfl) ?_
    refine x_aload_n (i := 0) (o := some m) dX10_judge_25 rfl rfl ?_
    refine x_iload_n (i := 1) (x := nI k) dX10_judge_26 rfl rfl ?_
    refine x_callV (a := m) (av := [x_i (nI k)]) (rest := []) (r := (some (x_i (nI (q.1 + 3))))) (h1 := x_sA h (m + 15) k ((-1))) dX10_judge_27 sX10_judge_201 (mPk_0 hB.1.1) rfl rfl (Nat.le_of_ble_eq_true rfl) ⟨Nat.le_refl _, Nat.le_refl _⟩ (c_firstItem G (hB.F (((x_F.rf : x_F h h (fun _ _ => False) (fun a => a = m + 15)).A rfl) : x_F h (x_sA h (m + 15) k (-1)) _ _) ⟨fun z => z, fun z => z, fun z => z⟩ (fun a z => by omega)) hr) ?_
    show x_E _ _ _ _ 30 _ [x_i (nI (q.1 + 3))] _
    refine x_istore_n (i := 3) (lv' := [(0, x_r (some m)), (1, x_i (nI k)), (2, x_i 1), (3, x_i (nI (q.1 + 3)))]) dX10_judge_30 rfl (by decide) rfl ?_
    show x_E _ _ _ _ 31 _ _ _
    exact l_judgeB G hB hX hr hV hO h20 h19 (N := 1501) hqs (hjd hps)
  · skip
    refine x_callV (a := m) (av := [x_i (nI k)]) (rest := []) (r := (some (x_i 1))) (h1 := h) dX10_judge_2 sX10_judge_211 (mPk_0 hB.1.1) rfl rfl (Nat.le_of_ble_eq_true rfl) ⟨Nat.le_refl _, Nat.le_refl _⟩ (by have k := c_isPassed G hB hX hr; rw [hps] at k; exact k) ?_
    show x_E _ _ _ _ 5 _ [x_i 1] _
    refine x_if_eq (tgt := 16) dX10_judge_5 (by decide) (fun c => absurd c (by decide)) (fun _ => ?_)
    refine x_aload_n (i := 0) (o := some m) dX10_judge_8 rfl rfl ?_
    refine x_getRv (v := some (m + 14)) dX10_judge_9 fX10_judge_59 (i := 1020) rfl rfl (mPk_0 hB.1.1) (mPr_1020 hB.1.1) ?_
    refine x_iload_n (i := 1) (x := nI k) dX10_judge_12 rfl rfl ?_
    refine x_iconst (v := 3) dX10_judge_13 (by decide) ?_
    refine x_iastoreN (n := k) (v := 3) dX10_judge_14 (mPk_14 hB.1.1) (rfl) (by rw [mPl_14 hB.1.1]; omega) (by rw [mPl_14 hB.1.1]; omega) (rfl) ?_
    refine x_return dX10_judge_15 rfl ⟨Nat.le_refl _, Nat.le_refl _⟩ ?_
    have ew : z_jd X C R V k q = -4 := if_pos hps
    rw [ew]
    refine ⟨rfl, x_F.rf.A (Or.inl rfl), ?_, fun z => absurd z (by decide), fun j hj => ⟨?_, ?_⟩, hO.1, fun j c hj => ?_⟩
    · rw [x_rw_sA, if_pos ⟨rfl, rfl⟩]; rfl
    · rw [x_rw_sA, if_neg (fun z => hj z.2)]
    · rw [x_rw_sA, if_neg (by omega)]
    · rw [x_rw_sA, if_neg (by omega)]
      exact hO.2 j c hj
/-- the reference's edition: the last whose day is not greater -/
def z_ed (E : List Int32) (day : Int64) : Nat → Int32
  | 0 => -1
  | k + 1 => match E[k]? with
    | some d => if d.toInt64 ≤ day then nI k else z_ed E day k
    | none => z_ed E day k
