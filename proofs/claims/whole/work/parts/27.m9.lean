/-! THE REFERENCE: the kept text; read -/
def m_K (h : x_H) (m : Nat) (l : List (Nat × Nat)) (C : Nat → Int32) : Prop := mP h m ∧ m_W h (m + 2) (m + 3) (m + 4) l ∧ x_fi h 1005 m = nI l.length ∧ C = m_C (x_rw h (m + 2)) l
theorem m_K.N {h : x_H} {m : Nat} {l : List (Nat × Nat)} {C : Nat → Int32} (hr : m_K h m l C) : q_N C l.length := by
  intro k hk
  rw [hr.2.2.2]
  exact m_C_out hk
theorem m_K.ll {h : x_H} {m : Nat} {l : List (Nat × Nat)} {C : Nat → Int32} (hr : m_K h m l C) : l.length ≤ 1500 := hr.2.1.2.1
theorem m_K.F {h h1 : x_H} {m : Nat} {l : List (Nat × Nat)} {C : Nat → Int32} (hr : m_K h m l C) {P : Nat → Nat → Prop} {R : Nat → Prop} (hF : x_F h h1 P R) (h5 : ¬ P 1005 m) (r2 : ¬ R (m + 2)) (r3 : ¬ R (m + 3)) (r4 : ¬ R (m + 4)) : m_K h1 m l C := by
  obtain ⟨a1, a2, a3, a4⟩ := hr
  refine ⟨hF.pm a1, ?_, (hF.fi h5).trans a3, ?_⟩
  · unfold m_W at a2 ⊢
    rw [hF.rw r2, hF.rw r3, hF.rw r4]
    exact a2
  · rw [hF.rw r2]
    exact a4
theorem k_has_t (G : x_G) {h : x_H} {m : Nat} {l : List (Nat × Nat)} {C : Nat → Int32} (hr : m_K h m l C) {a : Nat} (ha : a < 2 ^ 30) {K : Int64} {c : Int32} (hK : z_K K c) (hc : C a = c) : x_Call G mX10_has h [x_r (some m), x_i (nI a), x_l K] (some (x_i 1)) h := by
  have k := c_has G hr.1 hr.2.1 hr.2.2.1 ha hK
  rw [← hr.2.2.2, if_pos hc] at k
  exact k
theorem k_has_f (G : x_G) {h : x_H} {m : Nat} {l : List (Nat × Nat)} {C : Nat → Int32} (hr : m_K h m l C) {a : Nat} (ha : a < 2 ^ 30) {K : Int64} {c : Int32} (hK : z_K K c) (hc : ¬ C a = c) : x_Call G mX10_has h [x_r (some m), x_i (nI a), x_l K] (some (x_i 0)) h := by
  have k := c_has G hr.1 hr.2.1 hr.2.2.1 ha hK
  rw [← hr.2.2.2, if_neg hc] at k
  exact k
theorem k_num (G : x_G) {h : x_H} {m : Nat} {l : List (Nat × Nat)} {C : Nat → Int32} (hr : m_K h m l C) {a : Nat} (hc : 0 ≤ C a) : x_Call G mX10_number h [x_r (some m), x_i (nI a)] (some (x_i (C a))) h := by
  have k := c_number G hr.1 hr.2.1 (a := a) (hr.N.lt (z_neg1 hc))
  rw [← hr.2.2.2, if_pos hc] at k
  exact k
theorem m_C_congr {T S : Nat → Int32} {l : List (Nat × Nat)} {n : Nat} (h : ∀ i, i < n → T i = S i) (hl : ∀ (k : Nat) (q : Nat × Nat), l[k]? = some q → q.2 ≤ n) : m_C T l = m_C S l := by
  funext k
  unfold m_C
  cases hk : l[k]? with
  | none => rfl
  | some q =>
    dsimp only
    congr 1
    unfold z_sl
    refine List.map_congr_left fun i hi => h i ?_
    have := List.mem_range'_1.mp hi
    have := hl k q hk
    omega
theorem z_sc_mono (C : Nat → Int32) {a : Nat} : ∀ {b : Nat}, a ≤ b → (z_sc C a).1.length ≤ (z_sc C b).1.length := by
  intro b
  induction b with
  | zero => intro h; rw [show a = 0 by omega]; exact Nat.le_refl _
  | succ b ih =>
    intro h
    by_cases hb : a = b + 1
    · rw [hb]; exact Nat.le_refl _
    · have h1 := ih (by omega)
      have h2 : (z_sc C b).1.length ≤ (z_sc C (b + 1)).1.length := by
        show _ ≤ (if C b = -3 then _ else _ : List (Nat × Nat)).length
        split
        · rw [List.length_append]; omega
        · exact Nat.le_refl _
      omega
theorem z_sc_days (C : Nat → Int32) : ∀ k : Nat, (z_sc C k).2.length ≤ k ∧ (C 0 = -2 → 0 < k → 1 ≤ (z_sc C k).2.length)
  | 0 => ⟨Nat.le_refl _, fun _ h => by omega⟩
  | k + 1 => by
    obtain ⟨h1, h2⟩ := z_sc_days C k
    show (if C k = -2 then _ else _ : List Int32).length ≤ k + 1 ∧ (_ → _ → 1 ≤ (if C k = -2 then _ else _ : List Int32).length)
    split
    · rw [List.length_append]
      exact ⟨by simp; omega, fun _ _ => by simp⟩
    · rename_i h3
      refine ⟨by omega, fun h4 _ => ?_⟩
      by_cases hk : k = 0
      · subst hk; exact absurd h4 h3
      · exact h2 h4 (by omega)
def m_I3 (hc h1 : x_H) (m : Nat) (C : Nat → Int32) (k : Nat) : Prop := x_F hc h1 (fun i a => a = m ∧ (i = 1011 ∨ i = 1013)) (fun a => a = m + 7 ∨ a = m + 8 ∨ a = m + 9) ∧ x_fi h1 1011 m = nI (z_sc C k).1.length ∧ x_fi h1 1013 m = nI (z_sc C k).2.length ∧ (∀ (j : Nat) (q : Nat × Nat), (z_sc C k).1[j]? = some q → x_rw h1 (m + 7) j = nI q.1 ∧ x_rw h1 (m + 8) j = nI q.2) ∧ ∀ (j : Nat) (d : Int32), (z_sc C k).2[j]? = some d → x_rw h1 (m + 9) j = d
theorem m_get_app {α : Type} {l : List α} {x q : α} {j : Nat} (h : (l ++ [x])[j]? = some q) : (j < l.length ∧ l[j]? = some q) ∨ (j = l.length ∧ x = q) := by
  by_cases hl : j < l.length
  · rw [List.getElem?_append_left hl] at h
    exact Or.inl ⟨hl, h⟩
  · have hz := (List.getElem?_eq_some_iff.mp h).1
    rw [List.length_append] at hz
    have hj0 : j = l.length := by simp at hz; omega
    subst hj0
    rw [List.getElem?_append_right (by omega), Nat.sub_self] at h
    exact Or.inr ⟨rfl, by simpa using h⟩
theorem m_I3.from {hc h1 : x_H} {m : Nat} {C : Nat → Int32} {k : Nat} (a : m_I3 hc h1 m C k) (hk : C k = -2) : m_I3 hc (x_sI (x_sA h1 (m + 9) (z_sc C k).2.length (C (k + 1))) 1013 m (nI ((z_sc C k).2.length + 1))) m C (k + 1) := by
  obtain ⟨a1, a2, a3, a4, a5⟩ := a
  have e1 : z_sc C (k + 1) = ((z_sc C k).1, (z_sc C k).2 ++ [C (k + 1)]) := by
    show (if C k = -3 then _ else _, if C k = -2 then _ else _) = _
    rw [if_neg (by rw [hk]; decide), if_pos hk]
  unfold m_I3
  rw [e1]
  refine ⟨(a1.A (Or.inr (Or.inr rfl))).I ⟨rfl, Or.inr rfl⟩, ?_, ?_, fun j q hj => ?_, fun j d hj => ?_⟩
  · rw [x_fi_sI, if_neg (by omega)]
    exact a2
  · rw [x_fi_sI, if_pos ⟨rfl, rfl⟩, List.length_append]
    rfl
  · obtain ⟨b1, b2⟩ := a4 j q hj
    simp only [x_rw_sI, x_rw_sA]
    rw [if_neg (by omega), if_neg (by omega)]
    exact ⟨b1, b2⟩
  · simp only [x_rw_sI, x_rw_sA]
    rcases m_get_app hj with ⟨h1, h2⟩ | ⟨h1, h2⟩
    · rw [if_neg (by omega)]
      exact a5 j d h2
    · rw [if_pos ⟨trivial, h1⟩]
      exact h2
theorem m_I3.rule {hc h1 : x_H} {m : Nat} {C : Nat → Int32} {k : Nat} (a : m_I3 hc h1 m C k) (hk : C k = -3) : m_I3 hc (x_sI (x_sA (x_sA h1 (m + 7) (z_sc C k).1.length (nI k)) (m + 8) (z_sc C k).1.length (nI ((z_sc C k).2.length - 1))) 1011 m (nI ((z_sc C k).1.length + 1))) m C (k + 1) := by
  obtain ⟨a1, a2, a3, a4, a5⟩ := a
  have e1 : z_sc C (k + 1) = ((z_sc C k).1 ++ [(k, (z_sc C k).2.length - 1)], (z_sc C k).2) := by
    show (if C k = -3 then _ else _, if C k = -2 then _ else _) = _
    rw [if_pos hk, if_neg (by rw [hk]; decide)]
  unfold m_I3
  rw [e1]
  refine ⟨((a1.A (Or.inl rfl)).A (Or.inr (Or.inl rfl))).I ⟨rfl, Or.inl rfl⟩, ?_, ?_, fun j q hj => ?_, fun j d hj => ?_⟩
  · rw [x_fi_sI, if_pos ⟨rfl, rfl⟩, List.length_append]
    rfl
  · rw [x_fi_sI, if_neg (by omega)]
    exact a3
  · simp only [x_rw_sI, x_rw_sA]
    rcases m_get_app hj with ⟨h1, h2⟩ | ⟨h1, h2⟩
    · rw [if_neg (by omega), if_neg (by omega), if_neg (by omega), if_neg (by omega)]
      exact a4 j q h2
    · rw [if_neg (by omega), if_pos ⟨trivial, h1⟩, if_pos ⟨trivial, h1⟩, ← h2]
      exact ⟨rfl, rfl⟩
  · simp only [x_rw_sI, x_rw_sA]
    rw [if_neg (by omega), if_neg (by omega)]
    exact a5 j d hj
theorem m_I3.skip {hc h1 : x_H} {m : Nat} {C : Nat → Int32} {k : Nat} (a : m_I3 hc h1 m C k) (h2 : ¬ C k = -2) (h3 : ¬ C k = -3) : m_I3 hc h1 m C (k + 1) := by
  have e1 : z_sc C (k + 1) = z_sc C k := by
    show (if C k = -3 then _ else _, if C k = -2 then _ else _) = _
    rw [if_neg h3, if_neg h2]
  unfold m_I3
  rw [e1]
  exact a
set_option maxHeartbeats 4000000 in
set_option maxRecDepth 100000 in
theorem l_read3 (G : x_G) {h hc : x_H} {m : Nat} {l : List (Nat × Nat)} {C : Nat → Int32} (hK : m_K hc m l C) (hz : x_sz h ≤ x_sz hc ∧ x_us h ≤ x_us hc) (w v : Int32) (D : Room → x_Z → Prop) {F : Nat} (hfit : z_fit C F l.length 0) (h60 : (z_sc C l.length).1.length ≤ 60) (h00 : 0 < l.length → C 0 = -2) (kx : ∀ h1, m_I3 hc h1 m C l.length → x_E G mX10_read D h 240 [(0, x_r (some m)), (1, x_i 1), (2, x_i w), (3, x_i v), (4, x_i (nI l.length))] [] h1) : ∀ (f : Nat) (h1 : x_H) (k : Nat), k ≤ l.length → l.length - k = f → m_I3 hc h1 m C k → x_E G mX10_read D h 138 [(0, x_r (some m)), (1, x_i 1), (2, x_i w), (3, x_i v), (4, x_i (nI k))] [] h1 := by
  have hp := hK.1
  have hll := hK.ll
  intro f
  induction f with
  | zero =>
    intro h1 k hk hf hI
    have hK1 : m_K h1 m l C := hK.F hI.1 (by omega) (by omega) (by omega) (by omega)
    have hin : k = l.length := by omega
    subst hin
    refine x_iload (i := 4) (x := nI l.length) dX10_read_138 rfl ?_
    refine x_aload_n (i := 0) (o := some m) dX10_read_140 rfl rfl ?_
    refine x_getIv (v := nI l.length) dX10_read_141 fX10_read_159 (i := 1005) rfl rfl (mPk_0 (hI.1.pm hp)) (hK1.2.2.1) ?_
    refine x_icmp_ge (tgt := 240) dX10_read_144 (by decide) (fun c144 => ?_) (fun c144 => ?_)
    · skip
      exact kx h1 hI
    · skip
      exact absurd (nI_le (by omega) (by omega)) c144
  | succ f ih =>
    intro h1 k hk hf hI
    have hK1 : m_K h1 m l C := hK.F hI.1 (by omega) (by omega) (by omega) (by omega)
    have hdk := (z_sc_days C k).1
    have h00 := h00 (by omega)
    refine x_iload (i := 4) (x := nI k) dX10_read_138 rfl ?_
    refine x_aload_n (i := 0) (o := some m) dX10_read_140 rfl rfl ?_
    refine x_getIv (v := nI l.length) dX10_read_141 fX10_read_159 (i := 1005) rfl rfl (mPk_0 (hI.1.pm hp)) (hK1.2.2.1) ?_
    refine x_icmp_ge (tgt := 240) dX10_read_144 (by decide) (fun c144 => ?_) (fun c144 => ?_)
    · skip
      exact absurd ((nI_leI (by omega) (by omega)).mp c144) (by omega)
    · skip
      have q : k < l.length := Nat.lt_of_not_le fun z => c144 (nI_le z (by omega))
      refine x_aload_n (i := 0) (o := some m) dX10_read_147 rfl rfl ?_
      refine x_iload (i := 4) (x := nI k) dX10_read_148 rfl ?_
      refine x_ldc2 (v := 6013742957) dX10_read_150 kX10_read_148 ?_
      by_cases q2 : C k = -2
      · skip
        refine x_callV (a := m) (av := [x_i (nI k), x_l 6013742957]) (rest := []) (r := (some (x_i 1))) (h1 := h1) dX10_read_153 sX10_read_168 (mPk_0 (hI.1.pm hp)) rfl rfl (Nat.le_of_ble_eq_true rfl) ⟨Nat.le_trans hz.1 hI.1.le.1, Nat.le_trans hz.2 hI.1.le.2⟩ (k_has_t G hK1 (by omega) z_K_from q2) ?_
        show x_E _ _ _ _ 156 _ [x_i 1] _
        refine x_if_eq (tgt := 186) dX10_read_156 (by decide) (fun c => absurd c (by decide)) (fun _ => ?_)
        refine x_aload_n (i := 0) (o := some m) dX10_read_159 rfl rfl ?_
        refine x_getRv (v := some (m + 9)) dX10_read_160 fX10_read_35 (i := 1012) rfl rfl (mPk_0 (hI.1.pm hp)) (mPr_1012 (hI.1.pm hp)) ?_
        refine x_aload_n (i := 0) (o := some m) dX10_read_163 rfl rfl ?_
        refine x_getIv (v := nI (z_sc C k).2.length) dX10_read_164 fX10_read_165 (i := 1013) rfl rfl (mPk_0 (hI.1.pm hp)) (hI.2.2.1) ?_
        refine x_aload_n (i := 0) (o := some m) dX10_read_167 rfl rfl ?_
        refine x_iload (i := 4) (x := nI k) dX10_read_168 rfl ?_
        refine x_iconst (v := 1) dX10_read_170 (by decide) ?_
        refine x_iadd dX10_read_171 ?_
        rw [show (nI k) + 1 = nI (k + 1) from nI_1 k]
        have hf1 := ((hfit k (Nat.zero_le _) q).1 q2).1
        refine x_callV (a := m) (av := [x_i (nI (k + 1))]) (rest := [x_i (nI (z_sc C k).2.length), x_r (some (m + 9))]) (r := (some (x_i (C (k + 1))))) (h1 := h1) dX10_read_172 sX10_read_172 (mPk_0 (hI.1.pm hp)) rfl rfl (Nat.le_of_ble_eq_true rfl) ⟨Nat.le_trans hz.1 hI.1.le.1, Nat.le_trans hz.2 hI.1.le.2⟩ (k_num G hK1 hf1.1) ?_
        show x_E _ _ _ _ 175 _ [x_i (C (k + 1)), x_i (nI (z_sc C k).2.length), x_r (some (m + 9))] _
        refine x_iastoreN (n := (z_sc C k).2.length) (v := C (k + 1)) dX10_read_175 (mPk_9 (hI.1.pm hp)) (rfl) (by rw [mPl_9 (hI.1.pm hp)]; omega) (by rw [mPl_9 (hI.1.pm hp)]; omega) (rfl) ?_
        refine x_aload_n (i := 0) (o := some m) dX10_read_176 rfl rfl ?_
        refine x_dup dX10_read_177 rfl ?_
        refine x_getIv (v := nI (z_sc C k).2.length) dX10_read_178 fX10_read_165 (i := 1013) rfl rfl (mPk_0 (hI.1.pm hp)) (hI.2.2.1) ?_
        refine x_iconst (v := 1) dX10_read_181 (by decide) ?_
        refine x_iadd dX10_read_182 ?_
        rw [show (nI (z_sc C k).2.length) + 1 = nI ((z_sc C k).2.length + 1) from nI_1 _]
        refine x_putI (i := 1013) dX10_read_183 pX10_read_165 rfl rfl (mPk_0 (hI.1.pm hp)) (rfl) (by rfl) ?_
        refine x_aload_n (i := 0) (o := some m) dX10_read_186 rfl rfl ?_
        refine x_iload (i := 4) (x := nI k) dX10_read_187 rfl ?_
        refine x_ldc2 (v := 1526531715955) dX10_read_189 kX10_read_137 ?_
        refine x_callV (a := m) (av := [x_i (nI k), x_l 1526531715955]) (rest := []) (r := (some (x_i 0))) (h1 := x_sI (x_sA h1 (m + 9) ((z_sc C k).2.length) (C (k + 1))) 1013 m (nI ((z_sc C k).2.length + 1))) dX10_read_192 sX10_read_168 (mPk_0 (hI.1.pm hp)) rfl rfl (Nat.le_of_ble_eq_true rfl) ⟨Nat.le_trans hz.1 hI.1.le.1, Nat.le_trans hz.2 hI.1.le.2⟩ (k_has_f G (hK1.F (h1 := x_sI (x_sA h1 (m + 9) (z_sc C k).2.length (C (k + 1))) 1013 m (nI ((z_sc C k).2.length + 1))) (((x_F.rf : x_F h1 h1 (fun i a => i = 1013 ∧ a = m) (fun a => a = m + 9)).A rfl).I ⟨rfl, rfl⟩) (by omega) (by omega) (by omega) (by omega)) (by omega) z_K_class (by rw [q2]; decide)) ?_
        show x_E _ _ _ _ 195 _ [x_i 0] _
        refine x_if_eq (tgt := 234) dX10_read_195 (by decide) (fun _ => ?_) (fun c => absurd (by decide) c)
        refine x_iinc (i := 4) (x := nI k) (v := nI (k + 1)) (lv' := [(0, x_r (some m)), (1, x_i 1), (2, x_i w), (3, x_i v), (4, x_i (nI (k + 1)))]) dX10_read_234 rfl (nI_1 k) (by decide) rfl ?_
        refine x_goto (tgt := 138) dX10_read_237 (by decide) ?_
        exact ih _ (k + 1) (by omega) (by omega) (hI.from q2)
      · skip
        refine x_callV (a := m) (av := [x_i (nI k), x_l 6013742957]) (rest := []) (r := (some (x_i 0))) (h1 := h1) dX10_read_153 sX10_read_168 (mPk_0 (hI.1.pm hp)) rfl rfl (Nat.le_of_ble_eq_true rfl) ⟨Nat.le_trans hz.1 hI.1.le.1, Nat.le_trans hz.2 hI.1.le.2⟩ (k_has_f G hK1 (by omega) z_K_from q2) ?_
        show x_E _ _ _ _ 156 _ [x_i 0] _
        refine x_if_eq (tgt := 186) dX10_read_156 (by decide) (fun _ => ?_) (fun c => absurd (by decide) c)
        refine x_aload_n (i := 0) (o := some m) dX10_read_186 rfl rfl ?_
        refine x_iload (i := 4) (x := nI k) dX10_read_187 rfl ?_
        refine x_ldc2 (v := 1526531715955) dX10_read_189 kX10_read_137 ?_
        by_cases q3 : C k = -3
        · skip
          refine x_callV (a := m) (av := [x_i (nI k), x_l 1526531715955]) (rest := []) (r := (some (x_i 1))) (h1 := h1) dX10_read_192 sX10_read_168 (mPk_0 (hI.1.pm hp)) rfl rfl (Nat.le_of_ble_eq_true rfl) ⟨Nat.le_trans hz.1 hI.1.le.1, Nat.le_trans hz.2 hI.1.le.2⟩ (k_has_t G hK1 (by omega) z_K_class q3) ?_
          show x_E _ _ _ _ 195 _ [x_i 1] _
          refine x_if_eq (tgt := 234) dX10_read_195 (by decide) (fun c => absurd c (by decide)) (fun _ => ?_)
          refine x_aload_n (i := 0) (o := some m) dX10_read_198 rfl rfl ?_
          refine x_getRv (v := some (m + 7)) dX10_read_199 fX10_read_29 (i := 1009) rfl rfl (mPk_0 (hI.1.pm hp)) (mPr_1009 (hI.1.pm hp)) ?_
          refine x_aload_n (i := 0) (o := some m) dX10_read_202 rfl rfl ?_
          refine x_getIv (v := nI (z_sc C k).1.length) dX10_read_203 fX10_read_162 (i := 1011) rfl rfl (mPk_0 (hI.1.pm hp)) (hI.2.1) ?_
          refine x_iload (i := 4) (x := nI k) dX10_read_206 rfl ?_
          have hr1 : (z_sc C k).1.length + 1 ≤ 60 := by
            have y1 := z_sc_mono C (a := k + 1) (b := l.length) (by omega)
            have y2 : (z_sc C (k + 1)).1.length = (z_sc C k).1.length + 1 := by
              show (if C k = -3 then _ else _ : List (Nat × Nat)).length = _
              rw [if_pos q3, List.length_append]
              rfl
            omega
          have hd1 : 1 ≤ (z_sc C k).2.length := (z_sc_days C k).2 h00 (by
            by_cases hk0 : k = 0
            · subst hk0; rw [h00] at q3; exact absurd q3 (by decide)
            · omega)
          refine x_iastoreN (n := (z_sc C k).1.length) (v := nI k) dX10_read_208 (mPk_7 (hI.1.pm hp)) (rfl) (by rw [mPl_7 (hI.1.pm hp)]; omega) (by rw [mPl_7 (hI.1.pm hp)]; omega) (rfl) ?_
          refine x_aload_n (i := 0) (o := some m) dX10_read_209 rfl rfl ?_
          refine x_getRv (v := some (m + 8)) dX10_read_210 fX10_read_32 (i := 1010) rfl rfl (mPk_0 (hI.1.pm hp)) (mPr_1010 (hI.1.pm hp)) ?_
          refine x_aload_n (i := 0) (o := some m) dX10_read_213 rfl rfl ?_
          refine x_getIv (v := nI (z_sc C k).1.length) dX10_read_214 fX10_read_162 (i := 1011) rfl rfl (mPk_0 (hI.1.pm hp)) (hI.2.1) ?_
          refine x_aload_n (i := 0) (o := some m) dX10_read_217 rfl rfl ?_
          refine x_getIv (v := nI (z_sc C k).2.length) dX10_read_218 fX10_read_165 (i := 1013) rfl rfl (mPk_0 (hI.1.pm hp)) (hI.2.2.1) ?_
          refine x_iconst (v := 1) dX10_read_221 (by decide) ?_
          refine x_isub dX10_read_222 ?_
          rw [show (nI (z_sc C k).2.length) - 1 = nI ((z_sc C k).2.length - 1) from pk_sub (b := 1) hd1]
          refine x_iastoreN (n := (z_sc C k).1.length) (v := nI ((z_sc C k).2.length - 1)) dX10_read_223 (mPk_8 (hI.1.pm hp)) (rfl) (by show _ < x_ln h1 _; rw [mPl_8 (hI.1.pm hp)]; omega) (by show x_ln h1 _ < _; rw [mPl_8 (hI.1.pm hp)]; omega) (rfl) ?_
          refine x_aload_n (i := 0) (o := some m) dX10_read_224 rfl rfl ?_
          refine x_dup dX10_read_225 rfl ?_
          refine x_getIv (v := nI (z_sc C k).1.length) dX10_read_226 fX10_read_162 (i := 1011) rfl rfl (mPk_0 (hI.1.pm hp)) (hI.2.1) ?_
          refine x_iconst (v := 1) dX10_read_229 (by decide) ?_
          refine x_iadd dX10_read_230 ?_
          rw [show (nI (z_sc C k).1.length) + 1 = nI ((z_sc C k).1.length + 1) from nI_1 _]
          refine x_putI (i := 1011) dX10_read_231 pX10_read_162 rfl rfl (mPk_0 (hI.1.pm hp)) (rfl) (by rfl) ?_
          refine x_iinc (i := 4) (x := nI k) (v := nI (k + 1)) (lv' := [(0, x_r (some m)), (1, x_i 1), (2, x_i w), (3, x_i v), (4, x_i (nI (k + 1)))]) dX10_read_234 rfl (nI_1 k) (by decide) rfl ?_
          refine x_goto (tgt := 138) dX10_read_237 (by decide) ?_
          exact ih _ (k + 1) (by omega) (by omega) (hI.rule q3)
        · skip
          refine x_callV (a := m) (av := [x_i (nI k), x_l 1526531715955]) (rest := []) (r := (some (x_i 0))) (h1 := h1) dX10_read_192 sX10_read_168 (mPk_0 (hI.1.pm hp)) rfl rfl (Nat.le_of_ble_eq_true rfl) ⟨Nat.le_trans hz.1 hI.1.le.1, Nat.le_trans hz.2 hI.1.le.2⟩ (k_has_f G hK1 (by omega) z_K_class q3) ?_
          show x_E _ _ _ _ 195 _ [x_i 0] _
          refine x_if_eq (tgt := 234) dX10_read_195 (by decide) (fun _ => ?_) (fun c => absurd (by decide) c)
          refine x_iinc (i := 4) (x := nI k) (v := nI (k + 1)) (lv' := [(0, x_r (some m)), (1, x_i 1), (2, x_i w), (3, x_i v), (4, x_i (nI (k + 1)))]) dX10_read_234 rfl (nI_1 k) (by decide) rfl ?_
          refine x_goto (tgt := 138) dX10_read_237 (by decide) ?_
          exact ih h1 (k + 1) (by omega) (by omega) (hI.skip q2 q3)
