/-! THE CLASS: Reader: readText -/
theorem z_sc_from {C : Nat → Int32} {a : Nat} {lo hi : Int32} (h2 : C a = -2) (h3 : q_n C lo hi (a + 1)) : z_sc C (a + 2) = ((z_sc C a).1, (z_sc C a).2 ++ [C (a + 1)]) := by
  have e2 : z_sc C (a + 1) = ((z_sc C a).1, (z_sc C a).2 ++ [C (a + 1)]) := by
    show (if C a = -3 then _ else _, if C a = -2 then _ else _) = _
    rw [if_neg (by rw [h2]; decide), if_pos h2]
  show (if C (a + 1) = -3 then _ else (z_sc C (a + 1)).1, if C (a + 1) = -2 then _ else (z_sc C (a + 1)).2) = _
  rw [if_neg (z_cl_n h3).2.1, if_neg (z_cl_n h3).1, e2]
theorem z_sc_rule {C : Nat → Int32} {a b F : Nat} (hab : a < b) (h : q_rule C F a = (true, b)) : z_sc C b = ((z_sc C a).1 ++ [(a, (z_sc C a).2.length - 1)], (z_sc C a).2) := by
  obtain ⟨g1, g2, g3, g4, g5⟩ := q_rule_in h
  rw [z_sc_skip (by omega) g5]
  show (if C a = -3 then _ else _, if C a = -2 then _ else _) = _
  rw [if_pos g1, if_neg (by rw [g1]; decide)]
theorem z_ln_app (E : List Int32) (d : Int32) : z_ln (E ++ [d]) = d + 1 := by
  unfold z_ln
  simp
/-- a text is being read -/
def y_tl (h h1 : x_H) (w n a : Nat) (C : Nat → Int32) (bk : Nat) (rs es : List Nat) : Prop := y_F h h1 (fun f q => (f = 802 ∧ q = w) ∨ ((100 ≤ f ∧ f ≤ 105) ∧ q = bk)) (fun _ => False) ∧ c_T h1 w n a C ∧ y_bk C h1 bk rs (z_sc C a).1 es (z_sc C a).2 ∧ (∀ x ∈ rs, x_sz h ≤ x ∧ x_fi h1 605 x = -5) ∧ (∀ x ∈ es, x_sz h ≤ x) ∧ 2 * (x_sz h1 - x_sz h) ≤ a ∧ x_us h1 - x_us h ≤ 9 * (x_sz h1 - x_sz h)
/-- what reading a text has left -/
def y_tx (h h' : x_H) (w n : Nat) (C : Nat → Int32) (bk : Nat) (r : Option x_V) : Prop := y_F h h' (fun f q => (f = 802 ∧ q = w) ∨ ((100 ≤ f ∧ f ≤ 105) ∧ q = bk)) (fun _ => False) ∧ c_T h' w n (z_rd C n).2 C ∧ 2 * (x_sz h' - x_sz h) ≤ (z_rd C n).2 ∧ x_us h' - x_us h ≤ 9 * (x_sz h' - x_sz h) ∧ (((z_rd C n).1 = true ∧ r = some (x_i 1) ∧ ∃ rs es, y_bk C h' bk rs (z_sc C n).1 es (z_sc C n).2 ∧ (∀ x ∈ rs, x_sz h ≤ x ∧ x_fi h' 605 x = -5) ∧ ∀ x ∈ es, x_sz h ≤ x) ∨ ((z_rd C n).1 = false ∧ r = some (x_i 0)))
def q_al2 (C : Nat → Int32) (n f a ed ru : Nat) (least : Int32) : Bool × Nat := if ed = 0 then (false, a) else if 60 ≤ ru then (false, a) else match q_rule C 1501 a with
    | (false, b) => (false, b)
    | (true, b) => q_all C 1501 n f b ed (ru + 1) least
theorem q_all_1 {C : Nat → Int32} {n f a ed ru : Nat} {least : Int32} (h : ¬ n ≤ a) : q_all C 1501 n (f + 1) a ed ru least = if C a = -2 then if q_n C least 999999999 (a + 1) then q_all C 1501 n f (a + 2) (ed + 1) ru (C (a + 1) + 1) else (false, a + 1) else q_al2 C n f a ed ru least := if_neg h
theorem q_rul_e {C : Nat → Int32} {e m a : Nat} (h : (q_rul C e m a).1 = true) : q_rul C e m a = q_rule C 1501 a := by
  unfold q_rul at *
  split at h
  · cases h
  · rename_i h1
    split at h
    · cases h
    · rename_i h2
      rw [if_neg h1, if_neg h2]
theorem q_rul_60 {C : Nat → Int32} {e m a : Nat} (h : (q_rul C e m a).1 = true) : m < 60 ∧ ¬ e = 0 := by
  unfold q_rul at h
  split at h
  · cases h
  · rename_i h1
    split at h
    · cases h
    · rename_i h2
      exact ⟨by omega, h1⟩
theorem q_rul_t {C : Nat → Int32} {e m a : Nat} (h : (q_rul C e m a).1 = true) : ∃ b, q_rule C 1501 a = (true, b) := by
  refine ⟨(q_rule C 1501 a).2, ?_⟩
  rw [q_rul_e h] at h
  rw [← h]
theorem q_rul_y {C : Nat → Int32} {n f e m a b : Nat} {least : Int32} (h : (q_rul C e m a).1 = true) (hb : q_rule C 1501 a = (true, b)) : q_al2 C n f a e m least = q_all C 1501 n f b e (m + 1) least := by
  have h6 := q_rul_60 h
  unfold q_al2
  rw [if_neg h6.2, if_neg (by omega), hb]
theorem q_rul_n {C : Nat → Int32} {n f e m a : Nat} {least : Int32} (h : (q_rul C e m a).1 = false) : q_al2 C n f a e m least = (false, (q_rul C e m a).2) := by
  unfold q_al2 q_rul at *
  split at h
  · rename_i h1
    rw [if_pos h1, if_pos h1]
  · rename_i h1
    rw [if_neg h1, if_neg h1]
    split at h
    · rename_i h2
      rw [if_pos h2, if_pos h2]
    · rename_i h2
      rw [if_neg h2, if_neg h2]
      cases hq : q_rule C 1501 a with
      | mk u v =>
        rw [hq] at h
        dsimp only at h
        subst h
        rfl
theorem z_num1 {C : Nat → Int32} {lo : Int32} {a : Nat} (h : q_n C lo 999999999 a) : 0 ≤ C a + 1 := by
  obtain ⟨j, hj, e⟩ := nI_of2 (x := C a) (M := 999999999) (n := 999999999) (by decide) (Int32.not_lt.mpr h.1) h.2.2
  rw [e, nI_1]
  exact nI_pos' (by omega)
set_option maxHeartbeats 4000000 in
set_option maxRecDepth 100000 in
theorem l_readText {G : x_G} {ad st vl : Nat → Nat} {kt : Nat × Option Nat} (hG : x_GS G ad st vl kt) {h : x_H} {w n rd bk : Nat} {C : Nat → Int32} (hw : w + 1 < x_sz h) (hrd : rd < x_sz h ∧ x_kd h rd = 5 ∧ x_fr h 501 rd = some w) (hrb : x_fr h 500 rd = some bk) : ∀ (f a tt : Nat) (rs es : List Nat) (h1 : x_H), n - a < f → tt ≤ a → a ≤ n → z_rd C n = q_all C 1501 n f a (z_sc C a).2.length (z_sc C a).1.length (z_ln (z_sc C a).2) → 0 ≤ z_ln (z_sc C a).2 → (z_sc C a).1.length ≤ 60 → (z_sc C a).2.length ≤ a → y_tl h h1 w n a C bk rs es → x_E G mX5_readText (x_D G mX5_readText h (fun r h' => y_tx h h' w n C bk r)) h 2 [(0, x_r (some rd)), (1, x_i (nI tt))] [] h1 := by
  intro f
  induction f with
  | zero =>
    intro a tt rs es h1 hf
    omega
  | succ f ih =>
    intro a tt rs es h1 hf htt han hqa hln hr60 hea hS
    obtain ⟨s1, s2, s3, s4, s5, s6, s7⟩ := hS
    have h15 := s2.2.2.2.1
    have hle1 := s1.le
    have hr1 : x_kd h1 rd = 5 ∧ x_fr h1 501 rd = some w ∧ x_fr h1 500 rd = some bk := ⟨(s1.kd hrd.1).trans hrd.2.1, (s1.fr hrd.1 (by omega)).trans hrd.2.2, (s1.fr hrd.1 (by omega)).trans hrb⟩
    by_cases hna : n ≤ a
    · have ea : a = n := by omega
      subst ea
      refine x_iload_n (i := 1) (x := nI tt) dX5_readText_2 rfl rfl ?_
      refine x_sipush (v := 1500) dX5_readText_3 (by decide) ?_
      refine x_icmp_ge (tgt := 56) dX5_readText_6 (by decide) (fun c6 => ?_) (fun c6 => ?_)
      · skip
        refine x_aload_n (i := 0) (o := some rd) dX5_readText_56 rfl rfl ?_
        refine x_getRv (v := some w) dX5_readText_57 fX5_readText_18 (i := 501) rfl rfl (by first | (simp only [x_kd_sI, x_kd_sR, x_kd_sA]; exact hr1.1) | exact hr1.1 | exact hr2.1) ((by first | exact hr1.2.1 | (simp only [x_fr_sI]; exact hr1.2.1) | exact hr2.2)) ?_
        refine x_callV (a := w) (av := []) (rest := []) (r := (some (x_i 1))) (h1 := h1) dX5_readText_60 sX5_readText_22 (by first | (simp only [x_kd_sI, x_kd_sR, x_kd_sA]; exact s2.1.1) | exact s2.1.1 | exact hT2.1.1) rfl rfl (Nat.le_of_ble_eq_true rfl) hle1 (by have k := c_ended G s2; rw [if_pos (by omega)] at k; exact k) ?_
        show x_E _ _ _ _ 63 _ [x_i 1] _
        refine x_ireturn dX5_readText_63 rfl (rfl) hle1 ?_
        have eq : z_rd C a = (true, a) := by
          rw [hqa]
          exact if_pos (Nat.le_refl _)
        unfold y_tx
        rw [eq]
        exact ⟨s1, s2, by omega, s7, Or.inl ⟨rfl, rfl, rs, es, s3, s4, s5⟩⟩
      · skip
        refine x_aload_n (i := 0) (o := some rd) dX5_readText_9 rfl rfl ?_
        refine x_getRv (v := some w) dX5_readText_10 fX5_readText_18 (i := 501) rfl rfl (by first | (simp only [x_kd_sI, x_kd_sR, x_kd_sA]; exact hr1.1) | exact hr1.1 | exact hr2.1) ((by first | exact hr1.2.1 | (simp only [x_fr_sI]; exact hr1.2.1) | exact hr2.2)) ?_
        refine x_callV (a := w) (av := []) (rest := []) (r := (some (x_i 1))) (h1 := h1) dX5_readText_13 sX5_readText_22 (by first | (simp only [x_kd_sI, x_kd_sR, x_kd_sA]; exact s2.1.1) | exact s2.1.1 | exact hT2.1.1) rfl rfl (Nat.le_of_ble_eq_true rfl) hle1 (by have k := c_ended G s2; rw [if_pos (by omega)] at k; exact k) ?_
        show x_E _ _ _ _ 16 _ [x_i 1] _
        refine x_if_ne (tgt := 56) dX5_readText_16 (by decide) (fun _ => ?_) (fun c => absurd c (by decide))
        refine x_aload_n (i := 0) (o := some rd) dX5_readText_56 rfl rfl ?_
        refine x_getRv (v := some w) dX5_readText_57 fX5_readText_18 (i := 501) rfl rfl (by first | (simp only [x_kd_sI, x_kd_sR, x_kd_sA]; exact hr1.1) | exact hr1.1 | exact hr2.1) ((by first | exact hr1.2.1 | (simp only [x_fr_sI]; exact hr1.2.1) | exact hr2.2)) ?_
        refine x_callV (a := w) (av := []) (rest := []) (r := (some (x_i 1))) (h1 := h1) dX5_readText_60 sX5_readText_22 (by first | (simp only [x_kd_sI, x_kd_sR, x_kd_sA]; exact s2.1.1) | exact s2.1.1 | exact hT2.1.1) rfl rfl (Nat.le_of_ble_eq_true rfl) hle1 (by have k := c_ended G s2; rw [if_pos (by omega)] at k; exact k) ?_
        show x_E _ _ _ _ 63 _ [x_i 1] _
        refine x_ireturn dX5_readText_63 rfl (rfl) hle1 ?_
        have eq : z_rd C a = (true, a) := by
          rw [hqa]
          exact if_pos (Nat.le_refl _)
        unfold y_tx
        rw [eq]
        exact ⟨s1, s2, by omega, s7, Or.inl ⟨rfl, rfl, rs, es, s3, s4, s5⟩⟩
    · skip
      refine x_iload_n (i := 1) (x := nI tt) dX5_readText_2 rfl rfl ?_
      refine x_sipush (v := 1500) dX5_readText_3 (by decide) ?_
      refine x_icmp_ge (tgt := 56) dX5_readText_6 (by decide) (fun c6 => ?_) (fun c6 => ?_)
      · skip
        exact absurd ((nI_leI (a := 1500) (by omega) (by omega)).mp c6) (by omega)
      · skip
        refine x_aload_n (i := 0) (o := some rd) dX5_readText_9 rfl rfl ?_
        refine x_getRv (v := some w) dX5_readText_10 fX5_readText_18 (i := 501) rfl rfl (by first | (simp only [x_kd_sI, x_kd_sR, x_kd_sA]; exact hr1.1) | exact hr1.1 | exact hr2.1) ((by first | exact hr1.2.1 | (simp only [x_fr_sI]; exact hr1.2.1) | exact hr2.2)) ?_
        refine x_callV (a := w) (av := []) (rest := []) (r := (some (x_i 0))) (h1 := h1) dX5_readText_13 sX5_readText_22 (by first | (simp only [x_kd_sI, x_kd_sR, x_kd_sA]; exact s2.1.1) | exact s2.1.1 | exact hT2.1.1) rfl rfl (Nat.le_of_ble_eq_true rfl) (by first | exact hle1 | exact hle2) (by have k := c_ended G s2; rw [if_neg (by omega)] at k; exact k) ?_
        show x_E _ _ _ _ 16 _ [x_i 0] _
        refine x_if_ne (tgt := 56) dX5_readText_16 (by decide) (fun c => absurd c (by decide)) (fun _ => ?_)
        refine x_E.eq (h2 := x_sI h1 802 w (nI a)) ?_ rfl rfl rfl (x_sI_id s2.2.2.1).symm
        refine x_aload_n (i := 0) (o := some rd) dX5_readText_19 rfl rfl ?_
        refine x_getRv (v := some w) dX5_readText_20 fX5_readText_18 (i := 501) rfl rfl (by first | (simp only [x_kd_sI, x_kd_sR, x_kd_sA]; exact hr1.1) | exact hr1.1 | exact hr2.1) ((by first | exact hr1.2.1 | (simp only [x_fr_sI]; exact hr1.2.1) | exact hr2.2)) ?_
        refine x_gets (v := x_r (some (ad 0))) dX5_readText_23 fX5_readText_28 (fun U hU => ((hG U hU).2.2.1 0 (by decide)).1) ?_
        by_cases qf : C a = -2
        · skip
          refine x_callV (a := w) (av := [x_r (some (ad 0))]) (rest := []) (r := (some (x_i 1))) (h1 := x_sI h1 802 w (nI (a + 1))) dX5_readText_26 sX5_readText_34 (by first | (simp only [x_kd_sI, x_kd_sR, x_kd_sA]; exact s2.1.1) | exact s2.1.1 | exact hT2.1.1) rfl rfl (Nat.le_of_ble_eq_true rfl) (by first | exact hle1 | exact hle2) (d_take_t hG s2 (k := 0) (by decide) qf) ?_
          show x_E _ _ _ _ 29 _ [x_i 1] _
          refine x_if_eq (tgt := 39) dX5_readText_29 (by decide) (fun c => absurd c (by decide)) (fun _ => ?_)
          refine x_aload_n (i := 0) (o := some rd) dX5_readText_32 rfl rfl ?_
          obtain ⟨rr, h2, hc, hct⟩ := c_readDay hG (h := x_sI h1 802 w (nI (a + 1))) (a := a + 1) (rd := rd) (s2.to (by omega)) (by show w + 1 < x_sz h1; omega) ⟨by show rd < x_sz h1; omega, hr1.1, hr1.2.1⟩ (s3.F (h1 := x_sI h1 802 w (nI (a + 1))) ((y_F.rf (P := fun f _ => f = 802) (R := fun _ => False)).I (fun _ => rfl)) (fun f q z => by omega)) hr1.2.2 hln
          rcases hc with ⟨qd, rfl, hFd, hTd, hzd, hud, hbd⟩ | ⟨qd, rfl, rfl⟩
          · skip
            have hzd : x_sz h2 = x_sz h1 + 1 := hzd
            have hud : x_us h2 = x_us h1 + 2 := hud
            have hdn := hTd.2.2.2.2.1
            have hle2 : x_sz h ≤ x_sz h2 ∧ x_us h ≤ x_us h2 := ⟨by omega, by omega⟩
            refine x_callV (a := rd) (av := []) (rest := []) (r := (some (x_i 1))) (h1 := h2) dX5_readText_33 sX5_readText_38 (by first | (simp only [x_kd_sI, x_kd_sR, x_kd_sA]; exact hr1.1) | exact hr1.1 | exact hr2.1) rfl rfl (Nat.le_of_ble_eq_true rfl) (by first | exact hle1 | exact hle2) (hct) ?_
            show x_E _ _ _ _ 36 _ [x_i 1] _
            refine x_goto (tgt := 43) dX5_readText_36 (by decide) ?_
            refine x_istore_n (i := 2) (lv' := [(0, x_r (some rd)), (1, x_i (nI tt)), (2, x_i 1)]) dX5_readText_43 rfl (by decide) rfl ?_
            refine x_iload_n (i := 2) (x := 1) dX5_readText_44 rfl rfl ?_
            refine x_if_ne (tgt := 50) dX5_readText_45 (by decide) (fun _ => ?_) (fun c => absurd c (by decide))
            refine x_iinc (i := 1) (x := nI tt) (v := nI (tt + 1)) (lv' := [(0, x_r (some rd)), (1, x_i (nI (tt + 1))), (2, x_i 1)]) dX5_readText_50 rfl (nI_1 tt) (by decide) rfl ?_
            refine x_goto (tgt := 2) dX5_readText_53 (by decide) ?_
            show x_E _ _ _ _ 2 _ _ _
            have hsc := z_sc_from qf qd
            have hF2 : y_F h h2 (fun f q => (f = 802 ∧ q = w) ∨ ((100 ≤ f ∧ f ≤ 105) ∧ q = bk)) (fun _ => False) := (s1.I (fun _ => Or.inl ⟨rfl, rfl⟩)).tr hFd (fun _ _ z => z) (fun f q hq z => by
              rcases z with z | z | z
              · exact Or.inl z
              · exact Or.inr ⟨by omega, z.2⟩
              · exact absurd (s5 q z.2) (by omega)) (fun _ z => z) (fun _ _ z => z)
            refine x_drop [0, 1] rfl ?_
            refine ih (a + 2) (tt + 1) rs (es ++ [x_sz h1]) h2 (by omega) (by omega) (by omega) ?_ ?_ ?_ ?_ ?_
            · rw [hsc]
              rw [hqa, q_all_1 hna, if_pos qf, if_pos qd, z_ln_app, List.length_append]
              rfl
            · rw [hsc, z_ln_app]
              exact z_num1 qd
            · rw [hsc]
              exact hr60
            · rw [hsc, List.length_append]
              show (z_sc C a).2.length + 1 ≤ a + 2
              omega
            · refine ⟨hF2, hTd, by rw [hsc]; exact hbd, fun x hx => ⟨(s4 x hx).1, ?_⟩, fun x hx => ?_, by omega, by omega⟩
              · rw [hFd.fi (s3.2.2.2.2.2.2.2.1.2.1.2 x hx) (by omega), x_fi_sI, if_neg (by omega)]
                exact (s4 x hx).2
              · rcases List.mem_append.mp hx with hx | hx
                · exact s5 x hx
                · cases List.mem_singleton.mp hx
                  omega
          · skip
            refine x_callV (a := rd) (av := []) (rest := []) (r := (some (x_i 0))) (h1 := x_sI (x_sI h1 802 w (nI (a + 1))) 802 w (nI (a + 1))) dX5_readText_33 sX5_readText_38 (by first | (simp only [x_kd_sI, x_kd_sR, x_kd_sA]; exact hr1.1) | exact hr1.1 | exact hr2.1) rfl rfl (Nat.le_of_ble_eq_true rfl) (by first | exact hle1 | exact hle2) (hct) ?_
            show x_E _ _ _ _ 36 _ [x_i 0] _
            refine x_goto (tgt := 43) dX5_readText_36 (by decide) ?_
            refine x_istore_n (i := 2) (lv' := [(0, x_r (some rd)), (1, x_i (nI tt)), (2, x_i 0)]) dX5_readText_43 rfl (by decide) rfl ?_
            refine x_iload_n (i := 2) (x := 0) dX5_readText_44 rfl rfl ?_
            refine x_if_ne (tgt := 50) dX5_readText_45 (by decide) (fun c => absurd c (by decide)) (fun _ => ?_)
            refine x_iconst (v := 0) dX5_readText_48 (by decide) ?_
            refine x_ireturn dX5_readText_49 rfl (rfl) (by first | exact hle1 | exact hle2) ?_
            have eq : z_rd C n = (false, a + 1) := by
              rw [hqa, q_all_1 hna, if_pos qf, if_neg qd]
            unfold y_tx
            rw [eq]
            refine ⟨(s1.I (fun _ => Or.inl ⟨rfl, rfl⟩)).I (fun _ => Or.inl ⟨rfl, rfl⟩), (s2.to (b := a + 1) (by omega)).to (b := a + 1) (by omega), ?_, ?_, Or.inr ⟨rfl, rfl⟩⟩
            · show 2 * (x_sz h1 - x_sz h) ≤ a + 1
              omega
            · exact s7
        · skip
          refine x_callV (a := w) (av := [x_r (some (ad 0))]) (rest := []) (r := (some (x_i 0))) (h1 := x_sI h1 802 w (nI a)) dX5_readText_26 sX5_readText_34 (by first | (simp only [x_kd_sI, x_kd_sR, x_kd_sA]; exact s2.1.1) | exact s2.1.1 | exact hT2.1.1) rfl rfl (Nat.le_of_ble_eq_true rfl) (by first | exact hle1 | exact hle2) (d_take_f hG s2 (k := 0) (b := a) (by omega) (by decide) qf) ?_
          show x_E _ _ _ _ 29 _ [x_i 0] _
          refine x_if_eq (tgt := 39) dX5_readText_29 (by decide) (fun _ => ?_) (fun c => absurd (by decide) c)
          refine x_E.eq (h2 := h1) ?_ rfl rfl rfl (x_sI_id s2.2.2.1)
          refine x_aload_n (i := 0) (o := some rd) dX5_readText_39 rfl rfl ?_
          obtain ⟨rr, h2, ⟨hFr, hTr, hzr, hur, hc⟩, hct⟩ := c_readRule hG s2 (by omega) ⟨by omega, hr1.1, hr1.2.1⟩ s3 hr1.2.2 (by omega) (by omega)
          have hFr1 := hFr.le
          have hle2 : x_sz h ≤ x_sz h2 ∧ x_us h ≤ x_us h2 := ⟨by omega, by omega⟩
          rcases hc with ⟨eq1, rfl, hlt2, h65, hbr⟩ | ⟨eq1, rfl⟩
          · skip
            refine x_callV (a := rd) (av := []) (rest := []) (r := (some (x_i 1))) (h1 := h2) dX5_readText_40 sX5_readText_41 (by first | (simp only [x_kd_sI, x_kd_sR, x_kd_sA]; exact hr1.1) | exact hr1.1 | exact hr2.1) rfl rfl (Nat.le_of_ble_eq_true rfl) (by first | exact hle1 | exact hle2) (hct) ?_
            show x_E _ _ _ _ 43 _ [x_i 1] _
            refine x_istore_n (i := 2) (lv' := [(0, x_r (some rd)), (1, x_i (nI tt)), (2, x_i 1)]) dX5_readText_43 rfl (by decide) rfl ?_
            refine x_iload_n (i := 2) (x := 1) dX5_readText_44 rfl rfl ?_
            refine x_if_ne (tgt := 50) dX5_readText_45 (by decide) (fun _ => ?_) (fun c => absurd c (by decide))
            refine x_iinc (i := 1) (x := nI tt) (v := nI (tt + 1)) (lv' := [(0, x_r (some rd)), (1, x_i (nI (tt + 1))), (2, x_i 1)]) dX5_readText_50 rfl (nI_1 tt) (by decide) rfl ?_
            refine x_goto (tgt := 2) dX5_readText_53 (by decide) ?_
            show x_E _ _ _ _ 2 _ _ _
            obtain ⟨b, hqb⟩ : ∃ b, q_rule C 1501 a = (true, b) := q_rul_t eq1
            have hqru : q_rul C (z_sc C a).2.length (z_sc C a).1.length a = (true, b) := (q_rul_e eq1).trans hqb
            rw [hqru] at hTr hzr
            dsimp only at hTr hzr
            have hab : a < b := by omega
            have hbn : b ≤ n := hTr.2.2.2.2.1
            have hsc := z_sc_rule hab hqb
            have hF2 : y_F h h2 (fun f q => (f = 802 ∧ q = w) ∨ ((100 ≤ f ∧ f ≤ 105) ∧ q = bk)) (fun _ => False) := s1.tr hFr (fun _ _ z => z) (fun f q hq z => by
              rcases z with z | z | z
              · exact Or.inl z
              · exact Or.inr ⟨by omega, z.2⟩
              · exact absurd (s4 q z.2).1 (by omega)) (fun _ z => z) (fun _ _ z => z)
            refine x_drop [0, 1] rfl ?_
            refine ih b (tt + 1) (rs ++ [x_sz h1]) es h2 (by omega) (by omega) (by omega) ?_ ?_ ?_ ?_ ?_
            · rw [hsc]
              rw [hqa, q_all_1 hna, if_neg qf, q_rul_y eq1 hqb, List.length_append]
              rfl
            · rw [hsc]
              exact hln
            · rw [hsc, List.length_append]
              show (z_sc C a).1.length + 1 ≤ 60
              have := q_rul_60 eq1
              omega
            · rw [hsc]
              show (z_sc C a).2.length ≤ b
              omega
            · refine ⟨hF2, hTr, by rw [hsc]; exact hbr, fun x hx => ?_, s5, by omega, by omega⟩
              rcases List.mem_append.mp hx with hx | hx
              · refine ⟨(s4 x hx).1, ?_⟩
                rw [hFr.fi (s3.2.2.2.2.2.2.2.1.2.1.2 x hx) (by omega)]
                exact (s4 x hx).2
              · cases List.mem_singleton.mp hx
                exact ⟨by omega, h65⟩
          · skip
            refine x_callV (a := rd) (av := []) (rest := []) (r := (some (x_i 0))) (h1 := h2) dX5_readText_40 sX5_readText_41 (by first | (simp only [x_kd_sI, x_kd_sR, x_kd_sA]; exact hr1.1) | exact hr1.1 | exact hr2.1) rfl rfl (Nat.le_of_ble_eq_true rfl) (by first | exact hle1 | exact hle2) (hct) ?_
            show x_E _ _ _ _ 43 _ [x_i 0] _
            refine x_istore_n (i := 2) (lv' := [(0, x_r (some rd)), (1, x_i (nI tt)), (2, x_i 0)]) dX5_readText_43 rfl (by decide) rfl ?_
            refine x_iload_n (i := 2) (x := 0) dX5_readText_44 rfl rfl ?_
            refine x_if_ne (tgt := 50) dX5_readText_45 (by decide) (fun c => absurd c (by decide)) (fun _ => ?_)
            refine x_iconst (v := 0) dX5_readText_48 (by decide) ?_
            refine x_ireturn dX5_readText_49 rfl (rfl) (by first | exact hle1 | exact hle2) ?_
            have eq : z_rd C n = (false, (q_rul C (z_sc C a).2.length (z_sc C a).1.length a).2) := by
              rw [hqa, q_all_1 hna, if_neg qf, q_rul_n eq1]
            unfold y_tx
            rw [eq]
            refine ⟨s1.tr hFr (fun _ _ z => z) (fun f q hq z => by
              rcases z with z | z | z
              · exact Or.inl z
              · exact Or.inr ⟨by omega, z.2⟩
              · exact absurd (s4 q z.2).1 (by omega)) (fun _ z => z) (fun _ _ z => z), hTr, ?_, ?_, Or.inr ⟨rfl, rfl⟩⟩
            · show 2 * (x_sz h2 - x_sz h) ≤ (q_rul C (z_sc C a).2.length (z_sc C a).1.length a).2
              omega
            · omega
set_option maxHeartbeats 4000000 in
set_option maxRecDepth 100000 in
theorem c_readText {G : x_G} {ad st vl : Nat → Nat} {kt : Nat × Option Nat} (hG : x_GS G ad st vl kt) {h : x_H} {w n rd bk : Nat} {C : Nat → Int32} (hT : c_T h w n 0 C) (hw : w + 1 < x_sz h) (hrd : rd < x_sz h ∧ x_kd h rd = 5 ∧ x_fr h 501 rd = some w) (hrb : x_fr h 500 rd = some bk) (hb : y_bk C h bk [] [] [] []) : x_Ex G mX5_readText h [x_r (some rd)] (fun r h' => y_tx h h' w n C bk r) := by
  refine x_enter mwX5_readText (Nat.le_of_ble_eq_true rfl) ?_
  show x_E _ _ _ _ _ [(0, x_r (some rd))] _ _
  refine x_iconst (v := 0) dX5_readText_0 (by decide) ?_
  refine x_istore_n (i := 1) (lv' := [(0, x_r (some rd)), (1, x_i 0)]) dX5_readText_1 rfl (by decide) rfl ?_
  show x_E _ _ _ _ 2 _ _ _
  exact l_readText hG hw hrd hrb (n + 1) 0 0 [] [] h (by omega) (by omega) (by omega) rfl (by show (0 : Int32) ≤ 0; decide) (by show 0 ≤ 60; omega) (by show 0 ≤ 0; omega) ⟨y_F.rf, hT, hb, fun x hx => (by cases hx), fun x hx => (by cases hx), by omega, by omega⟩
