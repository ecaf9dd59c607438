/-! ONE CALL ON BOTH SIDES -/
def s_I (G : x_G) (h : x_H) (ca m : Nat) (M M' : x_M) (av : List x_V) : Prop := ∃ (v : Int32) (h1 h2 : x_H), x_kd h1 m = 10 ∧ x_Call G M h (x_r (some ca) :: av) (some (x_i v)) h1 ∧ x_Call G M' h1 (x_r (some m) :: av) (some (x_i v)) h2 ∧ s_S h2 ca m ∧ x_sz h2 ≤ x_sz h + 752 ∧ x_us h2 ≤ x_us h + 6759
def s_L (G : x_G) (h : x_H) (ca m : Nat) (M M' : x_M) (av : List x_V) : Prop := ∃ (v : Int64) (h1 h2 : x_H), x_kd h1 m = 10 ∧ x_Call G M h (x_r (some ca) :: av) (some (x_l v)) h1 ∧ x_Call G M' h1 (x_r (some m) :: av) (some (x_l v)) h2 ∧ s_S h2 ca m ∧ x_sz h2 ≤ x_sz h + 752 ∧ x_us h2 ≤ x_us h + 6759
def s_N (G : x_G) (h : x_H) (ca m : Nat) (M M' : x_M) (av : List x_V) : Prop := ∃ (h1 h2 : x_H), x_kd h1 m = 10 ∧ x_Call G M h (x_r (some ca) :: av) none h1 ∧ x_Call G M' h1 (x_r (some m) :: av) none h2 ∧ s_S h2 ca m ∧ x_sz h2 ≤ x_sz h + 752 ∧ x_us h2 ≤ x_us h + 6759
theorem s_q {h h2 : x_H} {ca m n : Nat} {K : List Int32} {l : List (Nat × Nat)} {C : Nat → Int32} {R : List (Nat × Nat)} {E : List Int32} {X : z_X} {V : Nat → Int32} {O : List Int32} {act : Int32} (hm : m = ca + 11) (hla : x_kd h (m + 17) = 23 ∧ x_ln h (m + 17) = 1) (c : s_C h ca n K C R E X V act) (k : s_M h m n l C R E X V O act) (j : s_J h ca m n K l C R E V O) (hF : x_F h h2 (fun i a => a = m ∧ (i = 1024 ∨ i = 1026 ∨ i = 1027 ∨ i = 1028)) (fun _ => False)) : s_S h2 ca m := by
  have hY : y_F h h2 (fun i a => a = m ∧ (i = 1024 ∨ i = 1026 ∨ i = 1027 ∨ i = 1028)) (fun _ => False) := y_F.X hF (fun _ _ z => z) (fun _ z => z)
  refine ⟨hm, ⟨by rw [hF.2.2.1]; exact hla.1, by rw [hF.2.2.2.2.1]; exact hla.2⟩, n, K, l, C, R, E, X, V, O, act, c.Y hY (fun f a z => by omega) (fun a z => z.elim) ((hF.fi (by omega)).trans c.2.2.1), k.Y hY (fun f a z => by omega) (fun f _ => by rw [hF.2.2.2.1]) (fun a z => z.elim) ((hF.fi (by omega)).trans k.2.2.1), ?_⟩
  unfold s_J
  rw [hF.rw (q := ca + 1) (fun z => z), hF.rw (q := m + 1) (fun z => z), hF.rw (q := m + 2) (fun z => z)]
  exact j
theorem s_q1 {h : x_H} {ca m n : Nat} {K : List Int32} {l : List (Nat × Nat)} {C : Nat → Int32} {R : List (Nat × Nat)} {E : List Int32} {X : z_X} {V : Nat → Int32} {O : List Int32} {act : Int32} (hm : m = ca + 11) (hla : x_kd h (m + 17) = 23 ∧ x_ln h (m + 17) = 1) (c : s_C h ca n K C R E X V act) (k : s_M h m n l C R E X V O act) (j : s_J h ca m n K l C R E V O) (v : Int32) : s_S (x_sI h 1024 m v) ca m := s_q hm hla c k j (x_F.rf.I ⟨rfl, Or.inl rfl⟩)
theorem s_r1 {h : x_H} {m : Nat} {v : Int32} : x_sz (x_sI h 1024 m v) ≤ x_sz h + 752 ∧ x_us (x_sI h 1024 m v) ≤ x_us h + 6759 := ⟨Nat.le_add_right _ _, Nat.le_add_right _ _⟩
theorem s_rF {h h2 : x_H} {P : Nat → Nat → Prop} {S : Nat → Prop} (hF : x_F h h2 P S) : x_sz h2 ≤ x_sz h + 752 ∧ x_us h2 ≤ x_us h + 6759 := ⟨by rw [hF.1]; omega, by rw [hF.2.1]; omega⟩
theorem st_edition {G : x_G} {h : x_H} {ca m : Nat} (S : s_S h ca m) (day : Int64) : s_I G h ca m mX9_edition mX10_edition [x_l day] := by
  obtain ⟨hm, hla, n, K, l, C, R, E, X, V, O, act, c, k, j⟩ := S
  obtain ⟨bk, rs, es, f6, hb, hV, ha⟩ := id c.2.2.2.2.2.2.2
  exact ⟨_, h, _, mPk_0 k.1.1.1, c_editionX G hb c.1 f6 (j.E k) day, c_edition G k.1 day, s_q1 hm hla c k j 0, s_r1⟩
theorem st_cls {G : x_G} {h : x_H} {ca m : Nat} (S : s_S h ca m) (i : Int32) : s_I G h ca m mX9_cls mX10_cls [x_i i] := by
  obtain ⟨hm, hla, n, K, l, C, R, E, X, V, O, act, c, k, j⟩ := S
  obtain ⟨bk, rs, es, f6, hb, hV, ha⟩ := id c.2.2.2.2.2.2.2
  exact ⟨_, h, _, mPk_0 k.1.1.1, c_clsX G hb hV j.2.2.2.2.2.2.2.2.1 c.1 f6 i, c_clsM G k.1.1.1 k.2.2.2.2.2.1 j.2.2.2.2.2.2.2.2.2.1 i, s_q1 hm hla c k j 0, s_r1⟩
theorem st_moving {G : x_G} {h : x_H} {ca m : Nat} (S : s_S h ca m) : s_I G h ca m mX9_moving mX10_moving [] := by
  obtain ⟨hm, hla, n, K, l, C, R, E, X, V, O, act, c, k, j⟩ := S
  obtain ⟨bk, rs, es, f6, hb, hV, ha⟩ := id c.2.2.2.2.2.2.2
  exact ⟨_, h, _, mPk_0 k.1.1.1, c_movingX G hb hV j.2.2.2.2.2.2.2.2.1 c.1 f6, c_movingM G k.1.1.1 k.2.2.2.2.2.1 j.2.2.2.2.2.2.2.2.2.1, s_q1 hm hla c k j 0, s_r1⟩
theorem st_mark {G : x_G} {h : x_H} {ca m : Nat} (S : s_S h ca m) (i : Int32) : s_I G h ca m mX9_mark mX10_mark [x_i i] := by
  obtain ⟨hm, hla, n, K, l, C, R, E, X, V, O, act, c, k, j⟩ := S
  obtain ⟨bk, rs, es, f6, hb, hV, ha⟩ := id c.2.2.2.2.2.2.2
  have e := congrArg (fun Q => z_kt Q 0 i) j.2.2.2.2.2.2.2.2.2.2
  have hc := c_markM G k.1.1.1 k.2.2.2.2.2.1 j.2.2.2.2.2.2.2.2.2.1 i
  rw [e] at hc
  exact ⟨_, h, _, mPk_0 k.1.1.1, c_markX G hb hV c.1 f6 k.1.2.2.1 i, hc, s_q1 hm hla c k j 0, s_r1⟩
theorem st_open {G : x_G} {h : x_H} {ca m : Nat} (S : s_S h ca m) (i what : Int32) : s_I G h ca m mX9_open mX10_open [x_i i, x_i what] := by
  obtain ⟨hm, hla, n, K, l, C, R, E, X, V, O, act, c, k, j⟩ := S
  obtain ⟨bk, rs, es, f6, hb, hV, ha⟩ := id c.2.2.2.2.2.2.2
  exact ⟨_, h, _, mPk_0 k.1.1.1, c_openX G hb hV j.2.2.2.2.2.2.2.2.1 c.1 f6 i what, c_openM G k.1 k.2.2.2.2.1 k.2.2.2.2.2.1 j.2.2.2.2.2.2.2.2.2.1 i what, s_q1 hm hla c k j 0, s_r1⟩
theorem st_missing {G : x_G} {h : x_H} {ca m : Nat} (S : s_S h ca m) (i : Int32) : s_I G h ca m mX9_missing mX10_missing [x_i i] := by
  obtain ⟨hm, hla, n, K, l, C, R, E, X, V, O, act, c, k, j⟩ := S
  obtain ⟨bk, rs, es, f6, hb, hV, ha⟩ := id c.2.2.2.2.2.2.2
  have e := z_dd_eq (C := C) (R := R) (V := V) (O := O) R.length 0 rfl (Nat.zero_le _)
  have hc := c_missingM G k.1 k.2.2.2.2.1 k.2.2.2.2.2.1 j.2.2.2.2.2.2.2.2.2.1 i
  rw [show z_dd [] ((z_ops C R V O 0).map V) = (z_fls C R V O 0).map V from e] at hc
  exact ⟨_, h, _, mPk_0 k.1.1.1, c_missX G hb hV j.2.2.2.2.2.2.2.2.1 c.1 f6 k.1.2.2.1 i, hc, s_q1 hm hla c k j 0, s_r1⟩
theorem st_explain {G : x_G} {h : x_H} {ca m : Nat} (S : s_S h ca m) (a i what : Int32) : s_I G h ca m mX9_explain mX10_explain [x_i a, x_i i, x_i what] := by
  obtain ⟨hm, hla, n, K, l, C, R, E, X, V, O, act, c, k, j⟩ := S
  obtain ⟨bk, rs, es, f6, hb, hV, ha⟩ := id c.2.2.2.2.2.2.2
  exact ⟨_, h, _, mPk_0 k.1.1.1, c_explX G hb hV c.1 f6 a i what, c_explainM G k.1 k.2.2.2.2.1 a i what, s_q1 hm hla c k j 0, s_r1⟩
theorem st_limit {G : x_G} {h : x_H} {ca m : Nat} (S : s_S h ca m) (a : Int32) : s_L G h ca m mX9_limit mX10_limit [x_i a] := by
  obtain ⟨hm, hla, n, K, l, C, R, E, X, V, O, act, c, k, j⟩ := S
  obtain ⟨bk, rs, es, f6, hb, hV, ha⟩ := id c.2.2.2.2.2.2.2
  obtain ⟨_, h2, ⟨rfl, hF⟩, hc⟩ := c_limitM G k.1 k.2.2.2.1 k.2.2.2.2.2.2 a
  exact ⟨_, h, h2, mPk_0 k.1.1.1, c_limitX G hb k.R hV c.1 f6 ha a, hc, s_q hm hla c k j hF, s_rF hF⟩
theorem st_sum {G : x_G} {h : x_H} {ca m : Nat} (S : s_S h ca m) (r e part : Int32) : s_L G h ca m mX9_sum mX10_sum [x_i r, x_i e, x_i part] := by
  obtain ⟨hm, hla, n, K, l, C, R, E, X, V, O, act, c, k, j⟩ := S
  obtain ⟨bk, rs, es, f6, hb, hV, ha⟩ := id c.2.2.2.2.2.2.2
  obtain ⟨_, h2, ⟨rfl, hF⟩, hc⟩ := c_sumM G k.1 k.2.2.2.1 r e part
  exact ⟨_, h, h2, mPk_0 k.1.1.1, c_sumX G hb k.R c.1 f6 c.2.2.2.1 k.1.2.2.1 r e part, hc, s_q hm hla c k j hF, s_rF hF⟩
theorem st_write {G : x_G} {h : x_H} {ca m : Nat} (S : s_S h ca m) (i : Int32) : s_I G h ca m mX9_write mX10_write [x_i i] := by
  obtain ⟨hm, hla, n, K, l, C, R, E, X, V, O, act, c, k, j⟩ := S
  obtain ⟨bk, rs, es, f6, hb, hV, ha⟩ := id c.2.2.2.2.2.2.2
  have hc := c_writeM G k.1.1 i
  rw [← j.2.2.2.1] at hc
  exact ⟨_, h, _, mPk_0 k.1.1.1, c_writeX G c.1 c.2.2.2.2.1 c.2.2.2.2.2.1 c.2.2.2.2.2.2.1 i, hc, s_q1 hm hla c k j 0, s_r1⟩
theorem st_unit {G : x_G} {h : x_H} {ca m : Nat} (S : s_S h ca m) (u : Int32) : s_I G h ca m mX9_unit mX10_unit [x_i u] := by
  obtain ⟨hm, hla, n, K, l, C, R, E, X, V, O, act, c, k, j⟩ := S
  obtain ⟨bk, rs, es, f6, hb, hV, ha⟩ := id c.2.2.2.2.2.2.2
  by_cases hu : 0 ≤ u ∧ u ≤ 255 ∧ n < 3000
  · have hc1 := c_unit_t G c.1 c.2.2.1 hu.2.2 ⟨hu.1, hu.2.1⟩
    have y1 : y_F h (x_sI (x_sA h (ca + 1) n u.toInt8.toInt32) 901 ca (nI (n + 1))) (fun f a => f = 901 ∧ a = ca) (fun a => a = ca + 1) := ((y_F.rf : y_F h h (fun f a => f = 901 ∧ a = ca) (fun a => a = ca + 1)).A (fun _ => rfl)).I (fun _ => ⟨rfl, rfl⟩)
    have e1 : x_fi (x_sI (x_sA h (ca + 1) n u.toInt8.toInt32) 901 ca (nI (n + 1))) 901 ca = nI (n + 1) := by rw [x_fi_sI, if_pos ⟨rfl, rfl⟩]
    have r1 : x_rw (x_sI (x_sA h (ca + 1) n u.toInt8.toInt32) 901 ca (nI (n + 1))) (ca + 1) = fun i => if i = n then u.toInt8.toInt32 else x_rw h (ca + 1) i := by
      funext i
      rw [x_rw_sI, x_rw_sA]
      by_cases z : i = n
      · rw [if_pos ⟨rfl, z⟩, if_pos z]
      · rw [if_neg (fun y => z y.2), if_neg z]
    have z1 : x_sz (x_sI (x_sA h (ca + 1) n u.toInt8.toInt32) 901 ca (nI (n + 1))) = x_sz h ∧ x_us (x_sI (x_sA h (ca + 1) n u.toInt8.toInt32) 901 ca (nI (n + 1))) = x_us h := ⟨rfl, rfl⟩
    have q1 : x_fr (x_sI (x_sA h (ca + 1) n u.toInt8.toInt32) 901 ca (nI (n + 1))) = x_fr h := rfl
    generalize x_sI (x_sA h (ca + 1) n u.toInt8.toInt32) 901 ca (nI (n + 1)) = h1 at hc1 y1 e1 r1 z1 q1
    have c1 := c.Y y1 (fun f a z => Or.inl z.1) (fun a z => Or.inl z) e1
    have k1 := k.Y y1 (fun f a z => by omega) (fun f _ => by rw [q1]) (fun a z => by omega) ((y1.fi (by have := k.2.1; omega) (by omega)).trans k.2.2.1)
    have hc2 := c_unitM_t G k1.1.1.1 k1.2.2.1 hu.2.2 ⟨hu.1, hu.2.1⟩
    have y2 : x_F h1 (x_sI (x_sA (x_sI h1 1024 m 0) (m + 1) n u.toInt8.toInt32) 1001 m (nI (n + 1))) (fun f a => a = m ∧ (f = 1024 ∨ f = 1001)) (fun a => a = m + 1) := (((x_F.rf : x_F h1 h1 (fun f a => a = m ∧ (f = 1024 ∨ f = 1001)) (fun a => a = m + 1)).I ⟨rfl, Or.inl rfl⟩).A rfl).I ⟨rfl, Or.inr rfl⟩
    have e2 : x_fi (x_sI (x_sA (x_sI h1 1024 m 0) (m + 1) n u.toInt8.toInt32) 1001 m (nI (n + 1))) 1001 m = nI (n + 1) := by rw [x_fi_sI, if_pos ⟨rfl, rfl⟩]
    have r2 : x_rw (x_sI (x_sA (x_sI h1 1024 m 0) (m + 1) n u.toInt8.toInt32) 1001 m (nI (n + 1))) (m + 1) = fun i => if i = n then u.toInt8.toInt32 else x_rw h1 (m + 1) i := by
      funext i
      rw [x_rw_sI, x_rw_sA]
      by_cases z : i = n
      · rw [if_pos ⟨rfl, z⟩, if_pos z]
      · rw [if_neg (fun y => z y.2), if_neg z]
        rfl
    generalize x_sI (x_sA (x_sI h1 1024 m 0) (m + 1) n u.toInt8.toInt32) 1001 m (nI (n + 1)) = h2 at hc2 y2 e2 r2
    have y2' : y_F h1 h2 (fun f a => a = m ∧ (f = 1024 ∨ f = 1001)) (fun a => a = m + 1) := y_F.X y2 (fun _ _ z => z) (fun _ z => z)
    have c2 := c1.Y y2' (fun f a z => by omega) (fun a z => Or.inr (by omega)) ((y2.fi (by omega)).trans e1)
    have k2 := k1.Y y2' (fun f a z => by omega) (fun f _ => by rw [y2.2.2.2.1]) (fun a z => Or.inr (Or.inl z)) e2
    refine ⟨1, h1, h2, mPk_0 k1.1.1.1, hc1, hc2, ⟨hm, ⟨by rw [y2.2.2.1, y1.kd (by have := k.2.1; omega)]; exact hla.1, by rw [y2.2.2.2.2.1, y1.ln (by have := k.2.1; omega)]; exact hla.2⟩, n + 1, K, l, C, R, E, X, V, O, act, c2, k2, ?_⟩, by rw [y2.1, z1.1]; omega, by rw [y2.2.1, z1.2]; omega⟩
    obtain ⟨j1, j2, j3, j4, j5⟩ := j
    have ks := k.2.1
    have e3 : x_rw h1 (m + 1) = x_rw h (m + 1) := y1.rw (by omega) (by omega)
    refine ⟨by omega, ?_, ?_, ?_, j5⟩
    · rw [y2.rw (by omega), r1, r2, e3, j2]
    · rw [r2, e3]
      intro i
      dsimp only
      split
      · simp
      · exact j3 i
    · rw [y2.rw (by omega), y1.rw (by omega) (by omega)]
      exact j4
  · have hc1 := c_unit_f G c.1 c.2.2.1 j.1 hu
    have hc2 := c_unitM_f G k.1.1.1 k.2.2.1 j.1 hu
    exact ⟨0, h, _, mPk_0 k.1.1.1, hc1, hc2, s_q1 hm hla c k j 0, s_r1⟩
theorem s_x {h h1 h2 : x_H} {ca m n : Nat} {K : List Int32} {l : List (Nat × Nat)} {C : Nat → Int32} {R : List (Nat × Nat)} {E : List Int32} {X X' : z_X} {V : Nat → Int32} {O : List Int32} {act : Int32} {P1 P2 : Nat → Nat → Prop} {S1 S2 : Nat → Prop} (hm : m = ca + 11) (hla : x_kd h (m + 17) = 23 ∧ x_ln h (m + 17) = 1) (c : s_C h ca n K C R E X V act) (k : s_M h m n l C R E X V O act) (j : s_J h ca m n K l C R E V O) (y1 : y_F h h1 P1 S1) (q1 : x_fr h1 = x_fr h) (z1 : x_sz h1 = x_sz h ∧ x_us h1 = x_us h) (p1 : ∀ f a, P1 f a → f = 300) (s1 : ∀ a, S1 a → ca + 6 ≤ a ∧ a ≤ ca + 9) (x1 : f_X h1 (ca + 5) X') (y2 : x_F h1 h2 P2 S2) (p2 : ∀ f a, P2 f a → f = 1018 ∨ f = 1024) (s2 : ∀ a, S2 a → m + 10 ≤ a ∧ a ≤ m + 13) (x2 : m_X h1 m X → m_X h2 m X') : s_S h2 ca m ∧ x_sz h2 ≤ x_sz h + 752 ∧ x_us h2 ≤ x_us h + 6759 := by
  have ks := k.2.1
  have c1 := c.X y1 p1 q1 s1 x1
  have k1 := k.Y y1 (fun f a z => Or.inl (by have := p1 f a z; omega)) (fun f _ => by rw [q1]) (fun a z => Or.inl (by have := s1 a z; omega)) ((y1.fi (by omega) (fun z => by have := p1 _ _ z; omega)).trans k.2.2.1)
  have y2' : y_F h1 h2 P2 S2 := y_F.X y2 (fun _ _ z => z) (fun _ z => z)
  have c2 := c1.Y y2' (fun f a z => Or.inr (by have := p2 f a z; omega)) (fun a z => Or.inr (by have := s2 a z; omega)) ((y2.fi (fun z => by have := p2 _ _ z; omega)).trans c1.2.2.1)
  have k2 := k1.X y2 p2 s2 (x2 k1.2.2.2.1)
  refine ⟨⟨hm, ⟨by rw [y2.2.2.1, y1.kd (by omega)]; exact hla.1, by rw [y2.2.2.2.2.1, y1.ln (by omega)]; exact hla.2⟩, n, K, l, C, R, E, X', V, O, act, c2, k2, ?_⟩, by rw [y2.1, z1.1]; omega, by rw [y2.2.1, z1.2]; omega⟩
  unfold s_J
  rw [y2.rw (q := ca + 1) (fun z => by have := s2 _ z; omega), y2.rw (q := m + 1) (fun z => by have := s2 _ z; omega), y2.rw (q := m + 2) (fun z => by have := s2 _ z; omega), y1.rw (q := ca + 1) (by omega) (fun z => by have := s1 _ z; omega), y1.rw (q := m + 1) (by omega) (fun z => by have := s1 _ z; omega), y1.rw (q := m + 2) (by omega) (fun z => by have := s1 _ z; omega)]
  exact j
theorem z_l32 {x : Int64} (h0 : 0 ≤ x) (h1 : x ≤ 1000000) : x.toInt32.toInt64 = x := by
  apply Int64.toInt_inj.mp
  rw [Int32.toInt_toInt64, Int64.toInt_toInt32]
  rw [Int64.le_iff_toInt_le] at h0 h1
  have e0 : (0 : Int64).toInt = 0 := by decide
  have e1 : (1000000 : Int64).toInt = 1000000 := by decide
  rw [e0] at h0
  rw [e1] at h1
  exact Int.bmod_eq_of_le (by omega) (by omega)
theorem st_part {G : x_G} {h : x_H} {ca m : Nat} (S : s_S h ca m) (p : Int32) (lo hi : Int64) : s_I G h ca m mX9_part mX10_part [x_i p, x_l lo, x_l hi] := by
  obtain ⟨hm, hla, n, K, l, C, R, E, X, V, O, act, c, k, j⟩ := S
  obtain ⟨bk, rs, es, f6, hb, hV, ha⟩ := id c.2.2.2.2.2.2.2
  by_cases hp : 0 ≤ p ∧ p ≤ 15 ∧ 0 ≤ lo ∧ lo ≤ hi ∧ hi ≤ 1000000
  · obtain ⟨g1, g2, g3, g4, g5⟩ := hp
    obtain ⟨q, hq, e⟩ := nI_of2 (x := p) (M := 15) (n := 15) (by decide) (Int32.not_lt.mpr g1) g2
    subst e
    have h16 : q < 16 := by omega
    have hc1 := c_part_t G c.1 h16 g3 g4 g5
    have y1 : y_F h (x_sA (x_sJ (x_sJ h (ca + 5 + 1) q lo) (ca + 5 + 2) q hi) (ca + 5 + 3) q 1) (fun _ _ => False) (fun a => ca + 6 ≤ a ∧ a ≤ ca + 9) := ((y_F.rf.J (fun _ => by omega)).J (fun _ => by omega)).A (fun _ => by omega)
    have r1 : ∀ i, x_rw (x_sA (x_sJ (x_sJ h (ca + 5 + 1) q lo) (ca + 5 + 2) q hi) (ca + 5 + 3) q 1) (ca + 5 + 3) i = if i = q then 1 else x_rw h (ca + 5 + 3) i := fun i => by
      rw [x_rw_sA, x_rw_sJ, x_rw_sJ]
      by_cases z : i = q
      · rw [if_pos ⟨rfl, z⟩, if_pos z]
      · rw [if_neg (fun y => z y.2), if_neg z]
    have r2 : ∀ i, x_rl (x_sA (x_sJ (x_sJ h (ca + 5 + 1) q lo) (ca + 5 + 2) q hi) (ca + 5 + 3) q 1) (ca + 5 + 1) i = if i = q then lo else x_rl h (ca + 5 + 1) i := fun i => by
      rw [x_rl_sA, x_rl_sJ, if_neg (by omega), x_rl_sJ]
      by_cases z : i = q
      · rw [if_pos ⟨rfl, z⟩, if_pos z]
      · rw [if_neg (fun y => z y.2), if_neg z]
    have r3 : ∀ i, x_rl (x_sA (x_sJ (x_sJ h (ca + 5 + 1) q lo) (ca + 5 + 2) q hi) (ca + 5 + 3) q 1) (ca + 5 + 2) i = if i = q then hi else x_rl h (ca + 5 + 2) i := fun i => by
      rw [x_rl_sA, x_rl_sJ, x_rl_sJ]
      by_cases z : i = q
      · rw [if_pos ⟨rfl, z⟩, if_pos z]
      · rw [if_neg (fun y => z y.2), if_neg z, if_neg (by omega)]
    have r4 : x_rw (x_sA (x_sJ (x_sJ h (ca + 5 + 1) q lo) (ca + 5 + 2) q hi) (ca + 5 + 3) q 1) (ca + 5 + 4) = x_rw h (ca + 5 + 4) := by
      funext i
      rw [x_rw_sA, if_neg (by omega), x_rw_sJ, x_rw_sJ]
    have f1 : ∀ f a, x_fi (x_sA (x_sJ (x_sJ h (ca + 5 + 1) q lo) (ca + 5 + 2) q hi) (ca + 5 + 3) q 1) f a = x_fi h f a := fun f a => rfl
    have q1 : x_fr (x_sA (x_sJ (x_sJ h (ca + 5 + 1) q lo) (ca + 5 + 2) q hi) (ca + 5 + 3) q 1) = x_fr h := rfl
    have z1 : x_sz (x_sA (x_sJ (x_sJ h (ca + 5 + 1) q lo) (ca + 5 + 2) q hi) (ca + 5 + 3) q 1) = x_sz h ∧ x_us (x_sA (x_sJ (x_sJ h (ca + 5 + 1) q lo) (ca + 5 + 2) q hi) (ca + 5 + 3) q 1) = x_us h := ⟨rfl, rfl⟩
    generalize x_sA (x_sJ (x_sJ h (ca + 5 + 1) q lo) (ca + 5 + 2) q hi) (ca + 5 + 3) q 1 = h1 at hc1 y1 r1 r2 r3 r4 f1 q1 z1
    have ks := k.2.1
    have hp1 : mP h1 m := k.1.1.1.Y (by omega) y1 (fun f _ => by rw [q1])
    have hc2 := c_partM_t G hp1 h16 g3 g4 g5
    have y2 : x_F h1 (x_sA (x_sA (x_sA (x_sI h1 1024 m 0) (m + 12) q 1) (m + 10) q lo.toInt32) (m + 11) q hi.toInt32) (fun f a => f = 1024 ∧ a = m) (fun a => m + 10 ≤ a ∧ a ≤ m + 12) := (((x_F.rf.I ⟨rfl, rfl⟩).A (by omega)).A (by omega)).A (by omega)
    have m1 : ∀ i, x_rw (x_sA (x_sA (x_sA (x_sI h1 1024 m 0) (m + 12) q 1) (m + 10) q lo.toInt32) (m + 11) q hi.toInt32) (m + 12) i = if i = q then 1 else x_rw h1 (m + 12) i := fun i => by
      rw [x_rw_sA, if_neg (by omega), x_rw_sA, if_neg (by omega), x_rw_sA]
      by_cases z : i = q
      · rw [if_pos ⟨rfl, z⟩, if_pos z]
      · rw [if_neg (fun y => z y.2), if_neg z]
        rfl
    have m2 : ∀ i, x_rw (x_sA (x_sA (x_sA (x_sI h1 1024 m 0) (m + 12) q 1) (m + 10) q lo.toInt32) (m + 11) q hi.toInt32) (m + 10) i = if i = q then lo.toInt32 else x_rw h1 (m + 10) i := fun i => by
      rw [x_rw_sA, if_neg (by omega), x_rw_sA]
      by_cases z : i = q
      · rw [if_pos ⟨rfl, z⟩, if_pos z]
      · rw [if_neg (fun y => z y.2), if_neg z, x_rw_sA, if_neg (by omega)]
        rfl
    have m3 : ∀ i, x_rw (x_sA (x_sA (x_sA (x_sI h1 1024 m 0) (m + 12) q 1) (m + 10) q lo.toInt32) (m + 11) q hi.toInt32) (m + 11) i = if i = q then hi.toInt32 else x_rw h1 (m + 11) i := fun i => by
      rw [x_rw_sA]
      by_cases z : i = q
      · rw [if_pos ⟨rfl, z⟩, if_pos z]
      · rw [if_neg (fun y => z y.2), if_neg z, x_rw_sA, if_neg (by omega), x_rw_sA, if_neg (by omega)]
        rfl
    generalize x_sA (x_sA (x_sA (x_sI h1 1024 m 0) (m + 12) q 1) (m + 10) q lo.toInt32) (m + 11) q hi.toInt32 = h2 at hc2 y2 m1 m2 m3
    obtain ⟨a1, a2, a3⟩ := c.2.2.2.1
    refine And.elim (fun w1 w2 => ⟨1, h1, h2, mPk_0 hp1, hc1, hc2, w1, w2⟩) (s_x (X' := (fun i => if i = q then true else X.1 i, fun i => if i = q then lo else X.2.1 i, fun i => if i = q then hi else X.2.2.1 i, X.2.2.2.1, X.2.2.2.2)) hm hla c k j y1 q1 z1 (fun f a z => z.elim) (fun a z => z) ⟨fun i hi9 => ?_, fun t ht => by rw [r4]; exact a2 t ht, by rw [f1]; exact a3⟩ y2 (fun f a z => Or.inr z.1) (fun a z => by omega) (fun b => ?_))
    · obtain ⟨b1, b2, b3⟩ := a1 i hi9
      rw [r1, r2, r3]
      by_cases z : i = q
      · simp [z]
      · simp only [z, if_false]
        exact ⟨b1, b2, b3⟩
    · obtain ⟨b1, b2, b3⟩ := b
      refine ⟨fun i hi9 => ?_, fun t ht => by rw [y2.rw (by omega)]; exact b2 t ht, by rw [y2.fi (by omega)]; exact b3⟩
      obtain ⟨d1, d2, d3⟩ := b1 i hi9
      rw [m1, m2, m3]
      by_cases z : i = q
      · simp only [z, if_true]
        exact ⟨trivial, z_l32 g3 (Int64.le_trans g4 g5), z_l32 (Int64.le_trans g3 g4) g5⟩
      · simp only [z, if_false]
        exact ⟨d1, d2, d3⟩
  · exact ⟨0, h, _, mPk_0 k.1.1.1, c_part_f G c.1 hp, c_partM_f G k.1.1.1 hp, s_q1 hm hla c k j 0, s_r1⟩
theorem st_test {G : x_G} {h : x_H} {ca m : Nat} (S : s_S h ca m) (t r : Int32) : s_I G h ca m mX9_test mX10_test [x_i t, x_i r] := by
  obtain ⟨hm, hla, n, K, l, C, R, E, X, V, O, act, c, k, j⟩ := S
  obtain ⟨bk, rs, es, f6, hb, hV, ha⟩ := id c.2.2.2.2.2.2.2
  by_cases hp : 0 ≤ t ∧ t ≤ 7 ∧ -1 ≤ r ∧ r ≤ 9
  · obtain ⟨g1, g2, g3, g4⟩ := hp
    obtain ⟨q, hq, e⟩ := nI_of2 (x := t) (M := 7) (n := 7) (by decide) (Int32.not_lt.mpr g1) g2
    subst e
    have h8 : q < 8 := by omega
    have hc1 := c_test_t G c.1 h8 g3 g4
    have y1 : y_F h (x_sA h (ca + 5 + 4) q r) (fun _ _ => False) (fun a => a = ca + 9) := y_F.rf.A (fun _ => by omega)
    have r1 : ∀ i, x_rw (x_sA h (ca + 5 + 4) q r) (ca + 5 + 4) i = if i = q then r else x_rw h (ca + 5 + 4) i := fun i => by
      rw [x_rw_sA]
      by_cases z : i = q
      · rw [if_pos ⟨rfl, z⟩, if_pos z]
      · rw [if_neg (fun y => z y.2), if_neg z]
    have q1 : x_fr (x_sA h (ca + 5 + 4) q r) = x_fr h := rfl
    have z1 : x_sz (x_sA h (ca + 5 + 4) q r) = x_sz h ∧ x_us (x_sA h (ca + 5 + 4) q r) = x_us h := ⟨rfl, rfl⟩
    generalize x_sA h (ca + 5 + 4) q r = h1 at hc1 y1 r1 q1 z1
    have ks := k.2.1
    have hp1 : mP h1 m := k.1.1.1.Y (by omega) y1 (fun f _ => by rw [q1])
    have hc2 := c_testM_t G hp1 h8 g3 g4
    have y2 : x_F h1 (x_sA (x_sI h1 1024 m 0) (m + 13) q r) (fun f a => f = 1024 ∧ a = m) (fun a => a = m + 13) := (x_F.rf.I ⟨rfl, rfl⟩).A rfl
    have m1 : ∀ i, x_rw (x_sA (x_sI h1 1024 m 0) (m + 13) q r) (m + 13) i = if i = q then r else x_rw h1 (m + 13) i := fun i => by
      rw [x_rw_sA]
      by_cases z : i = q
      · rw [if_pos ⟨rfl, z⟩, if_pos z]
      · rw [if_neg (fun y => z y.2), if_neg z]
        rfl
    generalize x_sA (x_sI h1 1024 m 0) (m + 13) q r = h2 at hc2 y2 m1
    obtain ⟨a1, a2, a3⟩ := c.2.2.2.1
    refine And.elim (fun w1 w2 => ⟨1, h1, h2, mPk_0 hp1, hc1, hc2, w1, w2⟩) (s_x (X' := (X.1, X.2.1, X.2.2.1, fun i => if i = q then r else X.2.2.2.1 i, X.2.2.2.2)) hm hla c k j y1 q1 z1 (fun f a z => z.elim) (fun a z => by omega) ⟨fun i hi9 => ?_, fun t ht => ?_, by rw [y1.fi (by omega) (fun z => z)]; exact a3⟩ y2 (fun f a z => Or.inr z.1) (fun a z => by omega) (fun b => ?_))
    · rw [y1.rw (q := ca + 5 + 3) (by omega) (by omega), y1.rl (q := ca + 5 + 1) (by omega) (by omega), y1.rl (q := ca + 5 + 2) (by omega) (by omega)]
      exact a1 i hi9
    · rw [r1]
      by_cases z : t = q
      · simp [z]
      · simp only [z, if_false]
        exact a2 t ht
    · obtain ⟨b1, b2, b3⟩ := b
      refine ⟨fun i hi9 => ?_, fun t ht => ?_, by rw [y2.fi (by omega)]; exact b3⟩
      · rw [y2.rw (q := m + 12) (by omega), y2.rw (q := m + 10) (by omega), y2.rw (q := m + 11) (by omega)]
        exact b1 i hi9
      · rw [m1]
        by_cases z : t = q
        · simp [z]
        · simp only [z, if_false]
          exact b2 t ht
  · exact ⟨0, h, _, mPk_0 k.1.1.1, c_test_f G c.1 hp, c_testM_f G k.1.1.1 hp, s_q1 hm hla c k j 0, s_r1⟩
theorem st_clear {G : x_G} {h : x_H} {ca m : Nat} (S : s_S h ca m) : s_N G h ca m mX9_clearParts mX10_clearParts [] := by
  obtain ⟨hm, hla, n, K, l, C, R, E, X, V, O, act, c, k, j⟩ := S
  obtain ⟨bk, rs, es, f6, hb, hV, ha⟩ := id c.2.2.2.2.2.2.2
  obtain ⟨_, h1, ⟨rfl, y1, a4, a5⟩, hc1⟩ := c_clearX G c.1
  have y1' : y_F h h1 (fun _ _ => False) (fun a => a = ca + 5 + 3 ∨ a = ca + 5 + 4) := y_F.X y1 (fun _ _ z => z) (fun _ z => z)
  have ks := k.2.1
  have hp1 : mP h1 m := y1.pm k.1.1.1
  obtain ⟨_, h2, ⟨rfl, y2, b4, b5, b6⟩, hc2⟩ := c_clearM G hp1
  obtain ⟨a1, a2, a3⟩ := c.2.2.2.1
  refine And.elim (fun w1 w2 => ⟨h1, h2, mPk_0 hp1, hc1, hc2, w1, w2⟩) (s_x (X' := (fun _ => false, X.2.1, X.2.2.1, fun _ => -1, X.2.2.2.2)) hm hla c k j y1' (by rw [y1.2.2.2.1]) ⟨y1.1, y1.2.1⟩ (fun f a z => z.elim) (fun a z => by omega) ⟨fun i hi9 => ?_, fun t ht => a4 t ht, by rw [y1.fi (fun z => z)]; exact a3⟩ y2 (fun f a z => Or.inr z.2) (fun a z => by omega) (fun b => ?_))
  · obtain ⟨-, d2, d3⟩ := a1 i hi9
    rw [y1'.rl (q := ca + 5 + 1) (by have := c.2.1; omega) (by omega), y1'.rl (q := ca + 5 + 2) (by have := c.2.1; omega) (by omega)]
    exact ⟨a5 i hi9, d2, d3⟩
  · obtain ⟨b1, b2, b3⟩ := b
    refine ⟨fun i hi9 => ?_, fun t ht => b4 t ht, by rw [y2.fi (by omega)]; exact b3⟩
    obtain ⟨-, d2, d3⟩ := b1 i hi9
    rw [y2.rw (q := m + 10) (by omega), y2.rw (q := m + 11) (by omega)]
    exact ⟨b5 i hi9, d2, d3⟩
theorem st_way {G : x_G} {h : x_H} {ca m : Nat} (S : s_S h ca m) (b : Bool) : s_I G h ca m mX9_way mX10_way [x_i (if b = true then 1 else 0)] := by
  obtain ⟨hm, hla, n, K, l, C, R, E, X, V, O, act, c, k, j⟩ := S
  obtain ⟨bk, rs, es, f6, hb, hV, ha⟩ := id c.2.2.2.2.2.2.2
  obtain ⟨a1, a2, a3⟩ := c.2.2.2.1
  have hc1 := c_wayX G c.1 a3 b
  have y1 : y_F h (x_sI h 300 (ca + 5) (if b = true then 1 else 0)) (fun f a => f = 300 ∧ a = ca + 5) (fun _ => False) := y_F.rf.I (fun _ => ⟨rfl, rfl⟩)
  have e1 : x_fi (x_sI h 300 (ca + 5) (if b = true then 1 else 0)) 300 (ca + 5) = if b = true then 1 else 0 := by rw [x_fi_sI, if_pos ⟨rfl, rfl⟩]
  have q1 : x_fr (x_sI h 300 (ca + 5) (if b = true then 1 else 0)) = x_fr h := rfl
  have z1 : x_sz (x_sI h 300 (ca + 5) (if b = true then 1 else 0)) = x_sz h ∧ x_us (x_sI h 300 (ca + 5) (if b = true then 1 else 0)) = x_us h := ⟨rfl, rfl⟩
  generalize x_sI h 300 (ca + 5) (if b = true then 1 else 0) = h1 at hc1 y1 e1 q1 z1
  have ks := k.2.1
  have hp1 : mP h1 m := k.1.1.1.Y (by omega) y1 (fun f _ => by rw [q1])
  have hs1 : x_fi h1 1018 m = if X.2.2.2.2 = true then 1 else 0 := (y1.fi (by omega) (by omega)).trans k.2.2.2.1.2.2
  have hc2 := c_wayM G hp1 hs1 b
  have y2 : x_F h1 (x_sI (x_sI h1 1024 m 0) 1018 m (if b = true then 1 else 0)) (fun f a => (f = 1018 ∨ f = 1024) ∧ a = m) (fun _ => False) := (x_F.rf.I ⟨Or.inr rfl, rfl⟩).I ⟨Or.inl rfl, rfl⟩
  have e2 : x_fi (x_sI (x_sI h1 1024 m 0) 1018 m (if b = true then 1 else 0)) 1018 m = if b = true then 1 else 0 := by rw [x_fi_sI, if_pos ⟨rfl, rfl⟩]
  generalize x_sI (x_sI h1 1024 m 0) 1018 m (if b = true then 1 else 0) = h2 at hc2 y2 e2
  refine And.elim (fun w1 w2 => ⟨_, h1, h2, mPk_0 hp1, hc1, hc2, w1, w2⟩) (s_x (X' := (X.1, X.2.1, X.2.2.1, X.2.2.2.1, b)) hm hla c k j y1 q1 z1 (fun f a z => z.1) (fun a z => z.elim) ⟨fun i hi9 => ?_, fun t ht => ?_, e1⟩ y2 (fun f a z => z.1) (fun a z => z.elim) (fun w => ?_))
  · rw [y1.rw (q := ca + 5 + 3) (by omega) (fun z => z), y1.rl (q := ca + 5 + 1) (by omega) (fun z => z), y1.rl (q := ca + 5 + 2) (by omega) (fun z => z)]
    exact a1 i hi9
  · rw [y1.rw (q := ca + 5 + 4) (by omega) (fun z => z)]
    exact a2 t ht
  · obtain ⟨b1, b2, b3⟩ := w
    refine ⟨fun i hi9 => ?_, fun t ht => ?_, e2⟩
    · rw [y2.rw (q := m + 12) (fun z => z), y2.rw (q := m + 10) (fun z => z), y2.rw (q := m + 11) (fun z => z)]
      exact b1 i hi9
    · rw [y2.rw (q := m + 13) (fun z => z)]
      exact b2 t ht
