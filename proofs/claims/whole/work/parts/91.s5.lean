/-! table on both sides; the start -/
theorem st_table {G : x_G} {q0 : Nat} {u0 sen : RefV} (hGT : x_GT G q0 u0 sen) (hGC : x_GC G RL 13) {h : x_H} {ca m : Nat} (S : s_S h ca m) (t i : Int32) : ∃ (r w : Int32) (h1 h2 : x_H), x_kd h1 m = 10 ∧ x_Call G mL_table h [x_r (some ca), x_i t, x_i i, x_r (some (m + 17))] (some (x_i r)) h1 ∧ x_Call G mX10_table h1 [x_r (some m), x_i t, x_i i] (some (x_i w)) h2 ∧ x_Call G mX10_thrown h2 [x_r (some m)] (some (x_i r)) h2 ∧ (r = 1 ∨ (r = 0 ∧ x_rl h2 (m + 17) 0 = Int32.toInt64 w)) ∧ s_S h2 ca m ∧ (x_kd h2 (m + 17) = 23 ∧ x_ln h2 (m + 17) = 1) ∧ x_sz h2 ≤ x_sz h + 752 ∧ x_us h2 ≤ x_us h + 6759 := by
  obtain ⟨hm, hla, n, K, l, C, R, E, X, V, O, act, c, k, j⟩ := S
  obtain ⟨bk, rs, es, f6, hb, hV, ha⟩ := id c.2.2.2.2.2.2.2
  have ks := k.2.1
  obtain ⟨_, h1, d1, hc1⟩ := c_L_table hGT hGC hb k.R c.1 f6 k.1.2.2.1 hla.1 hla.2 t i
  have key : ∀ h1 : x_H, y_F h h1 (fun _ _ => False) (fun a => a = m + 17) → ∀ v : Int32, s_S (x_sI h1 1024 m v) ca m ∧ mP (x_sI h1 1024 m v) m ∧ (x_kd h1 (m + 17) = 23 ∧ x_ln h1 (m + 17) = 1) ∧ m_Bk h1 m l C R E := by
    intro h1 y1 v
    have c1 := c.Y y1 (fun f a z => z.elim) (fun a z => Or.inr (by omega)) ((y1.fi (by omega) (fun z => z)).trans c.2.2.1)
    have k1 := k.Y y1 (fun f a z => z.elim) (fun f _ => y1.fr (by omega) (fun z => z)) (fun a z => Or.inr (Or.inr (by omega))) ((y1.fi (by omega) (fun z => z)).trans k.2.2.1)
    have j1 := j.Y ⟨by omega, by omega⟩ y1 (by omega) (by omega) (by omega)
    have hl1 : x_kd h1 (m + 17) = 23 ∧ x_ln h1 (m + 17) = 1 := ⟨by rw [y1.kd (by omega)]; exact hla.1, by rw [y1.ln (by omega)]; exact hla.2⟩
    exact ⟨s_q1 hm hl1 c1 k1 j1 v, k1.1.1.1, hl1, k1.1⟩
  rcases d1 with ⟨hz, rfl, rfl⟩ | ⟨hz, rfl, rfl⟩
  · have y1 : y_F h (x_sJ h (m + 17) 0 (Int32.toInt64 (z_tb C R t i))) (fun _ _ => False) (fun a => a = m + 17) := y_F.rf.J (fun _ => rfl)
    have e1 : x_rl (x_sJ h (m + 17) 0 (Int32.toInt64 (z_tb C R t i))) (m + 17) 0 = Int32.toInt64 (z_tb C R t i) := by rw [x_rl_sJ, if_pos ⟨rfl, rfl⟩]
    have z1 : x_sz (x_sJ h (m + 17) 0 (Int32.toInt64 (z_tb C R t i))) = x_sz h ∧ x_us (x_sJ h (m + 17) 0 (Int32.toInt64 (z_tb C R t i))) = x_us h := ⟨rfl, rfl⟩
    generalize x_sJ h (m + 17) 0 (Int32.toInt64 (z_tb C R t i)) = h1 at hc1 y1 e1 z1
    obtain ⟨w1, w2, w3, w4⟩ := key h1 y1 0
    have hc2 := c_tableM G w4 t i
    rw [if_neg hz, if_neg hz] at hc2
    have hc3 := c_thrownM G w2
    rw [x_fi_sI, if_pos ⟨rfl, rfl⟩] at hc3
    exact ⟨0, _, h1, _, mPk_0 w4.1.1, hc1, hc2, hc3, Or.inr ⟨rfl, e1⟩, w1, w3, by rw [x_sz_sI, z1.1]; omega, by rw [x_us_sI, z1.2]; omega⟩
  · have y1 : y_F h (x_nX h) (fun _ _ => False) (fun a => a = m + 17) := y_F.rf.nX
    have z1 : x_sz (x_nX h) = x_sz h + 1 ∧ x_us (x_nX h) = x_us h + 6 := ⟨rfl, rfl⟩
    generalize x_nX h = h1 at hc1 y1 z1
    obtain ⟨w1, w2, w3, w4⟩ := key h1 y1 1
    have hc2 := c_tableM G w4 t i
    rw [if_pos hz, if_pos hz] at hc2
    have hc3 := c_thrownM G w2
    rw [x_fi_sI, if_pos ⟨rfl, rfl⟩] at hc3
    exact ⟨1, _, h1, _, mPk_0 w4.1.1, hc1, hc2, hc3, Or.inl rfl, w1, w3, by rw [x_sz_sI, z1.1]; omega, by rw [x_us_sI, z1.2]; omega⟩
theorem y_F.NA {h h1 : x_H} {P : Nat → Nat → Prop} {R : Nat → Prop} (a : y_F h h1 P R) (k n : Nat) : y_F h (x_nA h1 k n) P R := by
  obtain ⟨a1, a2, a3, a4, a5⟩ := a
  refine ⟨Nat.le_trans a1 (Nat.le_succ _), Nat.le_trans a2 (Nat.le_add_right _ _), fun q hq => ?_, a4, fun q hq hr => ?_⟩
  · rw [x_kd_nA, if_neg (by omega), x_ln_nA, if_neg (by omega)]
    exact a3 q hq
  · refine ⟨?_, ?_⟩
    · funext i
      rw [x_rw_nA, if_neg (by omega), (a5 q hq hr).1]
    · funext i
      rw [x_rl_nA, if_neg (by omega), (a5 q hq hr).2]
theorem s_start {h h1 h3 : x_H} {ca m : Nat} (hm : m = ca + 11) (a1 : k_New h h1 ca) (a2 : m_New (x_nO h1 10 29) h3 m) : s_S (x_nA h3 23 1) ca m := by
  obtain ⟨b1, b2, b3, b4, b5, b6, b7, b8, b9, b10, b11, b12, b13, b14, b15, -⟩ := a1
  obtain ⟨d1, d2, d3, d4, d5, d6, d7⟩ := a2
  have y13 : y_F h1 h3 (fun _ _ => False) (fun _ => False) := by
    refine ⟨by omega, by rw [d3, x_us_nO]; omega, fun a ha => ?_, fun i a ha _ => ?_, fun a ha _ => ?_⟩
    · obtain ⟨e1, e2, e3, e4, e5, e6, e7⟩ := d7 a (by omega)
      rw [x_kd_nO, if_neg (by omega)] at e1
      exact ⟨e1, e5⟩
    · obtain ⟨e1, e2, e3, e4, e5, e6, e7⟩ := d7 a (by omega)
      have e2 := e2 i
      have e3 := e3 i
      have e4 := e4 i
      rw [x_fi_nO, if_neg (by omega)] at e2
      rw [x_fr_nO, if_neg (by omega)] at e3
      rw [x_fl_nO, if_neg (by omega)] at e4
      exact ⟨e2, e3, e4⟩
    · obtain ⟨e1, e2, e3, e4, e5, e6, e7⟩ := d7 a (by omega)
      exact ⟨e6, e7⟩
  have y14 : y_F h1 (x_nA h3 23 1) (fun _ _ => False) (fun _ => False) := y13.NA 23 1
  have y34 : y_F h3 (x_nA h3 23 1) (fun _ _ => False) (fun _ => False) := y_F.rf.NA 23 1
  have z4 : x_sz (x_nA h3 23 1) = m + 18 := by rw [x_sz_nA, d2]
  have l1 : x_kd (x_nA h3 23 1) (m + 17) = 23 := by rw [x_kd_nA, if_pos d2.symm]
  have l2 : x_ln (x_nA h3 23 1) (m + 17) = 1 := by rw [x_ln_nA, if_pos d2.symm]
  generalize x_nA h3 23 1 = h4 at y14 y34 z4 l1 l2
  have rm : ∀ q, 1 ≤ q → q ≤ 16 → ¬ q = 13 → ∀ i, x_rw h4 (m + q) i = 0 := fun q g1 g2 g3 i => by rw [y34.rw (by omega) (fun z => z)]; exact d5 q g1 g2 g3 i
  have fm : ∀ i, x_fi h4 i m = if i = 1019 then -1 else if i = 1018 then 1 else 0 := fun i => (y34.fi (by omega) (fun z => z)).trans (d4 i)
  refine ⟨hm, ⟨l1, l2⟩, 0, [], [], fun _ => -1, [], [], (fun _ => false, fun _ => 0, fun _ => 0, fun _ => -1, true), fun _ => -5, [], -1, ⟨b1.Y (by omega) y14 (fun f a _ _ z => z), by omega, ?_, ⟨fun p hp => ⟨?_, ?_, ?_⟩, fun t ht => ?_, ?_⟩, ?_, Nat.zero_le _, fun i x hi => (by cases hi), ca + 10, [], [], (y14.fr (by omega) (fun z => z)).trans b6, (b7 _).F y14 (fun f a _ z => z), fun i r hi => (by cases hi), (y14.fi (by omega) (fun z => z)).trans b8⟩, ⟨⟨⟨d1.Y (by omega) y34 (fun f _ => y34.fr (by omega) (fun z => z)), ⟨fun i => by rw [rm 2 (by omega) (by omega) (by omega)]; rfl, Nat.zero_le _, fun i q hi => (by cases hi)⟩, by rw [fm]; rfl, rfl⟩, ⟨by rw [fm]; rfl, by rw [fm]; rfl, fun i q hi => (by cases hi), fun i d hi => (by cases hi)⟩, Nat.zero_le _, Nat.zero_le _, fun i q hi => (by cases hi)⟩, by omega, by rw [fm]; rfl, ⟨fun p hp => ⟨by rw [rm 12 (by omega) (by omega) (by omega)]; rfl, by rw [rm 10 (by omega) (by omega) (by omega)]; rfl, by rw [rm 11 (by omega) (by omega) (by omega)]; rfl⟩, fun t ht => ?_, by rw [fm]; rfl⟩, fun r hr => absurd hr (Nat.not_lt_zero _), ⟨by rw [fm]; rfl, fun i x hi => (by cases hi)⟩, by rw [fm]; rfl⟩, ⟨Nat.zero_le _, ?_, fun i => by rw [rm 1 (by omega) (by omega) (by omega)]; rfl, rfl, fun N hN => ⟨rfl, rfl⟩, rfl, rfl, rfl, s_m5.1, Nat.zero_le _, s_m5.2⟩⟩
  · rw [y14.fi (by omega) (fun z => z), b4]
    rfl
  · rw [y14.rw (q := ca + 5 + 3) (by omega) (fun z => z)]
    exact b13 p
  · rw [y14.rl (q := ca + 5 + 1) (by omega) (fun z => z)]
    exact b11 p
  · rw [y14.rl (q := ca + 5 + 2) (by omega) (fun z => z)]
    exact b12 p
  · rw [y14.rw (q := ca + 5 + 4) (by omega) (fun z => z)]
    exact b14 t ht
  · rw [y14.fi (by omega) (fun z => z), b15]
    rfl
  · rw [y14.fi (by omega) (fun z => z), b5]
    rfl
  · rw [y34.rw (q := m + 13) (by omega) (fun z => z)]
    exact d6 t ht
  · funext i
    rw [rm 1 (by omega) (by omega) (by omega), y14.rw (q := ca + 1) (by omega) (fun z => z)]
    exact b9 i
