/-! run, walk, read on both sides -/
theorem s_OO {X : z_X} {C : Nat → Int32} {R : List (Nat × Nat)} {act : Int32} : z_OO X C R act R.length = (z_fhs C R (z_V X C R act R.length) 0).map (z_cl' C R) := by
  rw [z_OO_eq R.length (Nat.le_refl _)]
  unfold z_fhs
  rw [Nat.sub_zero, ← List.range_eq_range']
/-- the reference has looked -/
theorem s_look {h1 h2 : x_H} {ca m n : Nat} {K : List Int32} {l : List (Nat × Nat)} {C : Nat → Int32} {R : List (Nat × Nat)} {E : List Int32} {X : z_X} {V : Nat → Int32} {O : List Int32} {act act' : Int32} (hm : m = ca + 11) (hla : x_kd h1 (m + 17) = 23 ∧ x_ln h1 (m + 17) = 1) (c1 : s_C h1 ca n K C R E X (z_V X C R act' R.length) act') (k1 : s_M h1 m n l C R E X V O act) (j1 : s_J h1 ca m n K l C R E V O) (hr : m_R1 h1 h2 m act' (z_V X C R act' R.length) (z_OO X C R act' R.length)) : s_S h2 ca m := by
  obtain ⟨y2, e1, e2, v1, v2, v3⟩ := hr
  have y2' : y_F h1 h2 (fun i a => a = m ∧ (i = 1019 ∨ i = 1023 ∨ i = 1024 ∨ i = 1026 ∨ i = 1027 ∨ i = 1028)) (fun a => a = m + 14 ∨ a = m + 15 ∨ a = m + 16) := y_F.X y2 (fun _ _ z => z) (fun _ z => z)
  have ks := k1.2.1
  refine ⟨hm, ⟨by rw [y2.2.2.1]; exact hla.1, by rw [y2.2.2.2.2.1]; exact hla.2⟩, n, K, l, C, R, E, X, _, _, act', c1.Y y2' (fun f a z => by omega) (fun a z => by omega) ((y2.fi (by omega)).trans c1.2.2.1), ⟨k1.1.Y (by omega) y2' (fun f _ => by rw [y2.2.2.2.1]) (by omega) (by omega) (by omega) (fun j g => by omega), by rw [y2.1]; exact ks, (y2.fi (by omega)).trans k1.2.2.1, ?_, fun r hr => v1 r (by have := k1.1.2.2.1; omega), v2, e1⟩, ?_⟩
  · unfold m_X
    rw [y2.rw (q := m + 10) (by omega), y2.rw (q := m + 11) (by omega), y2.rw (q := m + 12) (by omega), y2.rw (q := m + 13) (by omega), y2.fi (i := 1018) (by omega)]
    exact k1.2.2.2.1
  · obtain ⟨j1, j2, j3, j4, j5, j6, j7, j8, -⟩ := j1
    refine ⟨j1, ?_, ?_, ?_, j5, j6, j7, j8, z_oh_V R.length (Nat.le_refl _), v3.le, s_OO⟩
    · rw [y2.rw (by omega), y2.rw (by omega)]
      exact j2
    · rw [y2.rw (by omega)]
      exact j3
    · rw [y2.rw (by omega)]
      exact j4
theorem s_J.Y {h h1 : x_H} {ca m n : Nat} {K : List Int32} {l : List (Nat × Nat)} {C : Nat → Int32} {R : List (Nat × Nat)} {E : List Int32} {V : Nat → Int32} {O : List Int32} {P : Nat → Nat → Prop} {S : Nat → Prop} (j : s_J h ca m n K l C R E V O) (hl : m + 2 < x_sz h ∧ ca + 1 < x_sz h) (hF : y_F h h1 P S) (h1s : ¬ S (ca + 1)) (h2s : ¬ S (m + 1)) (h3s : ¬ S (m + 2)) : s_J h1 ca m n K l C R E V O := by
  unfold s_J
  rw [hF.rw (q := ca + 1) (by omega) h1s, hF.rw (q := m + 1) (by omega) h2s, hF.rw (q := m + 2) (by omega) h3s]
  exact j
theorem st_run {G : x_G} {h : x_H} {ca m : Nat} (S : s_S h ca m) (day : Int64) : s_I G h ca m mX9_run mX10_run [x_l day] := by
  obtain ⟨hm, hla, n, K, l, C, R, E, X, V, O, act, c, k, j⟩ := S
  obtain ⟨bk, rs, es, f6, hb, hV, ha⟩ := id c.2.2.2.2.2.2.2
  have ks := k.2.1
  have cs := c.2.1
  obtain ⟨_, h1, ⟨rfl, ⟨m1, m2, m3, m4⟩, m5⟩, hc1⟩ := c_runX G hb c.1 f6 (j.E k) k.R c.2.2.2.1 (by omega) k.1.2.2.1 day
  have c1 : s_C h1 ca n K C R E X (z_V X C R (z_ed E day E.length) R.length) (z_ed E day E.length) := ⟨c.1.Y (by omega) m1 (fun f a z _ => by omega), by omega, (m1.fi (by omega) (by omega)).trans c.2.2.1, c.2.2.2.1.Y (by omega) m1 (by omega) (fun _ _ _ z => z), (m1.fi (by omega) (by omega)).trans c.2.2.2.2.1, c.2.2.2.2.2.1, fun i x hi => by rw [m1.rw (by omega) (fun z => z)]; exact c.2.2.2.2.2.2.1 i x hi, bk, rs, es, (m1.fr (by omega) (by omega)).trans f6, hb.F m1 (fun f a z => by omega), m5, m4⟩
  have k1 := k.Y m1 (fun f a z => Or.inl (by omega)) (fun f _ => m1.fr (by omega) (by omega)) (fun a z => z.elim) ((m1.fi (by omega) (by omega)).trans k.2.2.1)
  obtain ⟨_, h2, ⟨rfl, hr⟩, hc2⟩ := c_runM G k1.1 k1.2.2.2.1 day
  refine ⟨_, h1, h2, mPk_0 k1.1.1.1, hc1, hc2, s_look hm ⟨by rw [m1.kd (by omega)]; exact hla.1, by rw [m1.ln (by omega)]; exact hla.2⟩ c1 k1 (j.Y ⟨by omega, by omega⟩ m1 (fun z => z) (fun z => z) (fun z => z)) hr, by rw [hr.1.1, m2]; omega, by rw [hr.1.2.1, m3]; omega⟩
theorem st_walk {G : x_G} {ad st vl : Nat → Nat} {kt : Nat × Option Nat} (hG : x_GS G ad st vl kt) {h : x_H} {ca m : Nat} (S : s_S h ca m) (day : Int64) : s_I G h ca m mX9_walk mX10_walk [x_l day] := by
  obtain ⟨hm, hla, n, K, l, C, R, E, X, V, O, act, c, k, j⟩ := S
  obtain ⟨bk, rs, es, f6, hb, hV, ha⟩ := id c.2.2.2.2.2.2.2
  have ks := k.2.1
  have cs := c.2.1
  obtain ⟨w1, w2⟩ := j.2.2.2.2.1 (x_rw h (ca + 2)) c.2.2.2.2.2.2.1
  obtain ⟨_, h1, ⟨rfl, m1, m2, m3⟩, hc1⟩ := c_walkX hG c.1 (by omega) c.2.2.2.2.1 c.2.2.2.2.2.1 w1 w2 j.2.2.2.2.2.1 j.2.2.2.2.2.2.1 j.2.2.2.2.2.2.2.1 k.R (j.E k) k.1.2.2.1 c.2.2.2.1 day
  have c1 : s_C h1 ca n K C R E X (z_V X C R (z_ed E day E.length) R.length) (z_ed E day E.length) := ⟨c.1.Y (by omega) m1 (fun f a z _ => by omega), by have := m1.1; omega, (m1.fi (by omega) (by omega)).trans c.2.2.1, c.2.2.2.1.Y (by omega) m1 (by omega) (fun i g1 g2 => by omega), (m1.fi (by omega) (by omega)).trans c.2.2.2.2.1, c.2.2.2.2.2.1, fun i x hi => by rw [m1.rw (by omega) (by omega)]; exact c.2.2.2.2.2.2.1 i x hi, m3⟩
  have k1 := k.Y m1 (fun f a z => Or.inl (by omega)) (fun f _ => m1.fr (by omega) (by omega)) (fun a z => Or.inl (by omega)) ((m1.fi (by omega) (by omega)).trans k.2.2.1)
  obtain ⟨_, h2, ⟨rfl, hr⟩, hc2⟩ := c_walkM G k1.1 k1.2.2.2.1 day
  refine ⟨_, h1, h2, mPk_0 k1.1.1.1, hc1, hc2, s_look hm ⟨by rw [m1.kd (by omega)]; exact hla.1, by rw [m1.ln (by omega)]; exact hla.2⟩ c1 k1 (j.Y ⟨by omega, by omega⟩ m1 (by omega) (by omega) (by omega)) hr, by rw [hr.1.1]; exact m2.1, by rw [hr.1.2.1]; exact m2.2⟩
theorem z_tx_cg {T U : Nat → Int32} {n : Nat} (h : ∀ i, i < n → U i = T i) : ∀ (l : List (Nat × Nat)), (∀ q ∈ l, q.2 ≤ n) → z_tx U l = z_tx T l
  | [], _ => rfl
  | q :: l, hw => by
    have e : z_sl U q.1 q.2 = z_sl T q.1 q.2 := by
      unfold z_sl
      refine List.map_congr_left fun i hi => ?_
      have h1 := List.mem_range'_1.mp hi
      have h2 := hw q List.mem_cons_self
      exact h i (by omega)
    have ih := z_tx_cg h l (fun x hx => hw x (List.mem_cons_of_mem _ hx))
    rw [z_tx, z_tx, e, ih]
theorem s_m5 {C : Nat → Int32} {R : List (Nat × Nat)} : z_oh C R (fun _ => -5) [] ∧ ([] : List Int32) = (z_fhs C R (fun _ => -5) 0).map (z_cl' C R) := by
  constructor
  · intro c
    constructor
    · intro z
      cases z
    · rintro ⟨j, hj⟩
      unfold z_so at hj
      cases hq : R[j]? with
      | none => rw [hq] at hj; cases hj
      | some q => rw [hq] at hj; cases hj
  · have e : z_fhs C R (fun _ => -5) 0 = [] := by
      unfold z_fhs
      rw [List.filter_eq_nil_iff]
      intro j _ z
      unfold z_fh at z
      cases hq : R[j]? with
      | none => rw [hq] at z; cases z
      | some q => rw [hq] at z; cases z
    rw [e]
    rfl
theorem s_M.Y2 {h h1 : x_H} {m n n' : Nat} {l : List (Nat × Nat)} {C : Nat → Int32} {R : List (Nat × Nat)} {E : List Int32} {X : z_X} {V : Nat → Int32} {O : List Int32} {act : Int32} (k : s_M h m n l C R E X V O act) (hF : x_F h h1 (fun i a => a = m ∧ (i = 1001 ∨ i = 1008 ∨ i = 1024 ∨ i = 1025)) (fun a => a = m + 5 ∨ a = m + 6)) (hn : x_fi h1 1001 m = nI n') : s_M h1 m n' l C R E X V O act := by
  obtain ⟨k1, k2, k3, k4, k5, k6, k7⟩ := k
  have hY : y_F h h1 (fun i a => a = m ∧ (i = 1001 ∨ i = 1008 ∨ i = 1024 ∨ i = 1025)) (fun a => a = m + 5 ∨ a = m + 6) := y_F.X hF (fun _ _ z => z) (fun _ z => z)
  refine ⟨k1.Y (by omega) hY (fun f _ => by rw [hF.2.2.2.1]) (by omega) (by omega) (by omega) (fun j g => by omega), by rw [hF.1]; exact k2, hn, ?_, ?_, ?_, (hF.fi (by omega)).trans k7⟩
  · unfold m_X
    rw [hF.rw (q := m + 10) (by omega), hF.rw (q := m + 11) (by omega), hF.rw (q := m + 12) (by omega), hF.rw (q := m + 13) (by omega), hF.fi (i := 1018) (by omega)]
    exact k4
  · unfold m_V
    rw [hF.rw (q := m + 14) (by omega), hF.rw (q := m + 15) (by omega)]
    exact k5
  · unfold m_O
    rw [hF.rw (q := m + 16) (by omega), hF.fi (i := 1023) (by omega)]
    exact k6
theorem st_read {G : x_G} {ad st vl : Nat → Nat} {kt : Nat × Option Nat} (hG : x_GS G ad st vl kt) {h : x_H} {ca m : Nat} (S : s_S h ca m) : s_I G h ca m mX9_read mX10_read [] := by
  obtain ⟨hm, hla, n, K, l, C, R, E, X, V, O, act, c, k, j⟩ := S
  obtain ⟨bk, rs, es, f6, hb, hV, ha⟩ := id c.2.2.2.2.2.2.2
  have ks := k.2.1
  have cs := c.2.1
  obtain ⟨j1, j2, j3, j4, j5, j6, j7, j8, j9⟩ := id j
  have hT : ∀ i, (x_rw h (ca + 1) i).toInt8.toInt32 = x_rw h (ca + 1) i := by rw [j2]; exact j3
  obtain ⟨r1, h1, d1, hc1⟩ := c_readX hG c.1 (by omega) c.2.2.1 j1 hT
  have y1 : y_F h h1 (fun f a => (a = ca ∧ (f = 901 ∨ f = 903 ∨ f = 906)) ∨ (a = ca + 3 ∧ (f = 801 ∨ f = 802))) (fun a => a = ca + 2 ∨ a = ca + 4) := by
    rcases d1 with ⟨-, -, d⟩ | ⟨-, -, d⟩
    · exact d.1.mono (fun f a z => by omega) (fun a z => by omega)
    · exact d.1
  have k1 := k.Y y1 (fun f a z => Or.inl (by omega)) (fun f _ => y1.fr (by omega) (by omega)) (fun a z => Or.inl (by omega)) ((y1.fi (by omega) (by omega)).trans k.2.2.1)
  have e1 : x_rw h1 (m + 1) = x_rw h (ca + 1) := by rw [y1.rw (by omega) (by omega), j2]
  have e2 : x_rw h1 (ca + 1) = x_rw h (ca + 1) := y1.rw (by omega) (by omega)
  obtain ⟨r2, h2, d2, hc2⟩ := c_readM G k1.1.1.1 k1.2.2.1 j1 (by rw [e1]; exact hT) k1.1.1.2.1.1
  rw [e1] at d2
  generalize hl' : z_words (x_rw h (ca + 1)) n = l' at d1 d2
  generalize hC' : m_C (x_rw h (ca + 1)) l' = C' at d1 d2
  have hw' : ∀ q ∈ l', z_wo (x_rw h (ca + 1)) n q := by rw [← hl']; exact z_words_wo
  rcases d1 with ⟨t1, rfl, q1, q2, q3⟩ | ⟨t1, rfl, q1, q2, q3, q4, q5, q6, q7⟩
  · rcases d2 with ⟨t2, rfl, p1, p2, p3⟩ | ⟨t2, -⟩
    · have p1' : y_F h1 h2 (fun i a => a = m ∧ (i = 1001 ∨ i = 1008 ∨ i = 1024 ∨ i = 1025)) (fun a => a = m + 5 ∨ a = m + 6) := y_F.X p1 (fun _ _ z => z) (fun _ z => z)
      have c1 : s_C h1 ca 0 K C R E X V act := ⟨c.1.Y (by omega) q1 (fun f a z _ => by omega), by have := q1.1; omega, q2.trans nI_0.symm, c.2.2.2.1.Y (by omega) q1 (by omega) (fun i g1 g2 => by omega), (q1.fi (by omega) (by omega)).trans c.2.2.2.2.1, c.2.2.2.2.2.1, fun i x hi => by rw [q1.rw (by omega) (by omega)]; exact c.2.2.2.2.2.2.1 i x hi, c.2.2.2.2.2.2.2.Y (by omega) q1 (fun f a z1 z2 z3 => by omega)⟩
      have c2 := c1.Y (n' := 0) p1' (fun f a z => by omega) (fun a z => by omega) ((p1.fi (by omega)).trans c1.2.2.1)
      have k2 := k1.Y2 (n' := 0) p1 (p2.trans nI_0.symm)
      have jj := (j.Y ⟨by omega, by omega⟩ y1 (by omega) (by omega) (by omega)).Y ⟨by have := y1.1; omega, by have := y1.1; omega⟩ p1' (by omega) (by omega) (by omega)
      exact ⟨_, h1, h2, mPk_0 k1.1.1.1, hc1, hc2, ⟨hm, ⟨by rw [p1.2.2.1, y1.kd (by omega)]; exact hla.1, by rw [p1.2.2.2.2.1, y1.ln (by omega)]; exact hla.2⟩, 0, K, l, C, R, E, X, V, O, act, c2, k2, Nat.zero_le _, jj.2⟩, by rw [p1.1]; exact q3.1, by rw [p1.2.1]; exact q3.2⟩
    · rw [t1] at t2
      cases t2
  · rcases d2 with ⟨t2, -⟩ | ⟨t2, rfl, ⟨p1, p2, p3, p4, p5, p6, p7, p8⟩, p9⟩
    · rw [t1] at t2
      cases t2
    · have p1' : y_F h1 h2 (fun i a => a = m ∧ (i = 1001 ∨ i = 1005 ∨ i = 1008 ∨ i = 1011 ∨ i = 1013 ∨ i = 1019 ∨ i = 1023 ∨ i = 1024 ∨ i = 1025)) (fun a => (m + 2 ≤ a ∧ a ≤ m + 9) ∨ a = m + 14) := y_F.X p1 (fun _ _ z => z) (fun _ z => z)
      have ys := y1.1
      have c1 : s_C h1 ca 0 (z_tx (x_rw h (ca + 1)) l') C' (z_sc C' l'.length).1 (z_sc C' l'.length).2 X (fun _ => -5) (-1) := ⟨c.1.Y (by omega) q1 (fun f a z _ => by omega), by omega, q2.trans nI_0.symm, c.2.2.2.1.Y (by omega) q1 (by omega) (fun i g1 g2 => by omega), q3, q5, q4, q7⟩
      have c2 := c1.Y (n' := 0) p1' (fun f a z => by omega) (fun a z => by omega) ((p1.fi (by omega)).trans c1.2.2.1)
      have hN : q_N C' l'.length := by
        intro i hi
        rw [← hC']
        unfold m_C
        rw [List.getElem?_eq_none hi]
      have hl15 : l'.length ≤ 1500 := p4.2.1.2.1
      have hfit := z_rd_fit hN t1
      have hB : m_Bk h2 m l' C' (z_sc C' l'.length).1 (z_sc C' l'.length).2 := ⟨p4, p5, hfit.2.1, Nat.le_trans (z_sc_days C' l'.length).1 hl15, fun i q hi => by
        obtain ⟨w1, w2, w3⟩ := z_rd_rule hN t1 (List.mem_of_getElem? hi)
        exact ⟨by omega, w3⟩⟩
      have k2 : s_M h2 m 0 l' C' (z_sc C' l'.length).1 (z_sc C' l'.length).2 X (fun _ => -5) [] (-1) := ⟨hB, by rw [p1.1]; omega, p2.trans nI_0.symm, by
        unfold m_X
        rw [p1.rw (q := m + 10) (by omega), p1.rw (q := m + 11) (by omega), p1.rw (q := m + 12) (by omega), p1.rw (q := m + 13) (by omega), p1.fi (i := 1018) (by omega)]
        exact k1.2.2.2.1, fun r hr => ⟨by rw [p8 r (by have := hfit.2.1; omega)]; rfl, fun z => absurd (show (0 : Int32) ≤ -5 from z) (by decide)⟩, ⟨p7.trans nI_0.symm, fun i x hi => by cases hi⟩, p6⟩
      refine ⟨_, h1, h2, mPk_0 k1.1.1.1, hc1, hc2, ⟨hm, ⟨by rw [p1.2.2.1, y1.kd (by omega)]; exact hla.1, by rw [p1.2.2.2.2.1, y1.ln (by omega)]; exact hla.2⟩, 0, z_tx (x_rw h (ca + 1)) l', l', C', _, _, X, fun _ => -5, [], -1, c2, k2, Nat.zero_le _, ?_, ?_, ?_, ?_, t1, rfl, rfl, s_m5.1, Nat.zero_le _, s_m5.2⟩, by rw [p1.1]; exact q6.1, by rw [p1.2.1]; exact q6.2⟩
      · rw [p1.rw (by omega), p1.rw (by omega), e1, e2]
      · rw [p1.rw (by omega), e1]
        exact hT
      · refine (z_tx_cg (n := n) (fun i hi => ?_) l' (fun q hq => (hw' q hq).2.1)).symm
        exact p9 i hi
      · intro N hN9
        have kk := z_words_tx (T := x_rw h (ca + 1)) (N := N) (n := n) (by rw [hl']; exact hN9)
        rw [hl', hC'] at kk
        exact kk
