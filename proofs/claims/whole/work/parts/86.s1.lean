/-! THE CLASS AND THE REFERENCE SIDE BY SIDE: what holds between two calls -/
theorem mP.Y {h h1 : x_H} {m : Nat} {P : Nat → Nat → Prop} {S : Nat → Prop} (hp : mP h m) (hl : m + 16 < x_sz h) (hF : y_F h h1 P S) (hq : ∀ f, 1000 ≤ f → x_fr h1 f m = x_fr h f m) : mP h1 m := by
  exact ⟨(hF.kd (by omega)).trans (mPk_0 hp), ⟨(hq 1000 (by decide)).trans (mPr_1000 hp), (hF.kd (by omega)).trans (mPk_1 hp), (hF.ln (by omega)).trans (mPl_1 hp)⟩, ⟨(hq 1002 (by decide)).trans (mPr_1002 hp), (hF.kd (by omega)).trans (mPk_2 hp), (hF.ln (by omega)).trans (mPl_2 hp)⟩, ⟨(hq 1003 (by decide)).trans (mPr_1003 hp), (hF.kd (by omega)).trans (mPk_3 hp), (hF.ln (by omega)).trans (mPl_3 hp)⟩, ⟨(hq 1004 (by decide)).trans (mPr_1004 hp), (hF.kd (by omega)).trans (mPk_4 hp), (hF.ln (by omega)).trans (mPl_4 hp)⟩, ⟨(hq 1006 (by decide)).trans (mPr_1006 hp), (hF.kd (by omega)).trans (mPk_5 hp), (hF.ln (by omega)).trans (mPl_5 hp)⟩, ⟨(hq 1007 (by decide)).trans (mPr_1007 hp), (hF.kd (by omega)).trans (mPk_6 hp), (hF.ln (by omega)).trans (mPl_6 hp)⟩, ⟨(hq 1009 (by decide)).trans (mPr_1009 hp), (hF.kd (by omega)).trans (mPk_7 hp), (hF.ln (by omega)).trans (mPl_7 hp)⟩, ⟨(hq 1010 (by decide)).trans (mPr_1010 hp), (hF.kd (by omega)).trans (mPk_8 hp), (hF.ln (by omega)).trans (mPl_8 hp)⟩, ⟨(hq 1012 (by decide)).trans (mPr_1012 hp), (hF.kd (by omega)).trans (mPk_9 hp), (hF.ln (by omega)).trans (mPl_9 hp)⟩, ⟨(hq 1014 (by decide)).trans (mPr_1014 hp), (hF.kd (by omega)).trans (mPk_10 hp), (hF.ln (by omega)).trans (mPl_10 hp)⟩, ⟨(hq 1015 (by decide)).trans (mPr_1015 hp), (hF.kd (by omega)).trans (mPk_11 hp), (hF.ln (by omega)).trans (mPl_11 hp)⟩, ⟨(hq 1016 (by decide)).trans (mPr_1016 hp), (hF.kd (by omega)).trans (mPk_12 hp), (hF.ln (by omega)).trans (mPl_12 hp)⟩, ⟨(hq 1017 (by decide)).trans (mPr_1017 hp), (hF.kd (by omega)).trans (mPk_13 hp), (hF.ln (by omega)).trans (mPl_13 hp)⟩, ⟨(hq 1020 (by decide)).trans (mPr_1020 hp), (hF.kd (by omega)).trans (mPk_14 hp), (hF.ln (by omega)).trans (mPl_14 hp)⟩, ⟨(hq 1021 (by decide)).trans (mPr_1021 hp), (hF.kd (by omega)).trans (mPk_15 hp), (hF.ln (by omega)).trans (mPl_15 hp)⟩, ⟨(hq 1022 (by decide)).trans (mPr_1022 hp), (hF.kd (by omega)).trans (mPk_16 hp), (hF.ln (by omega)).trans (mPl_16 hp)⟩⟩
/-- the class's side: n bytes are handed over, K is kept; the text by codes C, rules R, days E; facts X; verdicts V by the edition act -/
def s_C (h : x_H) (ca n : Nat) (K : List Int32) (C : Nat → Int32) (R : List (Nat × Nat)) (E : List Int32) (X : z_X) (V : Nat → Int32) (act : Int32) : Prop := k_P h ca ∧ ca + 11 ≤ x_sz h ∧ x_fi h 901 ca = nI n ∧ f_X h (ca + 5) X ∧ x_fi h 903 ca = nI K.length ∧ K.length ≤ 3000 ∧ (∀ (j : Nat) (x : Int32), K[j]? = some x → x_rw h (ca + 2) j = x) ∧ k_B h ca C R E V act
theorem k_B.Y {h h1 : x_H} {ca : Nat} {C : Nat → Int32} {R : List (Nat × Nat)} {E : List Int32} {V : Nat → Int32} {act : Int32} {P : Nat → Nat → Prop} {S : Nat → Prop} (k : k_B h ca C R E V act) (hl : ca < x_sz h) (hF : y_F h h1 P S) (hP : ∀ f a, f < 900 ∨ f = 906 → ¬ (300 ≤ f ∧ f ≤ 304) → ¬ (800 ≤ f ∧ f ≤ 802) → ¬ P f a) : k_B h1 ca C R E V act := by
  obtain ⟨bk, rs, es, k1, k2, k3, k4⟩ := k
  refine ⟨bk, rs, es, (hF.fr hl (hP _ _ (by omega) (by omega) (by omega))).trans k1, k2.F hF (fun f a z => hP f a (by omega) (by omega) (by omega)), fun j r hj => ?_, (hF.fi k2.1.1 (hP _ _ (by omega) (by omega) (by omega))).trans k4⟩
  rw [hF.fi (k2.2.2.2.2.2.2.2.1.2.1.2 r (List.mem_of_getElem? hj)) (hP _ _ (by omega) (by omega) (by omega))]
  exact k3 j r hj
theorem s_C.Y {h h1 : x_H} {ca n n' : Nat} {K : List Int32} {C : Nat → Int32} {R : List (Nat × Nat)} {E : List Int32} {X : z_X} {V : Nat → Int32} {act : Int32} {P : Nat → Nat → Prop} {S : Nat → Prop} (k : s_C h ca n K C R E X V act) (hF : y_F h h1 P S) (hP : ∀ f a, P f a → f = 901 ∨ 1000 ≤ f) (hS : ∀ a, S a → a = ca + 1 ∨ ca + 11 ≤ a) (hn : x_fi h1 901 ca = nI n') : s_C h1 ca n' K C R E X V act := by
  obtain ⟨k1, k2, k3, k4, k5, k6, k7, k8⟩ := k
  refine ⟨k1.Y (by omega) hF (fun f a z _ y => by have := hP f a y; omega), by have := hF.1; omega, hn, k4.Y (by omega) hF (fun y => by have := hP _ _ y; omega) (fun j g1 g2 y => by have := hS _ y; omega), (hF.fi (by omega) (fun y => by have := hP _ _ y; omega)).trans k5, k6, fun j x hj => ?_, k8.Y (by omega) hF (fun f a z1 z2 z3 y => by have := hP _ _ y; omega)⟩
  rw [hF.rw (by omega) (fun y => by have := hS _ y; omega)]
  exact k7 j x hj
theorem s_C.X {h h1 : x_H} {ca n : Nat} {K : List Int32} {C : Nat → Int32} {R : List (Nat × Nat)} {E : List Int32} {X X' : z_X} {V : Nat → Int32} {act : Int32} {P : Nat → Nat → Prop} {S : Nat → Prop} (k : s_C h ca n K C R E X V act) (hF : y_F h h1 P S) (hP : ∀ f a, P f a → f = 300) (hfr : x_fr h1 = x_fr h) (hS : ∀ a, S a → ca + 6 ≤ a ∧ a ≤ ca + 9) (hX : f_X h1 (ca + 5) X') : s_C h1 ca n K C R E X' V act := by
  obtain ⟨k1, k2, k3, k4, k5, k6, k7, k8⟩ := k
  have hk : k_P h1 ca := by
    obtain ⟨a0, ⟨a1, a2, a3⟩, ⟨b1, b2, b3⟩, c1, ⟨d0, d1, d2, d3⟩, e1, ⟨g0, ⟨g1, g2, g3⟩, ⟨i1, i2, i3⟩, ⟨j1, j2, j3⟩, ⟨l1, l2, l3⟩⟩⟩ := k1
    have hkd : ∀ q, q < x_sz h → x_kd h1 q = x_kd h q := fun q hq => hF.kd hq
    have hln : ∀ q, q < x_sz h → x_ln h1 q = x_ln h q := fun q hq => hF.ln hq
    unfold k_P c_W f_P
    rw [hfr, hkd ca (by omega), hkd (ca + 1) (by omega), hkd (ca + 2) (by omega), hkd (ca + 3) (by omega), hkd (ca + 3 + 1) (by omega), hkd (ca + 5) (by omega), hkd (ca + 5 + 1) (by omega), hkd (ca + 5 + 2) (by omega), hkd (ca + 5 + 3) (by omega), hkd (ca + 5 + 4) (by omega), hln (ca + 1) (by omega), hln (ca + 2) (by omega), hln (ca + 3 + 1) (by omega), hln (ca + 5 + 1) (by omega), hln (ca + 5 + 2) (by omega), hln (ca + 5 + 3) (by omega), hln (ca + 5 + 4) (by omega)]
    exact ⟨a0, ⟨a1, a2, a3⟩, ⟨b1, b2, b3⟩, c1, ⟨d0, d1, d2, d3⟩, e1, ⟨g0, ⟨g1, g2, g3⟩, ⟨i1, i2, i3⟩, ⟨j1, j2, j3⟩, ⟨l1, l2, l3⟩⟩⟩
  refine ⟨hk, by have := hF.1; omega, (hF.fi (by omega) (fun y => by have := hP _ _ y; omega)).trans k3, hX, (hF.fi (by omega) (fun y => by have := hP _ _ y; omega)).trans k5, k6, fun j x hj => ?_, k8.Y (by omega) hF (fun f a z1 z2 z3 y => by have := hP _ _ y; omega)⟩
  rw [hF.rw (by omega) (fun y => by have := hS _ y; omega)]
  exact k7 j x hj
/-- the reference's side -/
def s_M (h : x_H) (m n : Nat) (l : List (Nat × Nat)) (C : Nat → Int32) (R : List (Nat × Nat)) (E : List Int32) (X : z_X) (V : Nat → Int32) (O : List Int32) (act : Int32) : Prop := m_Bk h m l C R E ∧ m + 18 ≤ x_sz h ∧ x_fi h 1001 m = nI n ∧ m_X h m X ∧ m_V h m V R.length ∧ m_O h m O ∧ x_fi h 1019 m = act
/-- the heap has kept the reference's places, but what P and S name -/
theorem m_Bk.Y {h h1 : x_H} {m : Nat} {l : List (Nat × Nat)} {C : Nat → Int32} {R : List (Nat × Nat)} {E : List Int32} {P : Nat → Nat → Prop} {S : Nat → Prop} (k : m_Bk h m l C R E) (hl : m + 16 < x_sz h) (hF : y_F h h1 P S) (hq : ∀ f, 1000 ≤ f → x_fr h1 f m = x_fr h f m) (p1 : ¬ P 1005 m) (p2 : ¬ P 1011 m) (p3 : ¬ P 1013 m) (hS : ∀ j, (2 ≤ j ∧ j ≤ 4) ∨ (7 ≤ j ∧ j ≤ 9) → ¬ S (m + j)) : m_Bk h1 m l C R E := by
  obtain ⟨⟨a1, a2, a3, a4⟩, ⟨b1, b2, b3, b4⟩, c1, c2, c3⟩ := k
  unfold m_Bk m_K m_B m_W
  rw [hF.rw (q := m + 2) (by omega) (hS 2 (by omega)), hF.rw (q := m + 3) (by omega) (hS 3 (by omega)), hF.rw (q := m + 4) (by omega) (hS 4 (by omega)), hF.rw (q := m + 7) (by omega) (hS 7 (by omega)), hF.rw (q := m + 8) (by omega) (hS 8 (by omega)), hF.rw (q := m + 9) (by omega) (hS 9 (by omega)), hF.fi (i := 1005) (by omega) p1, hF.fi (i := 1011) (by omega) p2, hF.fi (i := 1013) (by omega) p3]
  exact ⟨⟨a1.Y hl hF hq, a2, a3, a4⟩, ⟨b1, b2, b3, b4⟩, c1, c2, c3⟩
theorem s_M.Y {h h1 : x_H} {m n n' : Nat} {l : List (Nat × Nat)} {C : Nat → Int32} {R : List (Nat × Nat)} {E : List Int32} {X : z_X} {V : Nat → Int32} {O : List Int32} {act : Int32} {P : Nat → Nat → Prop} {S : Nat → Prop} (k : s_M h m n l C R E X V O act) (hF : y_F h h1 P S) (hP : ∀ f a, P f a → f < 1000 ∨ f = 1001 ∨ f = 1024 ∨ f = 1026 ∨ f = 1027 ∨ f = 1028) (hq : ∀ f, 1000 ≤ f → x_fr h1 f m = x_fr h f m) (hS : ∀ a, S a → a < m ∨ a = m + 1 ∨ m + 17 ≤ a) (hn : x_fi h1 1001 m = nI n') : s_M h1 m n' l C R E X V O act := by
  obtain ⟨k1, k2, k3, k4, k5, k6, k7⟩ := k
  have rw_ : ∀ j, 2 ≤ j → j ≤ 16 → x_rw h1 (m + j) = x_rw h (m + j) := fun j g1 g2 => hF.rw (by omega) (fun y => by have := hS _ y; omega)
  have fi_ : ∀ f, 1000 ≤ f → ¬ (f = 1001 ∨ f = 1024 ∨ f = 1026 ∨ f = 1027 ∨ f = 1028) → x_fi h1 f m = x_fi h f m := fun f g1 g2 => hF.fi (by omega) (fun y => by have := hP _ _ y; omega)
  refine ⟨k1.Y (by omega) hF hq (fun y => by have := hP _ _ y; omega) (fun y => by have := hP _ _ y; omega) (fun y => by have := hP _ _ y; omega) (fun j g y => by have := hS _ y; omega), by have := hF.1; omega, hn, ?_, ?_, ?_, (fi_ 1019 (by omega) (by omega)).trans k7⟩
  · unfold m_X
    rw [rw_ 10 (by omega) (by omega), rw_ 11 (by omega) (by omega), rw_ 12 (by omega) (by omega), rw_ 13 (by omega) (by omega), fi_ 1018 (by omega) (by omega)]
    exact k4
  · unfold m_V
    rw [rw_ 14 (by omega) (by omega), rw_ 15 (by omega) (by omega)]
    exact k5
  · unfold m_O
    rw [rw_ 16 (by omega) (by omega), fi_ 1023 (by omega) (by omega)]
    exact k6
theorem s_M.X {h h1 : x_H} {m n : Nat} {l : List (Nat × Nat)} {C : Nat → Int32} {R : List (Nat × Nat)} {E : List Int32} {X X' : z_X} {V : Nat → Int32} {O : List Int32} {act : Int32} {P : Nat → Nat → Prop} {S : Nat → Prop} (k : s_M h m n l C R E X V O act) (hF : x_F h h1 P S) (hP : ∀ f a, P f a → f = 1018 ∨ f = 1024) (hS : ∀ a, S a → m + 10 ≤ a ∧ a ≤ m + 13) (hX : m_X h1 m X') : s_M h1 m n l C R E X' V O act := by
  obtain ⟨k1, k2, k3, k4, k5, k6, k7⟩ := k
  have hY : y_F h h1 P S := y_F.X hF (fun _ _ z => z) (fun _ z => z)
  have fi_ : ∀ f, ¬ (f = 1018 ∨ f = 1024) → x_fi h1 f m = x_fi h f m := fun f g => hF.fi (fun y => g (hP _ _ y))
  refine ⟨k1.Y (by omega) hY (fun f _ => by rw [hF.2.2.2.1]) (fun y => by have := hP _ _ y; omega) (fun y => by have := hP _ _ y; omega) (fun y => by have := hP _ _ y; omega) (fun j g y => by have := hS _ y; omega), by rw [hF.1]; exact k2, (fi_ 1001 (by omega)).trans k3, hX, ?_, ?_, (fi_ 1019 (by omega)).trans k7⟩
  · unfold m_V
    rw [hF.rw (q := m + 14) (fun y => by have := hS _ y; omega), hF.rw (q := m + 15) (fun y => by have := hS _ y; omega)]
    exact k5
  · unfold m_O
    rw [hF.rw (q := m + 16) (fun y => by have := hS _ y; omega), fi_ 1023 (by omega)]
    exact k6
/-- both: the same bytes handed over, the text kept in one spelling, read again it is the same; what is held is what the verdicts say -/
def s_J (h : x_H) (ca m n : Nat) (K : List Int32) (l : List (Nat × Nat)) (C : Nat → Int32) (R : List (Nat × Nat)) (E : List Int32) (V : Nat → Int32) (O : List Int32) : Prop := n ≤ 3000 ∧ x_rw h (ca + 1) = x_rw h (m + 1) ∧ (∀ i, (x_rw h (m + 1) i).toInt8.toInt32 = x_rw h (m + 1) i) ∧ K = z_tx (x_rw h (m + 2)) l ∧ (∀ N : Nat → Int32, (∀ (i : Nat) (x : Int32), K[i]? = some x → N i = x) → (z_words N K.length).length = l.length ∧ m_C N (z_words N K.length) = C) ∧ (z_rd C l.length).1 = true ∧ (z_sc C l.length).1 = R ∧ (z_sc C l.length).2 = E ∧ z_oh C R V O ∧ O.length ≤ 20 ∧ O = (z_fhs C R V 0).map (z_cl' C R)
def s_S (h : x_H) (ca m : Nat) : Prop := m = ca + 11 ∧ (x_kd h (m + 17) = 23 ∧ x_ln h (m + 17) = 1) ∧ ∃ n K l C R E X V O act, s_C h ca n K C R E X V act ∧ s_M h m n l C R E X V O act ∧ s_J h ca m n K l C R E V O
/-- what follows -/
theorem s_M.N {h : x_H} {m n : Nat} {l : List (Nat × Nat)} {C : Nat → Int32} {R : List (Nat × Nat)} {E : List Int32} {X : z_X} {V : Nat → Int32} {O : List Int32} {act : Int32} (k : s_M h m n l C R E X V O act) : q_N C l.length := by
  intro j hj
  rw [k.1.1.2.2.2]
  unfold m_C
  rw [List.getElem?_eq_none hj]
theorem s_M.R {h : x_H} {m n : Nat} {l : List (Nat × Nat)} {C : Nat → Int32} {R : List (Nat × Nat)} {E : List Int32} {X : z_X} {V : Nat → Int32} {O : List Int32} {act : Int32} (k : s_M h m n l C R E X V O act) : ∀ q ∈ R, v_ru C q := by
  intro q hq
  obtain ⟨j, hj⟩ := List.mem_iff_getElem?.mp hq
  obtain ⟨a, b, hb⟩ := k.1.2.2.2.2 j q hj
  exact v_ru_of a hb
theorem s_J.E {h : x_H} {ca m n : Nat} {K : List Int32} {l : List (Nat × Nat)} {C : Nat → Int32} {R : List (Nat × Nat)} {E : List Int32} {X : z_X} {V : Nat → Int32} {O : List Int32} {act : Int32} (j : s_J h ca m n K l C R E V O) (k : s_M h m n l C R E X V O act) : E.Pairwise (· < ·) := by
  rw [← j.2.2.2.2.2.2.2.1]
  exact z_rd_days k.N j.2.2.2.2.2.1
