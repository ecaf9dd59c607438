/-! THE CLASS'S OBJECTS: frames over what was there before, linked rows -/
def y_F (h h' : x_H) (P : Nat → Nat → Prop) (R : Nat → Prop) : Prop := x_sz h ≤ x_sz h' ∧ x_us h ≤ x_us h' ∧ (∀ a, a < x_sz h → x_kd h' a = x_kd h a ∧ x_ln h' a = x_ln h a) ∧ (∀ i a, a < x_sz h → ¬ P i a → x_fi h' i a = x_fi h i a ∧ x_fr h' i a = x_fr h i a ∧ x_fl h' i a = x_fl h i a) ∧ ∀ a, a < x_sz h → ¬ R a → x_rw h' a = x_rw h a ∧ x_rl h' a = x_rl h a
section YF
variable {h h1 h2 : x_H} {P P1 P2 : Nat → Nat → Prop} {R R1 R2 : Nat → Prop}
theorem y_F.rf : y_F h h P R := ⟨Nat.le_refl _, Nat.le_refl _, fun _ _ => ⟨rfl, rfl⟩, fun _ _ _ _ => ⟨rfl, rfl, rfl⟩, fun _ _ _ => ⟨rfl, rfl⟩⟩
theorem y_F.tr (a : y_F h h1 P1 R1) (b : y_F h1 h2 P2 R2) (p1 : ∀ i q, P1 i q → P i q) (p2 : ∀ i q, q < x_sz h → P2 i q → P i q) (r1 : ∀ q, R1 q → R q) (r2 : ∀ q, q < x_sz h → R2 q → R q) : y_F h h2 P R := by
  obtain ⟨a1, a2, a3, a4, a5⟩ := a
  obtain ⟨b1, b2, b3, b4, b5⟩ := b
  refine ⟨by omega, by omega, fun q hq => ?_, fun i q hq z => ?_, fun q hq z => ?_⟩
  · obtain ⟨u1, u2⟩ := a3 q hq
    obtain ⟨v1, v2⟩ := b3 q (by omega)
    exact ⟨v1.trans u1, v2.trans u2⟩
  · obtain ⟨u1, u2, u3⟩ := a4 i q hq (fun y => z (p1 i q y))
    obtain ⟨v1, v2, v3⟩ := b4 i q (by omega) (fun y => z (p2 i q hq y))
    exact ⟨v1.trans u1, v2.trans u2, v3.trans u3⟩
  · obtain ⟨u1, u2⟩ := a5 q hq (fun y => z (r1 q y))
    obtain ⟨v1, v2⟩ := b5 q (by omega) (fun y => z (r2 q hq y))
    exact ⟨v1.trans u1, v2.trans u2⟩
theorem y_F.le (a : y_F h h1 P R) : x_sz h ≤ x_sz h1 ∧ x_us h ≤ x_us h1 := ⟨a.1, a.2.1⟩
theorem y_F.kd (a : y_F h h1 P R) {q : Nat} (hq : q < x_sz h) : x_kd h1 q = x_kd h q := (a.2.2.1 q hq).1
theorem y_F.ln (a : y_F h h1 P R) {q : Nat} (hq : q < x_sz h) : x_ln h1 q = x_ln h q := (a.2.2.1 q hq).2
theorem y_F.fi (a : y_F h h1 P R) {i q : Nat} (hq : q < x_sz h) (z : ¬ P i q) : x_fi h1 i q = x_fi h i q := (a.2.2.2.1 i q hq z).1
theorem y_F.fr (a : y_F h h1 P R) {i q : Nat} (hq : q < x_sz h) (z : ¬ P i q) : x_fr h1 i q = x_fr h i q := (a.2.2.2.1 i q hq z).2.1
theorem y_F.rw (a : y_F h h1 P R) {q : Nat} (hq : q < x_sz h) (z : ¬ R q) : x_rw h1 q = x_rw h q := (a.2.2.2.2 q hq z).1
theorem y_F.rl (a : y_F h h1 P R) {q : Nat} (hq : q < x_sz h) (z : ¬ R q) : x_rl h1 q = x_rl h q := (a.2.2.2.2 q hq z).2
theorem y_F.I (a : y_F h h1 P R) {i q : Nat} {v : Int32} (hp : q < x_sz h → P i q) : y_F h (x_sI h1 i q v) P R := by
  obtain ⟨a1, a2, a3, a4, a5⟩ := a
  refine ⟨a1, a2, a3, fun j b hb z => ?_, a5⟩
  obtain ⟨u1, u2, u3⟩ := a4 j b hb z
  refine ⟨?_, u2, u3⟩
  rw [x_fi_sI, if_neg (fun y => z (by have hb' := hb; rw [y.2] at hb'; rw [y.1, y.2]; exact hp hb'))]
  exact u1
theorem y_F.Rf (a : y_F h h1 P R) {i q : Nat} {v : Option Nat} (hp : q < x_sz h → P i q) : y_F h (x_sR h1 i q v) P R := by
  obtain ⟨a1, a2, a3, a4, a5⟩ := a
  refine ⟨a1, a2, a3, fun j b hb z => ?_, a5⟩
  obtain ⟨u1, u2, u3⟩ := a4 j b hb z
  refine ⟨u1, ?_, u3⟩
  rw [x_fr_sR, if_neg (fun y => z (by have hb' := hb; rw [y.2] at hb'; rw [y.1, y.2]; exact hp hb'))]
  exact u2
theorem y_F.A (a : y_F h h1 P R) {j q : Nat} {v : Int32} (hp : q < x_sz h → R q) : y_F h (x_sA h1 q j v) P R := by
  obtain ⟨a1, a2, a3, a4, a5⟩ := a
  refine ⟨a1, a2, a3, a4, fun b hb z => ?_⟩
  obtain ⟨u1, u2⟩ := a5 b hb z
  refine ⟨?_, u2⟩
  funext k
  rw [x_rw_sA, if_neg (fun y => z (by have hb' := hb; rw [y.1] at hb'; rw [y.1]; exact hp hb')), u1]
theorem y_F.J (a : y_F h h1 P R) {j q : Nat} {v : Int64} (hp : q < x_sz h → R q) : y_F h (x_sJ h1 q j v) P R := by
  obtain ⟨a1, a2, a3, a4, a5⟩ := a
  refine ⟨a1, a2, a3, a4, fun b hb z => ?_⟩
  obtain ⟨u1, u2⟩ := a5 b hb z
  refine ⟨u1, ?_⟩
  funext k
  rw [x_rl_sJ, if_neg (fun y => z (by have hb' := hb; rw [y.1] at hb'; rw [y.1]; exact hp hb')), u2]
theorem y_F.O (a : y_F h h1 P R) (k n : Nat) : y_F h (x_nO h1 k n) P R := by
  obtain ⟨a1, a2, a3, a4, a5⟩ := a
  refine ⟨by rw [x_sz_nO]; omega, by rw [x_us_nO]; omega, fun q hq => ?_, fun j b hb z => ?_, a5⟩
  · rw [x_kd_nO, if_neg (by omega)]
    exact a3 q hq
  · rw [x_fi_nO, x_fr_nO, x_fl_nO, if_neg (by omega), if_neg (by omega), if_neg (by omega)]
    exact a4 j b hb z
theorem y_F.X (a : x_F h h1 P1 R1) (p1 : ∀ i q, P1 i q → P i q) (r1 : ∀ q, R1 q → R q) : y_F h h1 P R := by
  obtain ⟨a1, a2, a3, a4, a5, a6, a7, a8, a9⟩ := a
  exact ⟨by omega, by omega, fun q _ => ⟨by rw [a3], by rw [a5]⟩, fun i q _ z => ⟨a7 i q (fun y => z (p1 i q y)), by rw [a4], a8 i q (fun y => z (p1 i q y))⟩, fun q _ z => ⟨a9 q (fun y => z (r1 q y)), by rw [a6]⟩⟩
theorem y_F.mono (a : y_F h h1 P1 R1) (p1 : ∀ i q, P1 i q → P i q) (r1 : ∀ q, R1 q → R q) : y_F h h1 P R := a.tr (y_F.rf (P := P1) (R := R1)) p1 (fun i q _ y => p1 i q y) r1 (fun q _ y => r1 q y)
end YF
/-- a linked row: each points at the next, the last at nothing -/
def y_lk (h : x_H) (fid : Nat) (ts : List Nat) : Prop := ∀ (j t : Nat), ts[j]? = some t → x_fr h fid t = ts[j + 1]?
def y_in (h : x_H) (ts : List Nat) : Prop := ts.Pairwise (· < ·) ∧ ∀ t ∈ ts, t < x_sz h
theorem y_lk_add {h h' : x_H} {fid : Nat} {ts : List Nat} {t : Nat} (hl : y_lk h fid ts) (hp : ts.Pairwise (· < ·)) (h1 : x_fr h' fid t = none) (h2 : ∀ x ∈ ts, ¬ ts.getLast? = some x → x_fr h' fid x = x_fr h fid x) (h3 : ∀ x, ts.getLast? = some x → x_fr h' fid x = some t) : y_lk h' fid (ts ++ [t]) := by
  intro j x hj
  rcases Nat.lt_trichotomy j ts.length with hlt | rfl | hgt
  · rw [List.getElem?_append_left hlt] at hj
    by_cases he : j + 1 < ts.length
    · rw [List.getElem?_append_left he, h2 x (List.mem_of_getElem? hj) (fun z => ?_)]
      · exact hl j x hj
      · rw [List.getLast?_eq_getElem?] at z
        obtain ⟨g1, g2⟩ := List.getElem?_eq_some_iff.mp hj
        obtain ⟨g3, g4⟩ := List.getElem?_eq_some_iff.mp z
        have := List.pairwise_iff_getElem.mp hp j (ts.length - 1) g1 g3 (by omega)
        omega
    · have ej : j = ts.length - 1 := by omega
      rw [List.getElem?_append_right (by omega), show j + 1 - ts.length = 0 by omega]
      refine (h3 x ?_).trans rfl
      rw [List.getLast?_eq_getElem?, ← ej]
      exact hj
  · rw [List.getElem?_append_right (Nat.le_refl _), Nat.sub_self] at hj
    cases hj
    rw [h1]
    simp
  · rw [List.getElem?_eq_none (by simp; omega)] at hj
    cases hj
theorem y_in_add {h h' : x_H} {ts : List Nat} {t : Nat} (hi : y_in h ts) (hs : x_sz h ≤ x_sz h') (h1 : x_sz h ≤ t) (h2 : t < x_sz h') : y_in h' (ts ++ [t]) := by
  refine ⟨List.pairwise_append.mpr ⟨hi.1, List.pairwise_singleton _ _, fun a ha b hb => ?_⟩, fun x hx => ?_⟩
  · cases List.mem_singleton.mp hb
    have := hi.2 a ha
    omega
  · rcases List.mem_append.mp hx with hx | hx
    · have := hi.2 x hx
      omega
    · cases List.mem_singleton.mp hx
      exact h2
theorem y_lk.F {h h1 : x_H} {fid : Nat} {ts : List Nat} {P : Nat → Nat → Prop} {R : Nat → Prop} (hl : y_lk h fid ts) (hi : y_in h ts) (hF : y_F h h1 P R) (hz : ∀ t ∈ ts, ¬ P fid t) : y_lk h1 fid ts := fun j t hj => (hF.fr (hi.2 t (List.mem_of_getElem? hj)) (hz t (List.mem_of_getElem? hj))).trans (hl j t hj)
theorem y_in.F {h h1 : x_H} {ts : List Nat} {P : Nat → Nat → Prop} {R : Nat → Prop} (hi : y_in h ts) (hF : y_F h h1 P R) : y_in h1 ts := ⟨hi.1, fun t ht => Nat.lt_of_lt_of_le (hi.2 t ht) hF.1⟩
/-- a term -/
def y_tm (C : Nat → Int32) (h : x_H) (t a : Nat) : Prop := x_kd h t = 7 ∧ x_fi h 700 t = (if z_mi C a = true then 1 else 0) ∧ x_fi h 701 t = C (a + 1) ∧ x_fi h 702 t = C (a + 3) ∧ x_fi h 703 t = z_cu C a ∧ x_fi h 704 t = z_bq C a
theorem y_tm.F {C : Nat → Int32} {h h1 : x_H} {t a : Nat} {P : Nat → Nat → Prop} {R : Nat → Prop} (k : y_tm C h t a) (ht : t < x_sz h) (hF : y_F h h1 P R) (hz : ∀ i, 700 ≤ i → i ≤ 704 → ¬ P i t) : y_tm C h1 t a := by
  obtain ⟨k1, k2, k3, k4, k5, k6⟩ := k
  exact ⟨(hF.kd ht).trans k1, (hF.fi ht (hz 700 (by omega) (by omega))).trans k2, (hF.fi ht (hz 701 (by omega) (by omega))).trans k3, (hF.fi ht (hz 702 (by omega) (by omega))).trans k4, (hF.fi ht (hz 703 (by omega) (by omega))).trans k5, (hF.fi ht (hz 704 (by omega) (by omega))).trans k6⟩
/-- the terms of an item: objects ts for the places L -/
def y_ts (C : Nat → Int32) (h : x_H) (ts L : List Nat) : Prop := ts.length = L.length ∧ y_in h ts ∧ y_lk h 705 ts ∧ ∀ (j t a : Nat), ts[j]? = some t → L[j]? = some a → y_tm C h t a
theorem y_ts.F {C : Nat → Int32} {h h1 : x_H} {ts L : List Nat} {P : Nat → Nat → Prop} {R : Nat → Prop} (k : y_ts C h ts L) (hF : y_F h h1 P R) (hz : ∀ t ∈ ts, ∀ i, 700 ≤ i → i ≤ 705 → ¬ P i t) : y_ts C h1 ts L := by
  obtain ⟨k1, k2, k3, k4⟩ := k
  refine ⟨k1, k2.F hF, k3.F k2 hF (fun t ht => hz t ht 705 (by omega) (by omega)), fun j t a hj ha => (k4 j t a hj ha).F (k2.2 t (List.mem_of_getElem? hj)) hF (fun i g1 g2 => hz t (List.mem_of_getElem? hj) i g1 (by omega))⟩
/-- an item -/
def y_it (C : Nat → Int32) (h : x_H) (i p : Nat) : Prop := x_kd h i = 4 ∧ x_fi h 400 i = z_ik C p ∧ (C p = -7 → x_fi h 401 i = C (p + 1) ∧ x_fi h 402 i = (if C (p + 2) = -9 then 1 else 0) ∧ x_fi h 403 i = C (p + 3)) ∧ (C p = -10 → x_fi h 401 i = C (p + 1)) ∧ (C p = -11 → x_fi h 402 i = (if C (z_cp C 1501 (p + 1)) = -13 then 1 else 0) ∧ x_fi h 403 i = C (z_cp C 1501 (p + 1) + 1) ∧ ∃ ts, y_ts C h ts (z_tms C 1501 (p + 1)) ∧ x_fr h 405 i = ts.head?)
def y_no (P : Nat → Nat → Prop) (lo hi : Nat) (S : Nat → Prop) : Prop := ∀ i a, lo ≤ i → i ≤ hi → S a → ¬ P i a
theorem y_it.F {C : Nat → Int32} {h h1 : x_H} {i p : Nat} {P : Nat → Nat → Prop} {R : Nat → Prop} (k : y_it C h i p) (hi : i < x_sz h) (hF : y_F h h1 P R) (hz : ∀ f, 400 ≤ f → f ≤ 405 → ¬ f = 404 → ¬ P f i) (hz7 : ∀ f a, 700 ≤ f → f ≤ 705 → ¬ P f a) : y_it C h1 i p := by
  obtain ⟨k1, k2, k3, k4, k5⟩ := k
  have e0 := hF.fi hi (hz 400 (by omega) (by omega) (by omega))
  have e1 := hF.fi hi (hz 401 (by omega) (by omega) (by omega))
  have e2 := hF.fi hi (hz 402 (by omega) (by omega) (by omega))
  have e3 := hF.fi hi (hz 403 (by omega) (by omega) (by omega))
  have e5 := hF.fr hi (hz 405 (by omega) (by omega) (by omega))
  unfold y_it
  rw [hF.kd hi, e0, e1, e2, e3, e5]
  refine ⟨k1, k2, k3, k4, fun z => ?_⟩
  obtain ⟨m1, m2, ts, m3, m4⟩ := k5 z
  exact ⟨m1, m2, ts, m3.F hF (fun t _ f g1 g2 => hz7 f t g1 g2), m4⟩
/-- the items of a rule -/
def y_is (C : Nat → Int32) (h : x_H) (ts L : List Nat) : Prop := ts.length = L.length ∧ y_in h ts ∧ y_lk h 404 ts ∧ ∀ (j t a : Nat), ts[j]? = some t → L[j]? = some a → y_it C h t a
theorem y_is.F {C : Nat → Int32} {h h1 : x_H} {ts L : List Nat} {P : Nat → Nat → Prop} {R : Nat → Prop} (k : y_is C h ts L) (hF : y_F h h1 P R) (hz : ∀ f a, (400 ≤ f ∧ f ≤ 405) ∨ (700 ≤ f ∧ f ≤ 705) → ¬ P f a) : y_is C h1 ts L := by
  obtain ⟨k1, k2, k3, k4⟩ := k
  exact ⟨k1, k2.F hF, k3.F k2 hF (fun t _ => hz 404 t (by omega)), fun j t a hj ha => (k4 j t a hj ha).F (k2.2 t (List.mem_of_getElem? hj)) hF (fun f g1 g2 _ => hz f t (by omega)) (fun f b g1 g2 => hz f b (by omega))⟩
/-- a rule: its place, its edition, its line -/
def y_ru (C : Nat → Int32) (h : x_H) (r : Nat) (q : Nat × Nat) (j : Nat) : Prop := x_kd h r = 6 ∧ x_fi h 600 r = C (q.1 + 1) ∧ x_fi h 601 r = nI q.1 ∧ x_fi h 602 r = nI j ∧ x_fi h 603 r = nI q.2 ∧ x_fi h 604 r = nI (z_its C q).length ∧ ∃ ts, y_is C h ts (z_its C q) ∧ x_fr h 607 r = ts.head?
theorem y_ru.F {C : Nat → Int32} {h h1 : x_H} {r : Nat} {q : Nat × Nat} {j : Nat} {P : Nat → Nat → Prop} {R : Nat → Prop} (k : y_ru C h r q j) (hr : r < x_sz h) (hF : y_F h h1 P R) (hz : ∀ f a, (400 ≤ f ∧ f ≤ 405) ∨ (600 ≤ f ∧ f ≤ 604) ∨ f = 607 ∨ (700 ≤ f ∧ f ≤ 705) → ¬ P f a) : y_ru C h1 r q j := by
  obtain ⟨k1, k2, k3, k4, k5, k6, ts, k7, k8⟩ := k
  unfold y_ru
  rw [hF.kd hr, hF.fi hr (hz 600 r (by omega)), hF.fi hr (hz 601 r (by omega)), hF.fi hr (hz 602 r (by omega)), hF.fi hr (hz 603 r (by omega)), hF.fi hr (hz 604 r (by omega)), hF.fr hr (hz 607 r (by omega))]
  exact ⟨k1, k2, k3, k4, k5, k6, ts, k7.F hF (fun f a g => hz f a (by omega)), k8⟩
def y_rs (C : Nat → Int32) (h : x_H) (rs : List Nat) (R : List (Nat × Nat)) : Prop := rs.length = R.length ∧ y_in h rs ∧ y_lk h 606 rs ∧ ∀ (j r : Nat) (q : Nat × Nat), rs[j]? = some r → R[j]? = some q → y_ru C h r q j
theorem y_rs.F {C : Nat → Int32} {h h1 : x_H} {rs : List Nat} {R : List (Nat × Nat)} {P : Nat → Nat → Prop} {S : Nat → Prop} (k : y_rs C h rs R) (hF : y_F h h1 P S) (hz : ∀ f a, (400 ≤ f ∧ f ≤ 405) ∨ (600 ≤ f ∧ f ≤ 604) ∨ f = 606 ∨ f = 607 ∨ (700 ≤ f ∧ f ≤ 705) → ¬ P f a) : y_rs C h1 rs R := by
  obtain ⟨k1, k2, k3, k4⟩ := k
  exact ⟨k1, k2.F hF, k3.F k2 hF (fun t _ => hz 606 t (by omega)), fun j r q hj hq => (k4 j r q hj hq).F (k2.2 r (List.mem_of_getElem? hj)) hF (fun f a g => hz f a (by omega))⟩
/-- the editions -/
def y_es (h : x_H) (es : List Nat) (E : List Int32) : Prop := es.length = E.length ∧ y_in h es ∧ y_lk h 201 es ∧ ∀ (j e : Nat) (d : Int32), es[j]? = some e → E[j]? = some d → x_kd h e = 2 ∧ x_fi h 200 e = d
theorem y_es.F {h h1 : x_H} {es : List Nat} {E : List Int32} {P : Nat → Nat → Prop} {S : Nat → Prop} (k : y_es h es E) (hF : y_F h h1 P S) (hz : ∀ f a, f = 200 ∨ f = 201 → ¬ P f a) : y_es h1 es E := by
  obtain ⟨k1, k2, k3, k4⟩ := k
  refine ⟨k1, k2.F hF, k3.F k2 hF (fun t _ => hz 201 t (by omega)), fun j e d hj hd => ?_⟩
  obtain ⟨m1, m2⟩ := k4 j e d hj hd
  have he := k2.2 e (List.mem_of_getElem? hj)
  exact ⟨(hF.kd he).trans m1, (hF.fi he (hz 200 e (by omega))).trans m2⟩
/-- the book -/
def y_bk (C : Nat → Int32) (h : x_H) (b : Nat) (rs : List Nat) (R : List (Nat × Nat)) (es : List Nat) (E : List Int32) : Prop := (b < x_sz h ∧ x_kd h b = 1) ∧ x_fr h 100 b = rs.head? ∧ x_fr h 101 b = rs.getLast? ∧ x_fi h 102 b = nI R.length ∧ x_fr h 103 b = es.head? ∧ x_fr h 104 b = es.getLast? ∧ x_fi h 105 b = nI E.length ∧ y_rs C h rs R ∧ y_es h es E
theorem y_bk.F {C : Nat → Int32} {h h1 : x_H} {b : Nat} {rs : List Nat} {R : List (Nat × Nat)} {es : List Nat} {E : List Int32} {P : Nat → Nat → Prop} {S : Nat → Prop} (k : y_bk C h b rs R es E) (hF : y_F h h1 P S) (hz : ∀ f a, (100 ≤ f ∧ f ≤ 105) ∨ f = 200 ∨ f = 201 ∨ (400 ≤ f ∧ f ≤ 405) ∨ (600 ≤ f ∧ f ≤ 604) ∨ f = 606 ∨ f = 607 ∨ (700 ≤ f ∧ f ≤ 705) → ¬ P f a) : y_bk C h1 b rs R es E := by
  obtain ⟨⟨k0, k1⟩, k2, k3, k4, k5, k6, k7, k8, k9⟩ := k
  unfold y_bk
  rw [hF.kd k0, hF.fr k0 (hz 100 b (by omega)), hF.fr k0 (hz 101 b (by omega)), hF.fi k0 (hz 102 b (by omega)), hF.fr k0 (hz 103 b (by omega)), hF.fr k0 (hz 104 b (by omega)), hF.fi k0 (hz 105 b (by omega))]
  exact ⟨⟨Nat.lt_of_lt_of_le k0 hF.1, k1⟩, k2, k3, k4, k5, k6, k7, k8.F hF (fun f a g => hz f a (by omega)), k9.F hF (fun f a g => hz f a (by omega))⟩
theorem c_T.F {h h1 : x_H} {w n a b : Nat} {C : Nat → Int32} {P : Nat → Nat → Prop} {S : Nat → Prop} (k : c_T h w n a C) (hw : w + 1 < x_sz h) (hF : y_F h h1 P S) (h0 : ¬ P 800 w) (h8 : ¬ P 801 w) (hs : ¬ S (w + 1)) (hb : x_fi h1 802 w = nI b) (hbn : b ≤ n) : c_T h1 w n b C := by
  obtain ⟨⟨k1, k2, k3, k4⟩, k5, k6, k7, k8, k9, k10⟩ := k
  exact ⟨⟨(hF.kd (by omega)).trans k1, (hF.fr (by omega) h0).trans k2, (hF.kd hw).trans k3, (hF.ln hw).trans k4⟩, (hF.fi (by omega) h8).trans k5, hb, k7, hbn, fun j hj => by rw [hF.rw hw hs]; exact k9 j hj, k10⟩
