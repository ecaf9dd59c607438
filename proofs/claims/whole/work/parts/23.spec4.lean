/-! FRAMES: what a method leaves alone; words of a text -/
def x_F (h h' : x_H) (P : Nat → Nat → Prop) (R : Nat → Prop) : Prop := x_sz h' = x_sz h ∧ x_us h' = x_us h ∧ x_kd h' = x_kd h ∧ x_fr h' = x_fr h ∧ x_ln h' = x_ln h ∧ x_rl h' = x_rl h ∧ (∀ i a, ¬ P i a → x_fi h' i a = x_fi h i a) ∧ (∀ i a, ¬ P i a → x_fl h' i a = x_fl h i a) ∧ ∀ a, ¬ R a → x_rw h' a = x_rw h a
theorem x_F.rf {h : x_H} {P : Nat → Nat → Prop} {R : Nat → Prop} : x_F h h P R := ⟨rfl, rfl, rfl, rfl, rfl, rfl, fun _ _ _ => rfl, fun _ _ _ => rfl, fun _ _ => rfl⟩
theorem x_F.tr {h h1 h2 : x_H} {P P1 P2 : Nat → Nat → Prop} {R R1 R2 : Nat → Prop} (a : x_F h h1 P1 R1) (b : x_F h1 h2 P2 R2) (p1 : ∀ i a, P1 i a → P i a) (p2 : ∀ i a, P2 i a → P i a) (r1 : ∀ a, R1 a → R a) (r2 : ∀ a, R2 a → R a) : x_F h h2 P R := by
  obtain ⟨a1, a2, a3, a4, a5, a6, a7, a8, a9⟩ := a
  obtain ⟨b1, b2, b3, b4, b5, b6, b7, b8, b9⟩ := b
  exact ⟨b1.trans a1, b2.trans a2, b3.trans a3, b4.trans a4, b5.trans a5, b6.trans a6, fun i q z => (b7 i q fun y => z (p2 _ _ y)).trans (a7 i q fun y => z (p1 _ _ y)), fun i q z => (b8 i q fun y => z (p2 _ _ y)).trans (a8 i q fun y => z (p1 _ _ y)), fun q z => (b9 q fun y => z (r2 _ y)).trans (a9 q fun y => z (r1 _ y))⟩
theorem x_F.mono {h h1 : x_H} {P P1 : Nat → Nat → Prop} {R R1 : Nat → Prop} (a : x_F h h1 P1 R1) (p1 : ∀ i a, P1 i a → P i a) (r1 : ∀ a, R1 a → R a) : x_F h h1 P R := a.tr (x_F.rf (P := P1) (R := R1)) p1 p1 r1 r1
theorem x_F.I {h h1 : x_H} {P : Nat → Nat → Prop} {R : Nat → Prop} (a : x_F h h1 P R) {i q : Nat} {v : Int32} (hp : P i q) : x_F h (x_sI h1 i q v) P R := by
  obtain ⟨a1, a2, a3, a4, a5, a6, a7, a8, a9⟩ := a
  refine ⟨a1, a2, a3, a4, a5, a6, fun j b z => ?_, a8, a9⟩
  rw [x_fi_sI, if_neg]
  · exact a7 j b z
  · rintro ⟨rfl, rfl⟩
    exact z hp
theorem x_F.L {h h1 : x_H} {P : Nat → Nat → Prop} {R : Nat → Prop} (a : x_F h h1 P R) {i q : Nat} {v : Int64} (hp : P i q) : x_F h (x_sL h1 i q v) P R := by
  obtain ⟨a1, a2, a3, a4, a5, a6, a7, a8, a9⟩ := a
  refine ⟨a1, a2, a3, a4, a5, a6, a7, fun j b z => ?_, a9⟩
  rw [x_fl_sL, if_neg]
  · exact a8 j b z
  · rintro ⟨rfl, rfl⟩
    exact z hp
theorem x_F.A {h h1 : x_H} {P : Nat → Nat → Prop} {R : Nat → Prop} (a : x_F h h1 P R) {q j : Nat} {v : Int32} (hr : R q) : x_F h (x_sA h1 q j v) P R := by
  obtain ⟨a1, a2, a3, a4, a5, a6, a7, a8, a9⟩ := a
  refine ⟨a1, a2, a3, a4, a5, a6, a7, a8, fun b z => ?_⟩
  rw [← a9 b z]
  funext k
  rw [x_rw_sA, if_neg]
  rintro ⟨rfl, rfl⟩
  exact z hr
theorem x_F.le {h h1 : x_H} {P : Nat → Nat → Prop} {R : Nat → Prop} (a : x_F h h1 P R) : x_sz h ≤ x_sz h1 ∧ x_us h ≤ x_us h1 := ⟨Nat.le_of_eq a.1.symm, Nat.le_of_eq a.2.1.symm⟩
theorem x_F.fi {h h1 : x_H} {P : Nat → Nat → Prop} {R : Nat → Prop} (a : x_F h h1 P R) {i q : Nat} (z : ¬ P i q) : x_fi h1 i q = x_fi h i q := a.2.2.2.2.2.2.1 i q z
theorem x_F.rw {h h1 : x_H} {P : Nat → Nat → Prop} {R : Nat → Prop} (a : x_F h h1 P R) {q : Nat} (z : ¬ R q) : x_rw h1 q = x_rw h q := a.2.2.2.2.2.2.2.2 q z
theorem x_F.pm {h h1 : x_H} {P : Nat → Nat → Prop} {R : Nat → Prop} (a : x_F h h1 P R) {m : Nat} (hp : mP h m) : mP h1 m := by
  obtain ⟨a1, a2, a3, a4, a5, -⟩ := a
  unfold mP at hp ⊢
  rw [a3, a4, a5]
  exact hp
/-- the first gap from i on, or n -/
def z_stop (T : Nat → Int32) (n : Nat) : Nat → Nat → Nat
  | 0, i => i
  | f + 1, i => if n ≤ i then i else if z_gap (T i) = true then i else z_stop T n f (i + 1)
/-- words from place k on -/
def z_wd (T : Nat → Int32) (n : Nat) : Nat → Nat → List (Nat × Nat)
  | 0, _ => []
  | f + 1, k => if n ≤ k then [] else if k < z_stop T n (n - k) k then (k, z_stop T n (n - k) k) :: z_wd T n f (z_stop T n (n - k) k + 1) else z_wd T n f (z_stop T n (n - k) k + 1)
theorem z_stop_bd (T : Nat → Int32) (n : Nat) : ∀ (f i : Nat), i ≤ n → i ≤ z_stop T n f i ∧ z_stop T n f i ≤ n
  | 0, i, h => ⟨Nat.le_refl _, h⟩
  | f + 1, i, h => by
    unfold z_stop
    split
    · exact ⟨Nat.le_refl _, h⟩
    · split
      · exact ⟨Nat.le_refl _, h⟩
      · have := z_stop_bd T n f (i + 1) (by omega)
        omega
/-- the words of a text -/
def z_words (T : Nat → Int32) (n : Nat) : List (Nat × Nat) := z_wd T n (n + 1) 0
theorem z_wd_f (T : Nat → Int32) (n : Nat) : ∀ (f g k : Nat), n - k < f → n - k < g → z_wd T n f k = z_wd T n g k
  | 0, _, _, h, _ => by omega
  | _ + 1, 0, _, _, h => by omega
  | f + 1, g + 1, k, h1, h2 => by
    unfold z_wd
    split
    · rfl
    · have := z_stop_bd T n (n - k) k (by omega)
      rw [z_wd_f T n f g _ (by omega) (by omega)]
