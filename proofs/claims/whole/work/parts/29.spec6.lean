/-! FACTS, TERMS, SUMS -/
/-- facts: which parts have spans, low and high, tests' results, strict -/
abbrev z_X : Type := (Nat → Bool) × (Nat → Int64) × (Nat → Int64) × (Nat → Int32) × Bool
/-- the term at place a: minus, part, where cut and by may stand, what stands behind them, where the term stops -/
def z_mi (C : Nat → Int32) (a : Nat) : Bool := C a == -15
def z_pt (C : Nat → Int32) (a : Nat) : Nat := (C (a + 3)).toNatClampNeg
def z_a5 (C : Nat → Int32) (a : Nat) : Nat := if C (a + 4) = -17 then a + 6 else a + 4
def z_cu (C : Nat → Int32) (a : Nat) : Int32 := if C (a + 4) = -17 then C (a + 5) else 0
def z_bq (C : Nat → Int32) (a : Nat) : Int32 := if C (z_a5 C a) = -18 then C (z_a5 C a + 1) else 1
def z_te (C : Nat → Int32) (a : Nat) : Nat := if C (z_a5 C a) = -18 then z_a5 C a + 2 else z_a5 C a
/-- what a term that fits is -/
def z_tk (C : Nat → Int32) (a : Nat) : Prop := (C a = -14 ∨ C a = -15) ∧ q_n C 0 1000 (a + 1) ∧ q_n C 0 15 (a + 3) ∧ (C (a + 4) = -17 → q_n C 0 999999999 (a + 5)) ∧ (C (z_a5 C a) = -18 → q_n C 0 999 (z_a5 C a + 1))
theorem z_tk_of {C : Nat → Int32} {a b : Nat} (h : q_term C a = (true, b)) : z_tk C a ∧ b = z_te C a := by
  have h1 : (C a = -14 ∨ C a = -15) ∧ q_tm C a = (true, b) := by
    unfold q_term at h
    split at h
    · rename_i h1; exact ⟨Or.inl h1, h⟩
    · split at h
      · rename_i h1; exact ⟨Or.inr h1, h⟩
      · cases h
  obtain ⟨h1, h⟩ := h1
  unfold q_tm at h
  split at h
  · rename_i h2
    split at h
    · split at h
      · rename_i h4
        have key : ∀ c, q_by C c = (true, b) → (C c = -18 → q_n C 0 999 (c + 1)) ∧ b = if C c = -18 then c + 2 else c := by
          intro c hc
          unfold q_by at hc
          split at hc
          · rename_i h5
            split at hc
            · rename_i h6
              cases hc
              exact ⟨fun _ => h6, by rw [if_pos h5]⟩
            · cases hc
          · rename_i h5
            cases hc
            exact ⟨fun z => absurd z h5, by rw [if_neg h5]⟩
        unfold q_cut at h
        unfold z_tk z_te z_a5
        split at h
        · rename_i h5
          split at h
          · rename_i h6
            rw [if_pos h5]
            have := key _ h
            exact ⟨⟨h1, h2, h4, fun _ => h6, this.1⟩, this.2⟩
          · cases h
        · rename_i h5
          rw [if_neg h5]
          have := key _ h
          exact ⟨⟨h1, h2, h4, fun z => absurd z h5, this.1⟩, this.2⟩
      · cases h
    · cases h
  · cases h
/-- what it lacks: its part's span, or a divisor; -1 nothing -/
def z_lk (X : z_X) (C : Nat → Int32) (a : Nat) : Int32 := if X.1 (z_pt C a) = false then C (a + 3) else if z_bq C a = 0 then 200 + C (a + 3) else -1
def z_vl (X : z_X) (C : Nat → Int32) (high : Bool) (a : Nat) : Int64 := if high = z_mi C a then X.2.1 (z_pt C a) else X.2.2.1 (z_pt C a)
def z_ct (X : z_X) (C : Nat → Int32) (high : Bool) (a : Nat) : Int64 := if z_vl X C high a < (z_cu C a).toInt64 then 0 else z_vl X C high a
def z_md (X : z_X) (C : Nat → Int32) (high : Bool) (a : Nat) : Int64 := z_ct X C high a * (C (a + 1)).toInt64 / (z_bq C a).toInt64
/-- its share, of a part (part = -1: of all) -/
def z_sh (X : z_X) (C : Nat → Int32) (high : Bool) (part : Int32) (a : Nat) : Int64 := if ¬ part = -1 ∧ ¬ part = C (a + 3) then 0 else if z_mi C a = true then -(z_md X C high a) else z_md X C high a
/-- terms from place a on: their places; where they stop -/
def z_tms (C : Nat → Int32) : Nat → Nat → List Nat
  | 0, _ => []
  | f + 1, a => if C a = -14 ∨ C a = -15 then a :: z_tms C f (z_te C a) else []
def z_cp (C : Nat → Int32) : Nat → Nat → Nat
  | 0, a => a
  | f + 1, a => if C a = -14 ∨ C a = -15 then z_cp C f (z_te C a) else a
def z_lks (X : z_X) (C : Nat → Int32) : List Nat → Int32 → Int32
  | [], v => v
  | a :: r, v => z_lks X C r (if v = -1 then z_lk X C a else v)
def z_tot (X : z_X) (C : Nat → Int32) (high : Bool) (part : Int32) : List Nat → Int64 → Int64
  | [], t => t
  | a :: r, t => z_tot X C high part r (if z_lk X C a = -1 then t + z_sh X C high part a else t)
