/-! CODES: a word as one number -/
def z_kws : List (List Int32 × Int32) := [([102, 114, 111, 109], -2), ([99, 108, 97, 115, 115], -3), ([119, 104, 101, 110], -4), ([97, 110, 100], -5), ([101, 110, 100], -6), ([116, 101, 115, 116], -7), ([105, 115], -8), ([110, 111, 116], -9), ([104, 111, 108, 100, 115], -10), ([115, 117, 109], -11), ([111, 118, 101, 114], -12), ([117, 110, 100, 101, 114], -13), ([112, 108, 117, 115], -14), ([109, 105, 110, 117, 115], -15), ([111, 102], -16), ([99, 117, 116], -17), ([98, 121], -18)]
def z_kw (w : List Int32) : Int32 := ((z_kws.find? (fun q => q.1 == w)).map (fun q => q.2)).getD (-1)
def z_code (w : List Int32) : Int32 := match z_num w with
  | some V => nI V
  | none => z_kw w
theorem z_num_lt {w : List Int32} {V : Nat} (h : z_num w = some V) : V < 1000000000 := by
  unfold z_num at h
  split at h
  · rename_i hl
    have h1 := z_zn_lt w 0 0 (by decide) V h
    have h2 : (10 : Nat) ^ (0 + w.length) ≤ 10 ^ 9 := Nat.pow_le_pow_right (by omega) (by omega)
    have h3 : (10 : Nat) ^ 9 = 1000000000 := by decide
    omega
  · cases h
theorem z_kw_neg (w : List Int32) : z_kw w < 0 := by
  unfold z_kw
  cases hf : z_kws.find? (fun q => q.1 == w) with
  | none => decide
  | some q =>
    have h1 := List.mem_of_find?_eq_some hf
    have h2 : ∀ q ∈ z_kws, q.2 < 0 := by decide
    exact h2 q h1
theorem z_code_lt (w : List Int32) : z_code w < 1000000000 := by
  unfold z_code
  cases hn : z_num w with
  | none => exact Int32.lt_trans (z_kw_neg w) (by decide)
  | some V =>
    exact nI_lt (b := 1000000000) (z_num_lt hn) (by decide)
/-- a word is a keyword just when its code is that keyword's -/
theorem z_code_kw {w : List Int32} {q : List Int32 × Int32} (hq : q ∈ z_kws) : z_code w = q.2 ↔ w = q.1 := by
  constructor
  · intro h
    unfold z_code at h
    cases hn : z_num w with
    | some V =>
      rw [hn] at h
      have h2 : ∀ q ∈ z_kws, q.2 < 0 := by decide
      have h3 := h2 q hq
      rw [← h] at h3
      exact absurd h3 (nI_pos (by have := z_num_lt hn; omega))
    | none =>
      rw [hn] at h
      have h9 : z_kw w = q.2 := h
      unfold z_kw at h9
      cases hf : z_kws.find? (fun q => q.1 == w) with
      | none =>
        rw [hf] at h9
        have h2 : ∀ q ∈ z_kws, q.2 ≠ -1 := by decide
        exact absurd h9.symm (h2 q hq)
      | some q' =>
        rw [hf] at h9
        have h1 := List.mem_of_find?_eq_some hf
        have h4 : q'.1 = w := by simpa using List.find?_some hf
        have h5 : ∀ a ∈ z_kws, ∀ b ∈ z_kws, a.2 = b.2 → a.1 = b.1 := by decide
        rw [← h4]
        exact h5 q' h1 q hq h9
  · rintro rfl
    have h2 : ∀ q ∈ z_kws, z_code q.1 = q.2 := by decide +kernel
    exact h2 q hq
theorem z_code_num (w : List Int32) : z_ni (z_num w) = if 0 ≤ z_code w then z_code w else -1 := by
  unfold z_code
  cases hn : z_num w with
  | none =>
    rw [if_neg (Int32.not_le.mpr (z_kw_neg w))]
    rfl
  | some V =>
    rw [if_pos (nI_pos' (by have := z_num_lt hn; omega))]
    rfl
/-! the reference's digests tell keywords -/
def z_zN : List Int32 → Nat → Nat
  | [], v => v
  | b :: r, v => z_zN r (256 * v + (b &&& 255).toNatClampNeg)
theorem z_b255 (b : Int32) : ∃ j : Nat, j < 256 ∧ b &&& 255 = nI j := pk_andE b 8 (by decide)
theorem z_dgl_N : ∀ (w : List Int32) (v : Nat), z_dgl w (lN v) = lN (z_zN w v)
  | [], _ => rfl
  | b :: r, v => by
    obtain ⟨j, hj, e⟩ := z_b255 b
    show z_dgl r (256 * lN v + (b &&& 255).toInt64) = lN (z_zN r (256 * v + (b &&& 255).toNatClampNeg))
    rw [e, nI_l (by omega), nI_clamp (by omega), show (256 : Int64) = lN 256 from rfl, lN_mul, lN_add]
    exact z_dgl_N r _
theorem z_zN_bd : ∀ (w : List Int32) (v : Nat), v * 256 ^ w.length ≤ z_zN w v ∧ z_zN w v < (v + 1) * 256 ^ w.length
  | [], v => by simp [z_zN]
  | b :: r, v => by
    obtain ⟨j, hj, e⟩ := z_b255 b
    have h1 := z_zN_bd r (256 * v + (b &&& 255).toNatClampNeg)
    show v * 256 ^ (r.length + 1) ≤ z_zN r (256 * v + (b &&& 255).toNatClampNeg) ∧ z_zN r (256 * v + (b &&& 255).toNatClampNeg) < (v + 1) * 256 ^ (r.length + 1)
    rw [e, nI_clamp (by omega)] at h1 ⊢
    have h2 : v * 256 ^ (r.length + 1) = 256 * v * 256 ^ r.length := by rw [Nat.pow_succ]; rw [Nat.mul_comm (256 ^ r.length) 256, ← Nat.mul_assoc, Nat.mul_comm v 256]
    have h3 : (v + 1) * 256 ^ (r.length + 1) = (256 * v + 256) * 256 ^ r.length := by rw [Nat.pow_succ, Nat.mul_comm (256 ^ r.length) 256, ← Nat.mul_assoc, Nat.mul_comm (v + 1) 256, Nat.mul_add]
    rw [h2, h3]
    constructor
    · exact Nat.le_trans (Nat.mul_le_mul_right _ (by omega)) h1.1
    · exact Nat.lt_of_lt_of_le h1.2 (Nat.mul_le_mul_right _ (by omega))
theorem z_zN_inj : ∀ (w l : List Int32) (v u : Nat), w.length = l.length → z_zN w v = z_zN l u → v = u ∧ w.map (fun b => b &&& 255) = l.map (fun b => b &&& 255)
  | [], [], v, u, _, h => ⟨h, rfl⟩
  | [], c :: l, _, _, hl, _ => by simp at hl
  | b :: w, [], _, _, hl, _ => by simp at hl
  | b :: w, c :: l, v, u, hl, h => by
    obtain ⟨j, hj, e⟩ := z_b255 b
    obtain ⟨i, hi, f⟩ := z_b255 c
    have h1 := z_zN_inj w l (256 * v + (b &&& 255).toNatClampNeg) (256 * u + (c &&& 255).toNatClampNeg) (by simpa using hl) h
    rw [e, f, nI_clamp (by omega), nI_clamp (by omega)] at h1
    have hji : j = i := by omega
    refine ⟨by omega, ?_⟩
    rw [List.map_cons, List.map_cons, h1.2, e, f, hji]
/-- bytes: they are what a byte holds -/
def z_b8 (w : List Int32) : Prop := ∀ b ∈ w, b.toInt8.toInt32 = b
theorem z_255_inj : ∀ {w l : List Int32}, z_b8 w → (∀ c ∈ l, ∃ n : Nat, n < 128 ∧ c = nI n) → w.map (fun b => b &&& 255) = l.map (fun b => b &&& 255) → w = l
  | [], [], _, _, _ => rfl
  | [], c :: l, _, _, h => by simp at h
  | b :: w, [], _, _, h => by simp at h
  | b :: w, c :: l, hw, hl, h => by
    rw [List.map_cons, List.map_cons] at h
    have h1 := (List.cons.inj h).1
    have h2 := (List.cons.inj h).2
    obtain ⟨n, hn, rfl⟩ := hl c List.mem_cons_self
    have h3 : nI n &&& 255 = nI n := by
      rw [pk_andN (by omega) 8 (by decide), Nat.mod_eq_of_lt (by omega)]
    have h4 : (nI n).toInt8.toInt32 = nI n := by
      have : ∀ n, n < 128 → (nI n).toInt8.toInt32 = nI n := by decide +kernel
      exact this n hn
    rw [h3] at h1
    have h5 := (sc_eq (hw b List.mem_cons_self) (n := n) (by omega)).mpr h1
    rw [h4] at h5
    rw [h5, z_255_inj (fun b hb => hw b (List.mem_cons_of_mem _ hb)) (fun c hc => hl c (List.mem_cons_of_mem _ hc)) h2]
theorem z_kws_ok : ∀ q ∈ z_kws, q.1.length < 8 ∧ ∀ c ∈ q.1, ∃ n : Nat, n < 128 ∧ c = nI n := by
  have h : ∀ q ∈ z_kws, q.1.length < 8 ∧ ∀ c ∈ q.1, c.toNatClampNeg < 128 ∧ c = nI c.toNatClampNeg := by decide +kernel
  intro q hq
  exact ⟨(h q hq).1, fun c hc => ⟨_, ((h q hq).2 c hc).1, ((h q hq).2 c hc).2⟩⟩
theorem z_dg_kw {w : List Int32} (hw : z_b8 w) {q : List Int32 × Int32} (hq : q ∈ z_kws) : z_dg w = z_dg q.1 ↔ w = q.1 := by
  obtain ⟨h1, h2⟩ := z_kws_ok q hq
  refine ⟨fun h => ?_, fun h => by rw [h]⟩
  unfold z_dg at h
  rw [if_pos h1] at h
  have hp : (256 : Nat) ^ 7 = 72057594037927936 := by decide
  have b2 := z_zN_bd q.1 1
  have p2 : (256 : Nat) ^ q.1.length ≤ 256 ^ 7 := Nat.pow_le_pow_right (by omega) (by omega)
  by_cases hl : w.length < 8
  · rw [if_pos hl, show (1 : Int64) = lN 1 from rfl, z_dgl_N, z_dgl_N] at h
    have b1 := z_zN_bd w 1
    have p1 : (256 : Nat) ^ w.length ≤ 256 ^ 7 := Nat.pow_le_pow_right (by omega) (by omega)
    have h3 := (pk_lEQ (by omega) (by omega)).mp h
    have h4 : w.length = q.1.length := by
      rcases Nat.lt_trichotomy w.length q.1.length with z | z | z
      · have : (256 : Nat) ^ (w.length + 1) ≤ 256 ^ q.1.length := Nat.pow_le_pow_right (by omega) (by omega)
        rw [Nat.pow_succ] at this
        omega
      · exact z
      · have : (256 : Nat) ^ (q.1.length + 1) ≤ 256 ^ w.length := Nat.pow_le_pow_right (by omega) (by omega)
        rw [Nat.pow_succ] at this
        omega
    exact z_255_inj hw h2 (z_zN_inj w q.1 1 1 h4 h3).2
  · rw [if_neg hl, show (1 : Int64) = lN 1 from rfl, z_dgl_N] at h
    have p3 : 1 ≤ q.1.length := by
      have : ∀ q ∈ z_kws, 1 ≤ q.1.length := by decide
      exact this q hq
    have p4 : (256 : Nat) ^ 1 ≤ 256 ^ q.1.length := Nat.pow_le_pow_right (by omega) p3
    have h3 := (pk_lEQ (by omega) (by omega)).mp h
    omega
/-- a digest's test is a code's -/
theorem z_dg_code {w : List Int32} (hw : z_b8 w) {q : List Int32 × Int32} (hq : q ∈ z_kws) {K : Int64} (hK : z_dg q.1 = K) : z_dg w = K ↔ z_code w = q.2 := by
  rw [← hK, z_dg_kw hw hq, z_code_kw hq]
/-- the keywords' digests and codes -/
def z_K (K : Int64) (c : Int32) : Prop := ∃ q ∈ z_kws, z_dg q.1 = K ∧ q.2 = c
theorem z_K_code {w : List Int32} (hw : z_b8 w) {K : Int64} {c : Int32} (h : z_K K c) : z_dg w = K ↔ z_code w = c := by
  obtain ⟨q, h1, h2, rfl⟩ := h
  exact z_dg_code hw h1 h2
theorem z_K_from : z_K 6013742957 (-2) := ⟨([102, 114, 111, 109], -2), by decide, by decide +kernel, rfl⟩
theorem z_K_class : z_K 1526531715955 (-3) := ⟨([99, 108, 97, 115, 115], -3), by decide, by decide +kernel, rfl⟩
theorem z_K_when : z_K 6298297710 (-4) := ⟨([119, 104, 101, 110], -4), by decide, by decide +kernel, rfl⟩
theorem z_K_and : z_K 23162468 (-5) := ⟨([97, 110, 100], -5), by decide, by decide +kernel, rfl⟩
theorem z_K_end : z_K 23424612 (-6) := ⟨([101, 110, 100], -6), by decide, by decide +kernel, rfl⟩
theorem z_K_test : z_K 6247773044 (-7) := ⟨([116, 101, 115, 116], -7), by decide, by decide +kernel, rfl⟩
theorem z_K_is : z_K 92531 (-8) := ⟨([105, 115], -8), by decide, by decide +kernel, rfl⟩
theorem z_K_not : z_K 24014708 (-9) := ⟨([110, 111, 116], -9), by decide, by decide +kernel, rfl⟩
theorem z_K_holds : z_K 1548057601139 (-10) := ⟨([104, 111, 108, 100, 115], -10), by decide, by decide +kernel, rfl⟩
theorem z_K_sum : z_K 24343917 (-11) := ⟨([115, 117, 109], -11), by decide, by decide +kernel, rfl⟩
theorem z_K_over : z_K 6164997490 (-12) := ⟨([111, 118, 101, 114], -12), by decide, by decide +kernel, rfl⟩
theorem z_K_under : z_K 1603874874738 (-13) := ⟨([117, 110, 100, 101, 114], -13), by decide, by decide +kernel, rfl⟩
theorem z_K_plus : z_K 6181123443 (-14) := ⟨([112, 108, 117, 115], -14), by decide, by decide +kernel, rfl⟩
theorem z_K_minus : z_K 1569431909747 (-15) := ⟨([109, 105, 110, 117, 115], -15), by decide, by decide +kernel, rfl⟩
theorem z_K_of : z_K 94054 (-16) := ⟨([111, 102], -16), by decide, by decide +kernel, rfl⟩
theorem z_K_cut : z_K 23295348 (-17) := ⟨([99, 117, 116], -17), by decide, by decide +kernel, rfl⟩
theorem z_K_by : z_K 90745 (-18) := ⟨([98, 121], -18), by decide, by decide +kernel, rfl⟩
