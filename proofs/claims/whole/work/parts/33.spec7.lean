/-! VERDICTS: -2 so, -3 not so, -4 passed over, -5 not looked at; 0 and more: open, and what is lacking -/
def z_any (C : Nat → Int32) (L : List Nat) : Bool := L.any (fun p => C p == -7)
def z_akn (X : z_X) (C : Nat → Int32) (L : List Nat) : Bool := L.all (fun p => !(C p == -7) || !(X.2.2.2.1 (C (p + 1)).toNatClampNeg == -1))
/-- a rule's items: their places -/
def z_its (C : Nat → Int32) (q : Nat × Nat) : List Nat := q_its C 1501 1501 (q.1 + 3)
/-- tests win: the rule is passed over -/
def z_pp (X : z_X) (C : Nat → Int32) (q s : Nat × Nat) : Bool := s.2 == q.2 && (C (s.1 + 1) == C (q.1 + 1)) && (z_any C (z_its C s) && z_akn X C (z_its C s))
def z_ps (X : z_X) (C : Nat → Int32) (R : List (Nat × Nat)) (q : Nat × Nat) : Bool := !(z_any C (z_its C q)) && R.any (z_pp X C q)
def z_vt (X : z_X) (C : Nat → Int32) (p : Nat) : Int32 := if X.2.2.2.1 (C (p + 1)).toNatClampNeg = -1 then 100 + C (p + 1) else if (X.2.2.2.1 (C (p + 1)).toNatClampNeg == C (p + 3)) = (C (p + 2) == -8) then -2 else -3
def z_h1 (C : Nat → Int32) (R : List (Nat × Nat)) (V : Nat → Int32) (e : Nat) (c : Int32) (r : Nat) : Bool := match R[r]? with
  | some s => s.2 == e && C (s.1 + 1) == c && V r == -2
  | none => false
def z_h2 (C : Nat → Int32) (R : List (Nat × Nat)) (V : Nat → Int32) (e : Nat) (c : Int32) (r : Nat) : Bool := match R[r]? with
  | some s => s.2 == e && C (s.1 + 1) == c && decide (0 ≤ V r)
  | none => false
def z_vh (C : Nat → Int32) (R : List (Nat × Nat)) (V : Nat → Int32) (k e p : Nat) : Int32 := if (List.range k).any (z_h1 C R V e (C (p + 1))) = true then -2 else if (List.range k).any (z_h2 C R V e (C (p + 1))) = true then 300 + C (p + 1) else -3
def z_vs (X : z_X) (C : Nat → Int32) (p : Nat) : Int32 := if z_lks X C (z_tms C 1501 (p + 1)) (-1) = -1 then (if C (z_cp C 1501 (p + 1)) = -12 then (if (C (z_cp C 1501 (p + 1) + 1)).toInt64 < z_tot X C (X.2.2.2.2) (-1) (z_tms C 1501 (p + 1)) 0 then -2 else -3) else (if z_tot X C (!X.2.2.2.2) (-1) (z_tms C 1501 (p + 1)) 0 < (C (z_cp C 1501 (p + 1) + 1)).toInt64 then -2 else -3)) else z_lks X C (z_tms C 1501 (p + 1)) (-1)
def z_vi (X : z_X) (C : Nat → Int32) (R : List (Nat × Nat)) (V : Nat → Int32) (k e p : Nat) : Int32 := if C p = -7 then z_vt X C p else if C p = -10 then z_vh C R V k e p else z_vs X C p
def z_acc (u v : Int32) : Int32 := if u = -3 then -3 else if v = -3 then -3 else if u = -2 then v else u
def z_rv (X : z_X) (C : Nat → Int32) (R : List (Nat × Nat)) (V : Nat → Int32) (k e : Nat) : List Nat → Int32 → Int32
  | [], u => u
  | p :: L, u => z_rv X C R V k e L (z_acc u (z_vi X C R V k e p))
/-- rule k's verdict, when those before have V -/
def z_jd (X : z_X) (C : Nat → Int32) (R : List (Nat × Nat)) (V : Nat → Int32) (k : Nat) (q : Nat × Nat) : Int32 := if z_ps X C R q = true then -4 else z_rv X C R V k q.2 (z_its C q) (-2)
/-- the verdicts when the rules before k have been looked at -/
def z_V (X : z_X) (C : Nat → Int32) (R : List (Nat × Nat)) (act : Int32) : Nat → Nat → Int32
  | 0 => fun _ => -5
  | k + 1 => match R[k]? with
    | some q => if nI q.2 = act then upd (z_V X C R act k) k (z_jd X C R (z_V X C R act k) k q) else z_V X C R act k
    | none => z_V X C R act k
/-- the classes that hold, in the order in which they came to, by the rules before k -/
def z_O (C : Nat → Int32) (R : List (Nat × Nat)) (V : Nat → Int32) : Nat → List Int32
  | 0 => []
  | k + 1 => match R[k]? with
    | some q => if V k = -2 ∧ ¬ C (q.1 + 1) ∈ z_O C R V k then z_O C R V k ++ [C (q.1 + 1)] else z_O C R V k
    | none => z_O C R V k
/-- as the reference has verdicts -/
def z_st (v : Int32) : Int32 := if v = -2 then 1 else if 0 ≤ v then 2 else if v = -4 then 3 else 0
