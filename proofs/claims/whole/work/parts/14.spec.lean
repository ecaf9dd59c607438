/-! reading over writing -/
theorem x_sz_sI (h : x_H) (i a : Nat) (v : Int32) : x_sz (x_sI h i a v) = x_sz h := rfl
theorem x_us_sI (h : x_H) (i a : Nat) (v : Int32) : x_us (x_sI h i a v) = x_us h := rfl
theorem x_kd_sI (h : x_H) (i a : Nat) (v : Int32) (b : Nat) : x_kd (x_sI h i a v) b = x_kd h b := rfl
theorem x_ln_sI (h : x_H) (i a : Nat) (v : Int32) (b : Nat) : x_ln (x_sI h i a v) b = x_ln h b := rfl
theorem x_fi_sI (h : x_H) (i a : Nat) (v : Int32) (j b : Nat) : x_fi (x_sI h i a v) j b = if j = i ∧ b = a then v else x_fi h j b := rfl
theorem x_fr_sI (h : x_H) (i a : Nat) (v : Int32) (j b : Nat) : x_fr (x_sI h i a v) j b = x_fr h j b := rfl
theorem x_fl_sI (h : x_H) (i a : Nat) (v : Int32) (j b : Nat) : x_fl (x_sI h i a v) j b = x_fl h j b := rfl
theorem x_rw_sI (h : x_H) (i a : Nat) (v : Int32) (j b : Nat) : x_rw (x_sI h i a v) j b = x_rw h j b := rfl
theorem x_rl_sI (h : x_H) (i a : Nat) (v : Int32) (j b : Nat) : x_rl (x_sI h i a v) j b = x_rl h j b := rfl
theorem x_sz_sR (h : x_H) (i a : Nat) (v : Option Nat) : x_sz (x_sR h i a v) = x_sz h := rfl
theorem x_us_sR (h : x_H) (i a : Nat) (v : Option Nat) : x_us (x_sR h i a v) = x_us h := rfl
theorem x_kd_sR (h : x_H) (i a : Nat) (v : Option Nat) (b : Nat) : x_kd (x_sR h i a v) b = x_kd h b := rfl
theorem x_ln_sR (h : x_H) (i a : Nat) (v : Option Nat) (b : Nat) : x_ln (x_sR h i a v) b = x_ln h b := rfl
theorem x_fi_sR (h : x_H) (i a : Nat) (v : Option Nat) (j b : Nat) : x_fi (x_sR h i a v) j b = x_fi h j b := rfl
theorem x_fr_sR (h : x_H) (i a : Nat) (v : Option Nat) (j b : Nat) : x_fr (x_sR h i a v) j b = if j = i ∧ b = a then v else x_fr h j b := rfl
theorem x_fl_sR (h : x_H) (i a : Nat) (v : Option Nat) (j b : Nat) : x_fl (x_sR h i a v) j b = x_fl h j b := rfl
theorem x_rw_sR (h : x_H) (i a : Nat) (v : Option Nat) (j b : Nat) : x_rw (x_sR h i a v) j b = x_rw h j b := rfl
theorem x_rl_sR (h : x_H) (i a : Nat) (v : Option Nat) (j b : Nat) : x_rl (x_sR h i a v) j b = x_rl h j b := rfl
theorem x_sz_sL (h : x_H) (i a : Nat) (v : Int64) : x_sz (x_sL h i a v) = x_sz h := rfl
theorem x_us_sL (h : x_H) (i a : Nat) (v : Int64) : x_us (x_sL h i a v) = x_us h := rfl
theorem x_kd_sL (h : x_H) (i a : Nat) (v : Int64) (b : Nat) : x_kd (x_sL h i a v) b = x_kd h b := rfl
theorem x_ln_sL (h : x_H) (i a : Nat) (v : Int64) (b : Nat) : x_ln (x_sL h i a v) b = x_ln h b := rfl
theorem x_fi_sL (h : x_H) (i a : Nat) (v : Int64) (j b : Nat) : x_fi (x_sL h i a v) j b = x_fi h j b := rfl
theorem x_fr_sL (h : x_H) (i a : Nat) (v : Int64) (j b : Nat) : x_fr (x_sL h i a v) j b = x_fr h j b := rfl
theorem x_fl_sL (h : x_H) (i a : Nat) (v : Int64) (j b : Nat) : x_fl (x_sL h i a v) j b = if j = i ∧ b = a then v else x_fl h j b := rfl
theorem x_rw_sL (h : x_H) (i a : Nat) (v : Int64) (j b : Nat) : x_rw (x_sL h i a v) j b = x_rw h j b := rfl
theorem x_rl_sL (h : x_H) (i a : Nat) (v : Int64) (j b : Nat) : x_rl (x_sL h i a v) j b = x_rl h j b := rfl
theorem x_sz_sA (h : x_H) (a i : Nat) (v : Int32) : x_sz (x_sA h a i v) = x_sz h := rfl
theorem x_us_sA (h : x_H) (a i : Nat) (v : Int32) : x_us (x_sA h a i v) = x_us h := rfl
theorem x_kd_sA (h : x_H) (a i : Nat) (v : Int32) (b : Nat) : x_kd (x_sA h a i v) b = x_kd h b := rfl
theorem x_ln_sA (h : x_H) (a i : Nat) (v : Int32) (b : Nat) : x_ln (x_sA h a i v) b = x_ln h b := rfl
theorem x_fi_sA (h : x_H) (a i : Nat) (v : Int32) (j b : Nat) : x_fi (x_sA h a i v) j b = x_fi h j b := rfl
theorem x_fr_sA (h : x_H) (a i : Nat) (v : Int32) (j b : Nat) : x_fr (x_sA h a i v) j b = x_fr h j b := rfl
theorem x_fl_sA (h : x_H) (a i : Nat) (v : Int32) (j b : Nat) : x_fl (x_sA h a i v) j b = x_fl h j b := rfl
theorem x_rw_sA (h : x_H) (a i : Nat) (v : Int32) (j b : Nat) : x_rw (x_sA h a i v) j b = if j = a ∧ b = i then v else x_rw h j b := rfl
theorem x_rl_sA (h : x_H) (a i : Nat) (v : Int32) (j b : Nat) : x_rl (x_sA h a i v) j b = x_rl h j b := rfl
theorem x_sz_sJ (h : x_H) (a i : Nat) (v : Int64) : x_sz (x_sJ h a i v) = x_sz h := rfl
theorem x_us_sJ (h : x_H) (a i : Nat) (v : Int64) : x_us (x_sJ h a i v) = x_us h := rfl
theorem x_kd_sJ (h : x_H) (a i : Nat) (v : Int64) (b : Nat) : x_kd (x_sJ h a i v) b = x_kd h b := rfl
theorem x_ln_sJ (h : x_H) (a i : Nat) (v : Int64) (b : Nat) : x_ln (x_sJ h a i v) b = x_ln h b := rfl
theorem x_fi_sJ (h : x_H) (a i : Nat) (v : Int64) (j b : Nat) : x_fi (x_sJ h a i v) j b = x_fi h j b := rfl
theorem x_fr_sJ (h : x_H) (a i : Nat) (v : Int64) (j b : Nat) : x_fr (x_sJ h a i v) j b = x_fr h j b := rfl
theorem x_fl_sJ (h : x_H) (a i : Nat) (v : Int64) (j b : Nat) : x_fl (x_sJ h a i v) j b = x_fl h j b := rfl
theorem x_rw_sJ (h : x_H) (a i : Nat) (v : Int64) (j b : Nat) : x_rw (x_sJ h a i v) j b = x_rw h j b := rfl
theorem x_rl_sJ (h : x_H) (a i : Nat) (v : Int64) (j b : Nat) : x_rl (x_sJ h a i v) j b = if j = a ∧ b = i then v else x_rl h j b := rfl
theorem x_sz_nO (h : x_H) (k n : Nat) : x_sz (x_nO h k n) = x_sz h + 1 := rfl
theorem x_us_nO (h : x_H) (k n : Nat) : x_us (x_nO h k n) = x_us h + n := rfl
theorem x_kd_nO (h : x_H) (k n : Nat) (b : Nat) : x_kd (x_nO h k n) b = if b = x_sz h then k else x_kd h b := rfl
theorem x_ln_nO (h : x_H) (k n : Nat) (b : Nat) : x_ln (x_nO h k n) b = x_ln h b := rfl
theorem x_fi_nO (h : x_H) (k n : Nat) (j b : Nat) : x_fi (x_nO h k n) j b = if b = x_sz h then 0 else x_fi h j b := rfl
theorem x_fr_nO (h : x_H) (k n : Nat) (j b : Nat) : x_fr (x_nO h k n) j b = if b = x_sz h then none else x_fr h j b := rfl
theorem x_fl_nO (h : x_H) (k n : Nat) (j b : Nat) : x_fl (x_nO h k n) j b = if b = x_sz h then 0 else x_fl h j b := rfl
theorem x_rw_nO (h : x_H) (k n : Nat) (j b : Nat) : x_rw (x_nO h k n) j b = x_rw h j b := rfl
theorem x_rl_nO (h : x_H) (k n : Nat) (j b : Nat) : x_rl (x_nO h k n) j b = x_rl h j b := rfl
theorem x_sz_nA (h : x_H) (k n : Nat) : x_sz (x_nA h k n) = x_sz h + 1 := rfl
theorem x_us_nA (h : x_H) (k n : Nat) : x_us (x_nA h k n) = x_us h + n := rfl
theorem x_kd_nA (h : x_H) (k n : Nat) (b : Nat) : x_kd (x_nA h k n) b = if b = x_sz h then k else x_kd h b := rfl
theorem x_ln_nA (h : x_H) (k n : Nat) (b : Nat) : x_ln (x_nA h k n) b = if b = x_sz h then n else x_ln h b := rfl
theorem x_fi_nA (h : x_H) (k n : Nat) (j b : Nat) : x_fi (x_nA h k n) j b = x_fi h j b := rfl
theorem x_fr_nA (h : x_H) (k n : Nat) (j b : Nat) : x_fr (x_nA h k n) j b = x_fr h j b := rfl
theorem x_fl_nA (h : x_H) (k n : Nat) (j b : Nat) : x_fl (x_nA h k n) j b = x_fl h j b := rfl
theorem x_rw_nA (h : x_H) (k n : Nat) (j b : Nat) : x_rw (x_nA h k n) j b = if j = x_sz h then 0 else x_rw h j b := by
  show (va_up (x_rw h) (x_sz h) (fun _ => 0) : Nat → Nat → _) j b = _
  unfold va_up
  split <;> rfl
theorem x_rl_nA (h : x_H) (k n : Nat) (j b : Nat) : x_rl (x_nA h k n) j b = if j = x_sz h then 0 else x_rl h j b := by
  show (va_up (x_rl h) (x_sz h) (fun _ => 0) : Nat → Nat → _) j b = _
  unfold va_up
  split <;> rfl
theorem x_Ex.call {G : x_G} {M : x_M} {h h1 : x_H} {av : List x_V} {r : Option x_V} (k : x_Ex G M h av (fun r' h' => r' = r ∧ h' = h1)) : x_Call G M h av r h1 := by
  obtain ⟨_, _, ⟨rfl, rfl⟩, hc⟩ := k
  exact hc
/-- locals that nobody needs any more -/
theorem x_drop {G : x_G} {M : x_M} {D : Room → x_Z → Prop} {h0 h : x_H} {pc : Nat} {lv lv2 : x_L} {st : List x_V} (ks : List Nat) (hl : ks.filterMap (fun i => lv[i]?) = lv2) (k : x_E G M D h0 pc lv2 st h) : x_E G M D h0 pc lv st h := by
  obtain ⟨R, Z, hD, g1, g2, g3⟩ := k
  refine ⟨R, Z, hD, g1, g2, fun p e s m args below meth c H ls locs hC hl9 hH hq => g3 p e s m args below meth c H ls locs hC (x_has_sub hl9 fun q h9 => ?_) hH hq⟩
  subst hl
  obtain ⟨p, hp, rfl⟩ := List.mem_map.mp h9
  obtain ⟨i, -, hi⟩ := List.mem_filterMap.mp hp
  exact List.mem_map.mpr ⟨p, List.mem_of_getElem? hi, rfl⟩
/-! TEXTS: words, codes -/
/-- the places s .. e - 1 of a row -/
def z_sl (T : Nat → Int32) (s e : Nat) : List Int32 := (List.range' s (e - s)).map T
theorem z_sl_nil (T : Nat → Int32) {s e : Nat} (h : e ≤ s) : z_sl T s e = [] := by
  unfold z_sl
  rw [show e - s = 0 by omega]
  rfl
theorem z_sl_cons (T : Nat → Int32) {s e : Nat} (h : s < e) : z_sl T s e = T s :: z_sl T (s + 1) e := by
  unfold z_sl
  rw [show e - s = (e - (s + 1)) + 1 by omega, List.range'_succ]
  rfl
theorem z_sl_len (T : Nat → Int32) (s e : Nat) : (z_sl T s e).length = e - s := by simp [z_sl]
/-- a blank or a line's end -/
def z_gap (b : Int32) : Bool := b == 32 || b == 10
def z_dgl : List Int32 → Int64 → Int64
  | [], v => v
  | b :: r, v => z_dgl r (256 * v + (b &&& 255).toInt64)
/-- a word's digest, as the reference has it -/
def z_dg (w : List Int32) : Int64 := if w.length < 8 then z_dgl w 1 else 1
def z_dig (b : Int32) : Option Nat := if 48 ≤ b ∧ b ≤ 57 then some (b.toNatClampNeg - 48) else none
def z_zn : List Int32 → Nat → Option Nat
  | [], V => some V
  | b :: r, V => match z_dig b with
    | none => none
    | some d => z_zn r (10 * V + d)
def z_num (w : List Int32) : Option Nat := if w.length ≤ 9 then z_zn w 0 else none
def z_ni (q : Option Nat) : Int32 := match q with
  | none => -1
  | some V => nI V
