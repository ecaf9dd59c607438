/-! THE ABSTRACT HEAP: components as functions of addresses. A field's number is 100 * (its class's place in vwCl) + its place. Kinds: the class's place; 20 int[], 21 byte[], 22 boolean[], 23 long[]; 99 nothing. -/
abbrev x_H : Type := Nat × Nat × (Nat → Nat) × (Nat → Nat → Int32) × (Nat → Nat → Option Nat) × (Nat → Nat → Int64) × (Nat → Nat) × (Nat → Nat → Int32) × (Nat → Nat → Int64)
def x_sz (h : x_H) : Nat := h.1
def x_us (h : x_H) : Nat := h.2.1
def x_kd (h : x_H) : Nat → Nat := h.2.2.1
def x_fi (h : x_H) : Nat → Nat → Int32 := h.2.2.2.1
def x_fr (h : x_H) : Nat → Nat → Option Nat := h.2.2.2.2.1
def x_fl (h : x_H) : Nat → Nat → Int64 := h.2.2.2.2.2.1
def x_ln (h : x_H) : Nat → Nat := h.2.2.2.2.2.2.1
def x_rw (h : x_H) : Nat → Nat → Int32 := h.2.2.2.2.2.2.2.1
def x_rl (h : x_H) : Nat → Nat → Int64 := h.2.2.2.2.2.2.2.2
def x_u2 {α : Type} (f : Nat → Nat → α) (i a : Nat) (v : α) : Nat → Nat → α := fun j b => if j = i ∧ b = a then v else f j b
def x_sI (h : x_H) (i a : Nat) (v : Int32) : x_H := (x_sz h, x_us h, x_kd h, x_u2 (x_fi h) i a v, x_fr h, x_fl h, x_ln h, x_rw h, x_rl h)
def x_sR (h : x_H) (i a : Nat) (v : Option Nat) : x_H := (x_sz h, x_us h, x_kd h, x_fi h, x_u2 (x_fr h) i a v, x_fl h, x_ln h, x_rw h, x_rl h)
def x_sL (h : x_H) (i a : Nat) (v : Int64) : x_H := (x_sz h, x_us h, x_kd h, x_fi h, x_fr h, x_u2 (x_fl h) i a v, x_ln h, x_rw h, x_rl h)
def x_sA (h : x_H) (a i : Nat) (v : Int32) : x_H := (x_sz h, x_us h, x_kd h, x_fi h, x_fr h, x_fl h, x_ln h, x_u2 (x_rw h) a i v, x_rl h)
def x_sJ (h : x_H) (a i : Nat) (v : Int64) : x_H := (x_sz h, x_us h, x_kd h, x_fi h, x_fr h, x_fl h, x_ln h, x_rw h, x_u2 (x_rl h) a i v)
def x_ud {α : Type} (f : Nat → Nat → α) (a : Nat) (v : α) : Nat → Nat → α := fun j b => if b = a then v else f j b
/-- a new object of kind k with n fields -/
def x_nO (h : x_H) (k n : Nat) : x_H := (x_sz h + 1, x_us h + n, va_up (x_kd h) (x_sz h) k, x_ud (x_fi h) (x_sz h) 0, x_ud (x_fr h) (x_sz h) none, x_ud (x_fl h) (x_sz h) 0, x_ln h, x_rw h, x_rl h)
/-- a new array of kind k with n places -/
def x_nA (h : x_H) (k n : Nat) : x_H := (x_sz h + 1, x_us h + n, va_up (x_kd h) (x_sz h) k, x_fi h, x_fr h, x_fl h, va_up (x_ln h) (x_sz h) n, va_up (x_rw h) (x_sz h) (fun _ => 0), va_up (x_rl h) (x_sz h) (fun _ => 0))
/-- 0: an int, boolean; 1: a reference; 2: a long -/
def x_ft (i : Nat) : Nat := if i = 1026 then 2 else if [100, 101, 103, 104, 201, 301, 302, 303, 304, 404, 405, 406, 500, 501, 606, 607, 608, 705, 800, 900, 902, 904, 905, 906, 1000, 1002, 1003, 1004, 1006, 1007, 1009, 1010, 1012, 1014, 1015, 1016, 1017, 1020, 1021, 1022].contains i then 1 else 0
def x_nf (k : Nat) : Nat := [0, 7, 2, 5, 7, 2, 9, 6, 3, 7, 29].getD k 0
def x_val (h : x_H) (i a : Nat) : Value := if x_ft i = 0 then .int (x_fi h i a) else if x_ft i = 1 then va_rf (x_fr h i a) else .long (x_fl h i a)
def x_fs (h : x_H) (k a : Nat) : List Value := (List.range (x_nf k)).map (fun j => x_val h (100 * k + j) a)
theorem x_fs_at {h : x_H} {k a j : Nat} (hj : j < x_nf k) : vp_V (x_fs h k a) j = x_val h (100 * k + j) a := by
  simp [vp_V, x_fs, hj]
theorem x_fs_len (h : x_H) (k a : Nat) : (x_fs h k a).length = x_nf k := by simp [x_fs]
/-- the things that stay: launch, classes' numbers and slots, array classes by kind, the first address of ours, the heap below it, what else the tables and statics say -/
abbrev x_G : Type := Launch × va_G × (Nat → ClassId) × Nat × Heap × (State → Prop)
abbrev x_Gb (G : x_G) : Nat := G.2.2.2.1
def x_obj (G : x_G) (h : x_H) (a : Nat) : va_E := if x_kd h a < 20 then .inr (x_kd h a, x_fs h (x_kd h a) a) else if x_kd h a = 23 then .inl (G.2.2.1 23, x_ln h a, .inr (.inl (x_rl h a))) else .inl (G.2.2.1 (x_kd h a), x_ln h a, .inl (x_rw h a))
def x_tys (G : x_G) : List (ClassId × FieldType) := [(G.2.2.1 20, .int), (G.2.2.1 21, .byte), (G.2.2.1 22, .boolean), (G.2.2.1 23, .long)]
/-- the heap holds the abstract one -/
def x_HR (G : x_G) (h : x_H) (H : Heap) : Prop := H.size = x_sz h ∧ x_Gb G ≤ x_sz h ∧ (∀ a : Nat, x_kd h a ≠ 99 → x_Gb G ≤ a ∧ va_at G.2.1 vwCl (a, x_obj G h a) H) ∧ ∀ q : Nat, q < x_Gb G → H[q]? = G.2.2.2.2.1[q]?
/-- what the tables say -/
def x_T (G : x_G) (U : State) : Prop := va_K G.2.1 vwCl (x_tys G) U ∧ G.2.2.2.2.2 U ∧ (∀ u V : State, u.WarmedH V.vm → G.2.2.2.2.2 u → G.2.2.2.2.2 V) ∧ ∀ (u : State) (g : JFrame) (mk : MethodId) (a : Array Value), G.2.2.2.2.2 u → G.2.2.2.2.2 (u.calling g mk a)
theorem x_T.warm {G : x_G} {u V : State} (h : u.WarmedH V.vm) (k : x_T G u) : x_T G V := ⟨va_K.moved h.alike k.1, k.2.2.1 u V h k.2.1, k.2.2.1, k.2.2.2⟩
theorem x_T.blind {G : x_G} {u : State} {g : JFrame} {mk : MethodId} {a : Array Value} (k : x_T G u) : x_T G (u.calling g mk a) := ⟨va_K.moved (u := u) (U := u.calling g mk a) (Vm.Alike.refl u.vm) k.1, k.2.2.2 u g mk a k.2.1, k.2.2.1, k.2.2.2⟩
def x_Pc (G : x_G) (av : List Value) (h : x_H) : Array Value → State → Prop := fun a U => a = av.toArray ∧ x_HR G h U.heap ∧ x_T G U
def x_Qc (G : x_G) (r : Option Value) (h' : x_H) : Array Value → State → Outcome → State → Prop := fun _ _ oc t => oc = .returned r ∧ x_HR G h' t.heap
theorem x_Pc.blind {G : x_G} {av : List Value} {h : x_H} : FrameBlind (x_Pc G av h) := fun _ _ _ _ q => ⟨q.1, q.2.1, q.2.2.blind⟩
/-- a method: name, code, locals, answer, words, frames, locals' room, its class -/
abbrev x_M : Type := MethodName × ByteArray × Nat × Option FieldType × List Cond × Nat × Nat × String
abbrev x_y (M : x_M) : MethodName := M.1
abbrev x_cc (M : x_M) : ByteArray := M.2.1
abbrev x_mL (M : x_M) : Nat := M.2.2.1
abbrev x_rt (M : x_M) : Option FieldType := M.2.2.2.1
abbrev x_ws (M : x_M) : List Cond := M.2.2.2.2.1
abbrev x_fm (M : x_M) : Nat := M.2.2.2.2.2.1
abbrev x_lo (M : x_M) : Nat := M.2.2.2.2.2.2.1
abbrev x_ow (M : x_M) : String := M.2.2.2.2.2.2.2
/-- abstract values -/
abbrev x_V : Type := Int32 ⊕ (Int64 ⊕ Option Nat)
abbrev x_i (x : Int32) : x_V := .inl x
abbrev x_l (x : Int64) : x_V := .inr (.inl x)
abbrev x_r (o : Option Nat) : x_V := .inr (.inr o)
def x_v (v : x_V) : Value := match v with
  | .inl x => .int x
  | .inr (.inl x) => .long x
  | .inr (.inr o) => va_rf o
def x_c2 (v : x_V) : Bool := match v with
  | .inr (.inl _) => true
  | _ => false
theorem x_c2_t {v : x_V} (h : x_c2 v = true) : (x_v v).category = 2 := by
  match v, h with
  | .inr (.inl x), _ => rfl
theorem x_c2_f {v : x_V} (h : x_c2 v = false) : (x_v v).category = 1 := by
  match v, h with
  | .inl x, _ => rfl
  | .inr (.inr none), _ => rfl
  | .inr (.inr (some a)), _ => rfl
abbrev x_L : Type := List (Nat × x_V)
abbrev x_ll (lv : x_L) : List (Nat × Value) := lv.map (fun q => (q.1, x_v q.2))
def x_get (lv : x_L) (i : Nat) : Option x_V := (lv.find? (fun q => q.1 == i)).map (fun q => q.2)
def x_ins (i : Nat) (v : x_V) : x_L → x_L
  | [] => [(i, v)]
  | q :: l => if i < q.1 then (i, v) :: q :: l else q :: x_ins i v l
def x_set (lv : x_L) (i : Nat) (v : x_V) : x_L := x_ins i v (lv.filter (fun q => !(q.1 == i) && !(q.1 + 1 == i && x_c2 q.2) && !(x_c2 v && q.1 == i + 1)))
theorem x_ins_mem {i : Nat} {v : x_V} {q : Nat × x_V} : ∀ {l : x_L}, q ∈ x_ins i v l → q = (i, v) ∨ q ∈ l
  | [], h => by
    simp [x_ins] at h
    exact Or.inl h
  | p :: l, h => by
    unfold x_ins at h
    split at h
    · rcases List.mem_cons.mp h with h | h
      · exact Or.inl h
      · exact Or.inr h
    · rcases List.mem_cons.mp h with h | h
      · exact Or.inr (List.mem_cons.mpr (Or.inl h))
      · rcases x_ins_mem h with h | h
        · exact Or.inl h
        · exact Or.inr (List.mem_cons.mpr (Or.inr h))
theorem x_get_at {ls : Array Slot} {n : Nat} {lv : x_L} {i : Nat} {v : x_V} (h : lv_has ls n (x_ll lv)) (hg : x_get lv i = some v) : ls[i]? = some (.val (x_v v)) := by
  unfold x_get at hg
  cases hf : lv.find? (fun q => q.1 == i) with
  | none => rw [hf] at hg; cases hg
  | some q =>
    rw [hf] at hg
    have h1 := List.mem_of_find?_eq_some hf
    have h2 : q.1 = i := by simpa using List.find?_some hf
    have h3 : q.2 = v := by simpa using hg
    have h4 := h.2.2 (q.1, x_v q.2) (List.mem_map.mpr ⟨q, h1, rfl⟩)
    rw [h2, h3] at h4
    exact h4
theorem x_get_mem {lv : x_L} {i : Nat} {v : x_V} (hg : x_get lv i = some v) : ∃ k : Nat, (x_ll lv)[k]? = some (i, x_v v) := by
  unfold x_get at hg
  cases hf : lv.find? (fun q => q.1 == i) with
  | none => rw [hf] at hg; cases hg
  | some q =>
    rw [hf] at hg
    have h1 := List.mem_of_find?_eq_some hf
    have h2 : q.1 = i := by simpa using List.find?_some hf
    have h3 : q.2 = v := by simpa using hg
    have h4 : (i, x_v v) ∈ x_ll lv := List.mem_map.mpr ⟨q, h1, by rw [h2, h3]⟩
    exact List.getElem?_of_mem h4
theorem x_has_sub {ls : Array Slot} {n : Nat} {l l' : List (Nat × Value)} (h : lv_has ls n l) (hs : ∀ q ∈ l', q ∈ l) : lv_has ls n l' := ⟨h.1, h.2.1, fun q hq => h.2.2 q (hs q hq)⟩
theorem x_sub1 {lv lv' : x_L} {i : Nat} {v : x_V} (hl : x_set lv i v = lv') : ∀ q ∈ x_ll lv', q ∈ (i, x_v v) :: (x_ll lv).filter (fun q => !(q.1 == i) && !(q.1 + 1 == i && q.2.category == 2)) := by
  intro q hq
  subst hl
  obtain ⟨p, hp, rfl⟩ := List.mem_map.mp hq
  rcases x_ins_mem hp with rfl | hp
  · exact List.mem_cons_self
  · obtain ⟨hp1, hp2⟩ := List.mem_filter.mp hp
    refine List.mem_cons_of_mem _ (List.mem_filter.mpr ⟨List.mem_map.mpr ⟨p, hp1, rfl⟩, ?_⟩)
    simp only [Bool.and_eq_true, Bool.not_eq_true'] at hp2
    obtain ⟨⟨h3, h4⟩, -⟩ := hp2
    simp only [Bool.and_eq_true, Bool.not_eq_true']
    refine ⟨h3, ?_⟩
    cases hx : x_c2 p.2 with
    | true => rw [hx] at h4; simp only [Bool.and_true] at h4; simp only [h4, Bool.false_and]
    | false => simp [x_c2_f hx]
theorem x_sub2 {lv lv' : x_L} {i : Nat} {v : x_V} (hc : x_c2 v = true) (hl : x_set lv i v = lv') : ∀ q ∈ x_ll lv', q ∈ (i, x_v v) :: (x_ll lv).filter (fun q => !(q.1 == i) && (!(q.1 == i + 1) && !(q.1 + 1 == i && q.2.category == 2))) := by
  intro q hq
  subst hl
  obtain ⟨p, hp, rfl⟩ := List.mem_map.mp hq
  rcases x_ins_mem hp with rfl | hp
  · exact List.mem_cons_self
  · obtain ⟨hp1, hp2⟩ := List.mem_filter.mp hp
    refine List.mem_cons_of_mem _ (List.mem_filter.mpr ⟨List.mem_map.mpr ⟨p, hp1, rfl⟩, ?_⟩)
    simp only [Bool.and_eq_true, Bool.not_eq_true', hc, Bool.true_and] at hp2
    obtain ⟨⟨h3, h4⟩, h5⟩ := hp2
    simp only [Bool.and_eq_true, Bool.not_eq_true']
    refine ⟨h3, h5, ?_⟩
    cases hx : x_c2 p.2 with
    | true => rw [hx] at h4; simp only [Bool.and_true] at h4; simp only [h4, Bool.false_and]
    | false => simp [x_c2_f hx]
/-! THE JUDGEMENT -/
/-- what holds of the machine in a method's body -/
def x_C (G : x_G) (M : x_M) (p : Program) (s : State) (m : MethodId) (args : Array Value) (meth : Method) (c : Code) : Prop :=
  p.tables.exec = Jvm.exec ∧ c.code = x_cc M ∧ meth.sig.returnType = x_rt M ∧ c.maxLocals = x_mL M ∧ s.vm.findClass (x_ow M) = some m.cls ∧ (∀ w ∈ x_ws M, w.before args s = true) ∧ meth.locks = false ∧ x_T G s ∧ meth.name = (x_y M).name
abbrev x_Z : Type := List Frame → Array Value → State → State → Prop
def x_J (G : x_G) (M : x_M) (R : Room) (Z : x_Z) (h0 : x_H) (pc : Nat) (lv : x_L) (st : List x_V) (h : x_H) : Prop :=
  (R.frames = x_fm M ∧ R.locals = x_lo M) ∧ (x_sz h0 ≤ x_sz h ∧ x_us h0 ≤ x_us h ∧ x_sz h - x_sz h0 ≤ R.cells ∧ x_us h - x_us h0 ≤ R.slots) ∧
  ∀ (p : Program) (e : Env) (s : State) (m : MethodId) (args : Array Value) (below : List Frame) (meth : Method) (c : Code) (H : Heap) (ls : Array Slot) (locs : List Loc), x_C G M p s m args meth c → lv_has ls (x_mL M) (x_ll lv) → x_HR G h H → (∀ q ∈ locs, x_Gb G ≤ q.base) →
    W p G.1 e R s m args below meth c H locs (x_sz h - x_sz h0) (x_us h - x_us h0) (Z below args s) (F0 m pc ls (st.map x_v))
def x_E (G : x_G) (M : x_M) (D : Room → x_Z → Prop) (h0 : x_H) (pc : Nat) (lv : x_L) (st : List x_V) (h : x_H) : Prop := ∃ R Z, D R Z ∧ x_J G M R Z h0 pc lv st h
section XL
variable {G : x_G} {M : x_M} {D : Room → x_Z → Prop} {h0 h : x_H} {pc pc' : Nat} {lv lv' : x_L} {st st' : List x_V}
theorem x_E.eq {pc2 : Nat} {lv2 : x_L} {st2 : List x_V} {h2 : x_H} (k : x_E G M D h0 pc2 lv2 st2 h2) (e1 : pc = pc2) (e2 : lv = lv2) (e3 : st = st2) (e4 : h = h2) : x_E G M D h0 pc lv st h := by
  subst e1; subst e2; subst e3; subst e4; exact k
/-- an instruction that leaves the heap alone -/
theorem x_lift (f : ∀ (p : Program) (e : Env) (R : Room) (s : State) (m : MethodId) (args : Array Value) (below : List Frame) (meth : Method) (c : Code) (H : Heap) (ls : Array Slot) (locs : List Loc) (cells slots : Nat) (Q : State → Prop), x_C G M p s m args meth c → lv_has ls (x_mL M) (x_ll lv) → x_HR G h H →
      (∀ ls' : Array Slot, lv_has ls' (x_mL M) (x_ll lv') → W p G.1 e R s m args below meth c H locs cells slots Q (F0 m pc' ls' (st'.map x_v))) → W p G.1 e R s m args below meth c H locs cells slots Q (F0 m pc ls (st.map x_v)))
    (k : x_E G M D h0 pc' lv' st' h) : x_E G M D h0 pc lv st h := by
  obtain ⟨R, Z, hD, h1, h2, h3⟩ := k
  exact ⟨R, Z, hD, h1, h2, fun p e s m args below meth c H ls locs hC hl hH hq => f p e R s m args below meth c H ls locs _ _ _ hC hl hH (fun ls' hl' => h3 p e s m args below meth c H ls' locs hC hl' hH hq)⟩
theorem x_iconst {n : Int} {v : Int32} (hd : decode (x_cc M) pc = .ok (.iconst n, 1)) (hv : Int32.ofInt n = v) (k : x_E G M D h0 (pc + 1) lv (x_i v :: st) h) : x_E G M D h0 pc lv (st) h :=
  x_lift (fun p e R s m args below meth c H ls locs cells slots Q hC hl hH kk => lv_iconst hC.1 hC.2.1 hd hv (kk ls hl)) k
theorem x_bipush {n : Int} {v : Int32} (hd : decode (x_cc M) pc = .ok (.bipush n, 2)) (hv : (Int8.ofInt n).toInt32 = v) (k : x_E G M D h0 (pc + 2) lv (x_i v :: st) h) : x_E G M D h0 pc lv (st) h :=
  x_lift (fun p e R s m args below meth c H ls locs cells slots Q hC hl hH kk => lv_bipush hC.1 hC.2.1 hd hv (kk ls hl)) k
theorem x_sipush {n : Int} {v : Int32} (hd : decode (x_cc M) pc = .ok (.sipush n, 3)) (hv : (Int16.ofInt n).toInt32 = v) (k : x_E G M D h0 (pc + 3) lv (x_i v :: st) h) : x_E G M D h0 pc lv (st) h :=
  x_lift (fun p e R s m args below meth c H ls locs cells slots Q hC hl hH kk => lv_sipush hC.1 hC.2.1 hd hv (kk ls hl)) k
theorem x_lconst {n : Fin 2} {v : Int64} (hd : decode (x_cc M) pc = .ok (.lconst n, 1)) (hv : Int64.ofNat (n : Nat) = v) (k : x_E G M D h0 (pc + 1) lv (x_l v :: st) h) : x_E G M D h0 pc lv (st) h :=
  x_lift (fun p e R s m args below meth c H ls locs cells slots Q hC hl hH kk => lv_lconst hC.1 hC.2.1 hd hv (kk ls hl)) k
theorem x_ldc {i : Nat} {v : Int32} (hd : decode (x_cc M) pc = .ok (.ldc i, 2)) (hw : Cond.constant (x_ow M) i v ∈ x_ws M) (k : x_E G M D h0 (pc + 2) lv (x_i v :: st) h) : x_E G M D h0 pc lv (st) h :=
  x_lift (fun p e R s m args below meth c H ls locs cells slots Q hC hl hH kk => lv_ldc hC.1 hC.2.1 hC.2.2.2.2.1 (hC.2.2.2.2.2.1 _ hw) hd (kk ls hl)) k
theorem x_ldc2 {i : Nat} {v : Int64} (hd : decode (x_cc M) pc = .ok (.ldc2_w i, 3)) (hw : Cond.constantLong (x_ow M) i v ∈ x_ws M) (k : x_E G M D h0 (pc + 3) lv (x_l v :: st) h) : x_E G M D h0 pc lv (st) h :=
  x_lift (fun p e R s m args below meth c H ls locs cells slots Q hC hl hH kk => lv_ldc2 hC.1 hC.2.1 hC.2.2.2.2.1 (hC.2.2.2.2.2.1 _ hw) hd (kk ls hl)) k
theorem x_null (hd : decode (x_cc M) pc = .ok (.aconst_null, 1)) (k : x_E G M D h0 (pc + 1) lv (x_r none :: st) h) : x_E G M D h0 pc lv (st) h :=
  x_lift (fun p e R s m args below meth c H ls locs cells slots Q hC hl hH kk => lv_null hC.1 hC.2.1 hd (kk ls hl)) k
theorem x_iload_n {n : Fin 4} {i : Nat} {x : Int32} (hd : decode (x_cc M) pc = .ok (.iload_n n, 1)) (hi : (n : Nat) = i) (hg : x_get lv i = some (x_i x)) (k : x_E G M D h0 (pc + 1) lv (x_i x :: st) h) : x_E G M D h0 pc lv (st) h :=
  x_lift (fun p e R s m args below meth c H ls locs cells slots Q hC hl hH kk => lv_iload_n hC.1 hC.2.1 hd hi (x_get_at hl hg) (kk ls hl)) k
theorem x_iload {i : Nat} {x : Int32} (hd : decode (x_cc M) pc = .ok (.iload i, 2)) (hg : x_get lv i = some (x_i x)) (k : x_E G M D h0 (pc + 2) lv (x_i x :: st) h) : x_E G M D h0 pc lv (st) h :=
  x_lift (fun p e R s m args below meth c H ls locs cells slots Q hC hl hH kk => lv_iload hC.1 hC.2.1 hd (x_get_at hl hg) (kk ls hl)) k
theorem x_lload_n {n : Fin 4} {i : Nat} {x : Int64} (hd : decode (x_cc M) pc = .ok (.lload_n n, 1)) (hi : (n : Nat) = i) (hg : x_get lv i = some (x_l x)) (k : x_E G M D h0 (pc + 1) lv (x_l x :: st) h) : x_E G M D h0 pc lv (st) h :=
  x_lift (fun p e R s m args below meth c H ls locs cells slots Q hC hl hH kk => lv_lload_n hC.1 hC.2.1 hd hi (x_get_at hl hg) (kk ls hl)) k
theorem x_lload {i : Nat} {x : Int64} (hd : decode (x_cc M) pc = .ok (.lload i, 2)) (hg : x_get lv i = some (x_l x)) (k : x_E G M D h0 (pc + 2) lv (x_l x :: st) h) : x_E G M D h0 pc lv (st) h :=
  x_lift (fun p e R s m args below meth c H ls locs cells slots Q hC hl hH kk => lv_lload hC.1 hC.2.1 hd (x_get_at hl hg) (kk ls hl)) k
theorem x_aload_n {n : Fin 4} {i : Nat} {o : Option Nat} (hd : decode (x_cc M) pc = .ok (.aload_n n, 1)) (hi : (n : Nat) = i) (hg : x_get lv i = some (x_r o)) (k : x_E G M D h0 (pc + 1) lv (x_r o :: st) h) : x_E G M D h0 pc lv st h :=
  x_lift (fun p e R s m args below meth c H ls locs cells slots Q hC hl hH kk => by
    cases o with
    | none => exact lv_aload_nN hC.1 hC.2.1 hd hi (x_get_at hl hg) (kk ls hl)
    | some a => exact lv_aload_n hC.1 hC.2.1 hd hi (x_get_at hl hg) (kk ls hl)) k
theorem x_aload {i : Nat} {o : Option Nat} (hd : decode (x_cc M) pc = .ok (.aload i, 2)) (hg : x_get lv i = some (x_r o)) (k : x_E G M D h0 (pc + 2) lv (x_r o :: st) h) : x_E G M D h0 pc lv st h :=
  x_lift (fun p e R s m args below meth c H ls locs cells slots Q hC hl hH kk => by
    cases o with
    | none => exact lv_aloadN hC.1 hC.2.1 hd (x_get_at hl hg) (kk ls hl)
    | some a => exact lv_aload hC.1 hC.2.1 hd (x_get_at hl hg) (kk ls hl)) k
theorem x_istore_n {n : Fin 4} {i : Nat} {x : Int32} (hd : decode (x_cc M) pc = .ok (.istore_n n, 1)) (hi : (n : Nat) = i) (hn : i < x_mL M) (hs : x_set lv i (x_i x) = lv') (k : x_E G M D h0 (pc + 1) lv' st h) : x_E G M D h0 pc lv (x_i x :: st) h :=
  x_lift (fun p e R s m args below meth c H ls locs cells slots Q hC hl hH kk => lv_istore_n hC.1 hC.2.1 hd hi hl hn rfl (fun ls' hl' => kk ls' (x_has_sub hl' (x_sub1 hs)))) k
theorem x_istore {i : Nat} {x : Int32} (hd : decode (x_cc M) pc = .ok (.istore i, 2)) (hn : i < x_mL M) (hs : x_set lv i (x_i x) = lv') (k : x_E G M D h0 (pc + 2) lv' st h) : x_E G M D h0 pc lv (x_i x :: st) h :=
  x_lift (fun p e R s m args below meth c H ls locs cells slots Q hC hl hH kk => lv_istore hC.1 hC.2.1 hd hl hn rfl (fun ls' hl' => kk ls' (x_has_sub hl' (x_sub1 hs)))) k
theorem x_lstore_n {n : Fin 4} {i : Nat} {x : Int64} (hd : decode (x_cc M) pc = .ok (.lstore_n n, 1)) (hi : (n : Nat) = i) (hn : i + 1 < x_mL M) (hs : x_set lv i (x_l x) = lv') (k : x_E G M D h0 (pc + 1) lv' st h) : x_E G M D h0 pc lv (x_l x :: st) h :=
  x_lift (fun p e R s m args below meth c H ls locs cells slots Q hC hl hH kk => lv_lstore_n hC.1 hC.2.1 hd hi hl hn rfl (fun ls' hl' => kk ls' (x_has_sub hl' (x_sub2 rfl hs)))) k
theorem x_lstore {i : Nat} {x : Int64} (hd : decode (x_cc M) pc = .ok (.lstore i, 2)) (hn : i + 1 < x_mL M) (hs : x_set lv i (x_l x) = lv') (k : x_E G M D h0 (pc + 2) lv' st h) : x_E G M D h0 pc lv (x_l x :: st) h :=
  x_lift (fun p e R s m args below meth c H ls locs cells slots Q hC hl hH kk => lv_lstore hC.1 hC.2.1 hd hl hn rfl (fun ls' hl' => kk ls' (x_has_sub hl' (x_sub2 rfl hs)))) k
theorem x_astore_n {n : Fin 4} {i : Nat} {o : Option Nat} (hd : decode (x_cc M) pc = .ok (.astore_n n, 1)) (hi : (n : Nat) = i) (hn : i < x_mL M) (hs : x_set lv i (x_r o) = lv') (k : x_E G M D h0 (pc + 1) lv' st h) : x_E G M D h0 pc lv (x_r o :: st) h :=
  x_lift (fun p e R s m args below meth c H ls locs cells slots Q hC hl hH kk => by
    cases o with
    | none => exact lv_astore_nN hC.1 hC.2.1 hd hi hl hn rfl (fun ls' hl' => kk ls' (x_has_sub hl' (x_sub1 hs)))
    | some a => exact lv_astore_n hC.1 hC.2.1 hd hi hl hn rfl (fun ls' hl' => kk ls' (x_has_sub hl' (x_sub1 hs)))) k
theorem x_astore {i : Nat} {o : Option Nat} (hd : decode (x_cc M) pc = .ok (.astore i, 2)) (hn : i < x_mL M) (hs : x_set lv i (x_r o) = lv') (k : x_E G M D h0 (pc + 2) lv' st h) : x_E G M D h0 pc lv (x_r o :: st) h :=
  x_lift (fun p e R s m args below meth c H ls locs cells slots Q hC hl hH kk => by
    cases o with
    | none => exact lv_astoreN hC.1 hC.2.1 hd hl hn rfl (fun ls' hl' => kk ls' (x_has_sub hl' (x_sub1 hs)))
    | some a => exact lv_astore hC.1 hC.2.1 hd hl hn rfl (fun ls' hl' => kk ls' (x_has_sub hl' (x_sub1 hs)))) k
theorem x_iinc {i : Nat} {n : Int} {x v : Int32} (hd : decode (x_cc M) pc = .ok (.iinc i n, 3)) (hg : x_get lv i = some (x_i x)) (hv : x + Int32.ofInt n = v) (hn : i < x_mL M) (hs : x_set lv i (x_i v) = lv') (k : x_E G M D h0 (pc + 3) lv' st h) : x_E G M D h0 pc lv st h := by
  obtain ⟨j, hj⟩ := x_get_mem hg
  exact x_lift (fun p e R s m args below meth c H ls locs cells slots Q hC hl hH kk => lv_iinc hC.1 hC.2.1 hd hl hj hv hn rfl (fun ls' hl' => kk ls' (x_has_sub hl' (x_sub1 hs)))) k
theorem x_iadd {x y : Int32} (hd : decode (x_cc M) pc = .ok (.iadd, 1)) (k : x_E G M D h0 (pc + 1) lv (x_i (x + y) :: st) h) : x_E G M D h0 pc lv (x_i y :: x_i x :: st) h :=
  x_lift (fun p e R s m args below meth c H ls locs cells slots Q hC hl hH kk => lv_iadd hC.1 hC.2.1 hd (kk ls hl)) k
theorem x_isub {x y : Int32} (hd : decode (x_cc M) pc = .ok (.isub, 1)) (k : x_E G M D h0 (pc + 1) lv (x_i (x - y) :: st) h) : x_E G M D h0 pc lv (x_i y :: x_i x :: st) h :=
  x_lift (fun p e R s m args below meth c H ls locs cells slots Q hC hl hH kk => lv_isub hC.1 hC.2.1 hd (kk ls hl)) k
theorem x_imul {x y : Int32} (hd : decode (x_cc M) pc = .ok (.imul, 1)) (k : x_E G M D h0 (pc + 1) lv (x_i (x * y) :: st) h) : x_E G M D h0 pc lv (x_i y :: x_i x :: st) h :=
  x_lift (fun p e R s m args below meth c H ls locs cells slots Q hC hl hH kk => lv_imul hC.1 hC.2.1 hd (kk ls hl)) k
theorem x_iand {x y : Int32} (hd : decode (x_cc M) pc = .ok (.iand, 1)) (k : x_E G M D h0 (pc + 1) lv (x_i (x &&& y) :: st) h) : x_E G M D h0 pc lv (x_i y :: x_i x :: st) h :=
  x_lift (fun p e R s m args below meth c H ls locs cells slots Q hC hl hH kk => lv_iand hC.1 hC.2.1 hd (kk ls hl)) k
theorem x_ladd {x y : Int64} (hd : decode (x_cc M) pc = .ok (.ladd, 1)) (k : x_E G M D h0 (pc + 1) lv (x_l (x + y) :: st) h) : x_E G M D h0 pc lv (x_l y :: x_l x :: st) h :=
  x_lift (fun p e R s m args below meth c H ls locs cells slots Q hC hl hH kk => lv_ladd hC.1 hC.2.1 hd (kk ls hl)) k
theorem x_lmul {x y : Int64} (hd : decode (x_cc M) pc = .ok (.lmul, 1)) (k : x_E G M D h0 (pc + 1) lv (x_l (x * y) :: st) h) : x_E G M D h0 pc lv (x_l y :: x_l x :: st) h :=
  x_lift (fun p e R s m args below meth c H ls locs cells slots Q hC hl hH kk => lv_lmul hC.1 hC.2.1 hd (kk ls hl)) k
theorem x_land {x y : Int64} (hd : decode (x_cc M) pc = .ok (.land, 1)) (k : x_E G M D h0 (pc + 1) lv (x_l (x &&& y) :: st) h) : x_E G M D h0 pc lv (x_l y :: x_l x :: st) h :=
  x_lift (fun p e R s m args below meth c H ls locs cells slots Q hC hl hH kk => lv_land hC.1 hC.2.1 hd (kk ls hl)) k
theorem x_lor {x y : Int64} (hd : decode (x_cc M) pc = .ok (.lor, 1)) (k : x_E G M D h0 (pc + 1) lv (x_l (x ||| y) :: st) h) : x_E G M D h0 pc lv (x_l y :: x_l x :: st) h :=
  x_lift (fun p e R s m args below meth c H ls locs cells slots Q hC hl hH kk => lv_lor hC.1 hC.2.1 hd (kk ls hl)) k
theorem x_ldiv {x y : Int64} (hd : decode (x_cc M) pc = .ok (.ldiv, 1)) (hne : ¬ y = 0) (k : x_E G M D h0 (pc + 1) lv (x_l (x / y) :: st) h) : x_E G M D h0 pc lv (x_l y :: x_l x :: st) h :=
  x_lift (fun p e R s m args below meth c H ls locs cells slots Q hC hl hH kk => lv_ldiv hC.1 hC.2.1 hd hne (kk ls hl)) k
theorem x_lneg {x : Int64} (hd : decode (x_cc M) pc = .ok (.lneg, 1)) (k : x_E G M D h0 (pc + 1) lv (x_l (-x) :: st) h) : x_E G M D h0 pc lv (x_l x :: st) h :=
  x_lift (fun p e R s m args below meth c H ls locs cells slots Q hC hl hH kk => lv_lneg hC.1 hC.2.1 hd (kk ls hl)) k
theorem x_lshl {x : Int64} {y : Int32} (hd : decode (x_cc M) pc = .ok (.lshl, 1)) (k : x_E G M D h0 (pc + 1) lv (x_l (x <<< (y.toInt64 &&& 63)) :: st) h) : x_E G M D h0 pc lv (x_i y :: x_l x :: st) h :=
  x_lift (fun p e R s m args below meth c H ls locs cells slots Q hC hl hH kk => lv_lshl hC.1 hC.2.1 hd rfl (kk ls hl)) k
theorem x_i2l {x : Int32} (hd : decode (x_cc M) pc = .ok (.i2l, 1)) (k : x_E G M D h0 (pc + 1) lv (x_l x.toInt64 :: st) h) : x_E G M D h0 pc lv (x_i x :: st) h :=
  x_lift (fun p e R s m args below meth c H ls locs cells slots Q hC hl hH kk => lv_i2l hC.1 hC.2.1 hd rfl (kk ls hl)) k
theorem x_l2i {x : Int64} (hd : decode (x_cc M) pc = .ok (.l2i, 1)) (k : x_E G M D h0 (pc + 1) lv (x_i x.toInt32 :: st) h) : x_E G M D h0 pc lv (x_l x :: st) h :=
  x_lift (fun p e R s m args below meth c H ls locs cells slots Q hC hl hH kk => lv_l2i hC.1 hC.2.1 hd rfl (kk ls hl)) k
theorem x_i2b {x : Int32} (hd : decode (x_cc M) pc = .ok (.i2b, 1)) (k : x_E G M D h0 (pc + 1) lv (x_i x.toInt8.toInt32 :: st) h) : x_E G M D h0 pc lv (x_i x :: st) h :=
  x_lift (fun p e R s m args below meth c H ls locs cells slots Q hC hl hH kk => lv_i2b hC.1 hC.2.1 hd rfl (kk ls hl)) k
theorem x_lcmp {x y : Int64} (hd : decode (x_cc M) pc = .ok (.lcmp, 1)) (k : x_E G M D h0 (pc + 1) lv (x_i (lg_cmp x y) :: st) h) : x_E G M D h0 pc lv (x_l y :: x_l x :: st) h :=
  x_lift (fun p e R s m args below meth c H ls locs cells slots Q hC hl hH kk => W.lcmp hC.1 hC.2.1 hd (kk ls hl)) k
theorem x_dup {v : x_V} (hd : decode (x_cc M) pc = .ok (.dup, 1)) (hv : x_c2 v = false) (k : x_E G M D h0 (pc + 1) lv (v :: v :: st) h) : x_E G M D h0 pc lv (v :: st) h :=
  x_lift (fun p e R s m args below meth c H ls locs cells slots Q hC hl hH kk => lv_dup hC.1 hC.2.1 hd (x_c2_f hv) (kk ls hl)) k
theorem x_goto {off : Int} {tgt : Nat} (hd : decode (x_cc M) pc = .ok (.goto off, 3)) (ht : (pc : Int) + off = (tgt : Int)) (k : x_E G M D h0 tgt lv st h) : x_E G M D h0 pc lv st h :=
  x_lift (fun p e R s m args below meth c H ls locs cells slots Q hC hl hH kk => lv_goto hC.1 hC.2.1 hd ht (kk ls hl)) k
theorem x_if_eq {x : Int32} {off : Int} {tgt : Nat} (hd : decode (x_cc M) pc = .ok (.ifCond .eq off, 3)) (ht : (pc : Int) + off = (tgt : Int)) (kt : x = 0 → x_E G M D h0 tgt lv st h) (kf : ¬ x = 0 → x_E G M D h0 (pc + 3) lv st h) : x_E G M D h0 pc lv (x_i x :: st) h := by
  by_cases hP : x = 0
  · exact x_lift (fun p e R s m args below meth c H ls locs cells slots Q hC hl hH kk => lv_if_eq hC.1 hC.2.1 hd ht (fun _ => kk ls hl) (fun q => absurd hP q)) (kt hP)
  · exact x_lift (fun p e R s m args below meth c H ls locs cells slots Q hC hl hH kk => lv_if_eq hC.1 hC.2.1 hd ht (fun q => absurd q hP) (fun _ => kk ls hl)) (kf hP)
theorem x_icmp_eq {x y : Int32} {off : Int} {tgt : Nat} (hd : decode (x_cc M) pc = .ok (.if_icmp .eq off, 3)) (ht : (pc : Int) + off = (tgt : Int)) (kt : x = y → x_E G M D h0 tgt lv st h) (kf : ¬ x = y → x_E G M D h0 (pc + 3) lv st h) : x_E G M D h0 pc lv (x_i y :: x_i x :: st) h := by
  by_cases hP : x = y
  · exact x_lift (fun p e R s m args below meth c H ls locs cells slots Q hC hl hH kk => lv_icmp_eq hC.1 hC.2.1 hd ht (fun _ => kk ls hl) (fun q => absurd hP q)) (kt hP)
  · exact x_lift (fun p e R s m args below meth c H ls locs cells slots Q hC hl hH kk => lv_icmp_eq hC.1 hC.2.1 hd ht (fun q => absurd q hP) (fun _ => kk ls hl)) (kf hP)
theorem x_if_ne {x : Int32} {off : Int} {tgt : Nat} (hd : decode (x_cc M) pc = .ok (.ifCond .ne off, 3)) (ht : (pc : Int) + off = (tgt : Int)) (kt : ¬ x = 0 → x_E G M D h0 tgt lv st h) (kf : x = 0 → x_E G M D h0 (pc + 3) lv st h) : x_E G M D h0 pc lv (x_i x :: st) h := by
  by_cases hP : ¬ x = 0
  · exact x_lift (fun p e R s m args below meth c H ls locs cells slots Q hC hl hH kk => lv_if_ne hC.1 hC.2.1 hd ht (fun _ => kk ls hl) (fun q => absurd q hP)) (kt hP)
  · exact x_lift (fun p e R s m args below meth c H ls locs cells slots Q hC hl hH kk => lv_if_ne hC.1 hC.2.1 hd ht (fun q => absurd q hP) (fun _ => kk ls hl)) (kf (Classical.not_not.mp hP))
theorem x_icmp_ne {x y : Int32} {off : Int} {tgt : Nat} (hd : decode (x_cc M) pc = .ok (.if_icmp .ne off, 3)) (ht : (pc : Int) + off = (tgt : Int)) (kt : ¬ x = y → x_E G M D h0 tgt lv st h) (kf : x = y → x_E G M D h0 (pc + 3) lv st h) : x_E G M D h0 pc lv (x_i y :: x_i x :: st) h := by
  by_cases hP : ¬ x = y
  · exact x_lift (fun p e R s m args below meth c H ls locs cells slots Q hC hl hH kk => lv_icmp_ne hC.1 hC.2.1 hd ht (fun _ => kk ls hl) (fun q => absurd q hP)) (kt hP)
  · exact x_lift (fun p e R s m args below meth c H ls locs cells slots Q hC hl hH kk => lv_icmp_ne hC.1 hC.2.1 hd ht (fun q => absurd q hP) (fun _ => kk ls hl)) (kf (Classical.not_not.mp hP))
theorem x_if_lt {x : Int32} {off : Int} {tgt : Nat} (hd : decode (x_cc M) pc = .ok (.ifCond .lt off, 3)) (ht : (pc : Int) + off = (tgt : Int)) (kt : x < 0 → x_E G M D h0 tgt lv st h) (kf : ¬ x < 0 → x_E G M D h0 (pc + 3) lv st h) : x_E G M D h0 pc lv (x_i x :: st) h := by
  by_cases hP : x < 0
  · exact x_lift (fun p e R s m args below meth c H ls locs cells slots Q hC hl hH kk => lv_if_lt hC.1 hC.2.1 hd ht (fun _ => kk ls hl) (fun q => absurd hP q)) (kt hP)
  · exact x_lift (fun p e R s m args below meth c H ls locs cells slots Q hC hl hH kk => lv_if_lt hC.1 hC.2.1 hd ht (fun q => absurd q hP) (fun _ => kk ls hl)) (kf hP)
theorem x_icmp_lt {x y : Int32} {off : Int} {tgt : Nat} (hd : decode (x_cc M) pc = .ok (.if_icmp .lt off, 3)) (ht : (pc : Int) + off = (tgt : Int)) (kt : x < y → x_E G M D h0 tgt lv st h) (kf : ¬ x < y → x_E G M D h0 (pc + 3) lv st h) : x_E G M D h0 pc lv (x_i y :: x_i x :: st) h := by
  by_cases hP : x < y
  · exact x_lift (fun p e R s m args below meth c H ls locs cells slots Q hC hl hH kk => lv_icmp_lt hC.1 hC.2.1 hd ht (fun _ => kk ls hl) (fun q => absurd hP q)) (kt hP)
  · exact x_lift (fun p e R s m args below meth c H ls locs cells slots Q hC hl hH kk => lv_icmp_lt hC.1 hC.2.1 hd ht (fun q => absurd q hP) (fun _ => kk ls hl)) (kf hP)
theorem x_if_ge {x : Int32} {off : Int} {tgt : Nat} (hd : decode (x_cc M) pc = .ok (.ifCond .ge off, 3)) (ht : (pc : Int) + off = (tgt : Int)) (kt : 0 ≤ x → x_E G M D h0 tgt lv st h) (kf : ¬ 0 ≤ x → x_E G M D h0 (pc + 3) lv st h) : x_E G M D h0 pc lv (x_i x :: st) h := by
  by_cases hP : 0 ≤ x
  · exact x_lift (fun p e R s m args below meth c H ls locs cells slots Q hC hl hH kk => lv_if_ge hC.1 hC.2.1 hd ht (fun _ => kk ls hl) (fun q => absurd hP q)) (kt hP)
  · exact x_lift (fun p e R s m args below meth c H ls locs cells slots Q hC hl hH kk => lv_if_ge hC.1 hC.2.1 hd ht (fun q => absurd q hP) (fun _ => kk ls hl)) (kf hP)
theorem x_icmp_ge {x y : Int32} {off : Int} {tgt : Nat} (hd : decode (x_cc M) pc = .ok (.if_icmp .ge off, 3)) (ht : (pc : Int) + off = (tgt : Int)) (kt : y ≤ x → x_E G M D h0 tgt lv st h) (kf : ¬ y ≤ x → x_E G M D h0 (pc + 3) lv st h) : x_E G M D h0 pc lv (x_i y :: x_i x :: st) h := by
  by_cases hP : y ≤ x
  · exact x_lift (fun p e R s m args below meth c H ls locs cells slots Q hC hl hH kk => lv_icmp_ge hC.1 hC.2.1 hd ht (fun _ => kk ls hl) (fun q => absurd hP q)) (kt hP)
  · exact x_lift (fun p e R s m args below meth c H ls locs cells slots Q hC hl hH kk => lv_icmp_ge hC.1 hC.2.1 hd ht (fun q => absurd q hP) (fun _ => kk ls hl)) (kf hP)
theorem x_if_gt {x : Int32} {off : Int} {tgt : Nat} (hd : decode (x_cc M) pc = .ok (.ifCond .gt off, 3)) (ht : (pc : Int) + off = (tgt : Int)) (kt : 0 < x → x_E G M D h0 tgt lv st h) (kf : ¬ 0 < x → x_E G M D h0 (pc + 3) lv st h) : x_E G M D h0 pc lv (x_i x :: st) h := by
  by_cases hP : 0 < x
  · exact x_lift (fun p e R s m args below meth c H ls locs cells slots Q hC hl hH kk => lv_if_gt hC.1 hC.2.1 hd ht (fun _ => kk ls hl) (fun q => absurd hP q)) (kt hP)
  · exact x_lift (fun p e R s m args below meth c H ls locs cells slots Q hC hl hH kk => lv_if_gt hC.1 hC.2.1 hd ht (fun q => absurd q hP) (fun _ => kk ls hl)) (kf hP)
theorem x_icmp_gt {x y : Int32} {off : Int} {tgt : Nat} (hd : decode (x_cc M) pc = .ok (.if_icmp .gt off, 3)) (ht : (pc : Int) + off = (tgt : Int)) (kt : y < x → x_E G M D h0 tgt lv st h) (kf : ¬ y < x → x_E G M D h0 (pc + 3) lv st h) : x_E G M D h0 pc lv (x_i y :: x_i x :: st) h := by
  by_cases hP : y < x
  · exact x_lift (fun p e R s m args below meth c H ls locs cells slots Q hC hl hH kk => lv_icmp_gt hC.1 hC.2.1 hd ht (fun _ => kk ls hl) (fun q => absurd hP q)) (kt hP)
  · exact x_lift (fun p e R s m args below meth c H ls locs cells slots Q hC hl hH kk => lv_icmp_gt hC.1 hC.2.1 hd ht (fun q => absurd q hP) (fun _ => kk ls hl)) (kf hP)
theorem x_if_le {x : Int32} {off : Int} {tgt : Nat} (hd : decode (x_cc M) pc = .ok (.ifCond .le off, 3)) (ht : (pc : Int) + off = (tgt : Int)) (kt : x ≤ 0 → x_E G M D h0 tgt lv st h) (kf : ¬ x ≤ 0 → x_E G M D h0 (pc + 3) lv st h) : x_E G M D h0 pc lv (x_i x :: st) h := by
  by_cases hP : x ≤ 0
  · exact x_lift (fun p e R s m args below meth c H ls locs cells slots Q hC hl hH kk => lv_if_le hC.1 hC.2.1 hd ht (fun _ => kk ls hl) (fun q => absurd hP q)) (kt hP)
  · exact x_lift (fun p e R s m args below meth c H ls locs cells slots Q hC hl hH kk => lv_if_le hC.1 hC.2.1 hd ht (fun q => absurd q hP) (fun _ => kk ls hl)) (kf hP)
theorem x_icmp_le {x y : Int32} {off : Int} {tgt : Nat} (hd : decode (x_cc M) pc = .ok (.if_icmp .le off, 3)) (ht : (pc : Int) + off = (tgt : Int)) (kt : x ≤ y → x_E G M D h0 tgt lv st h) (kf : ¬ x ≤ y → x_E G M D h0 (pc + 3) lv st h) : x_E G M D h0 pc lv (x_i y :: x_i x :: st) h := by
  by_cases hP : x ≤ y
  · exact x_lift (fun p e R s m args below meth c H ls locs cells slots Q hC hl hH kk => lv_icmp_le hC.1 hC.2.1 hd ht (fun _ => kk ls hl) (fun q => absurd hP q)) (kt hP)
  · exact x_lift (fun p e R s m args below meth c H ls locs cells slots Q hC hl hH kk => lv_icmp_le hC.1 hC.2.1 hd ht (fun q => absurd q hP) (fun _ => kk ls hl)) (kf hP)
theorem x_ifnull {o : Option Nat} {off : Int} {tgt : Nat} (hd : decode (x_cc M) pc = .ok (.ifnull off, 3)) (ht : (pc : Int) + off = (tgt : Int)) (kt : o = none → x_E G M D h0 tgt lv st h) (kf : ∀ a : Nat, o = some a → x_E G M D h0 (pc + 3) lv st h) : x_E G M D h0 pc lv (x_r o :: st) h := by
  cases o with
  | none => exact x_lift (fun p e R s m args below meth c H ls locs cells slots Q hC hl hH kk => lv_ifnullN hC.1 hC.2.1 hd ht (kk ls hl)) (kt rfl)
  | some a => exact x_lift (fun p e R s m args below meth c H ls locs cells slots Q hC hl hH kk => lv_ifnull hC.1 hC.2.1 hd (kk ls hl)) (kf a rfl)
theorem x_ifnonnull {o : Option Nat} {off : Int} {tgt : Nat} (hd : decode (x_cc M) pc = .ok (.ifnonnull off, 3)) (ht : (pc : Int) + off = (tgt : Int)) (kt : ∀ a : Nat, o = some a → x_E G M D h0 tgt lv st h) (kf : o = none → x_E G M D h0 (pc + 3) lv st h) : x_E G M D h0 pc lv (x_r o :: st) h := by
  cases o with
  | none => exact x_lift (fun p e R s m args below meth c H ls locs cells slots Q hC hl hH kk => lv_ifnonnullN hC.1 hC.2.1 hd (kk ls hl)) (kf rfl)
  | some a => exact x_lift (fun p e R s m args below meth c H ls locs cells slots Q hC hl hH kk => lv_ifnonnull hC.1 hC.2.1 hd ht (kk ls hl)) (kt a rfl)
theorem x_tableOut {dflt lo hi : Int} {offs : Array Int} {len : Nat} {x : Int32} {tgt : Nat} (hd : decode (x_cc M) pc = .ok (.tableswitch dflt lo hi offs, len)) (hx : x.toInt < lo ∨ hi < x.toInt) (ht : (pc : Int) + dflt = (tgt : Int)) (k : x_E G M D h0 tgt lv st h) : x_E G M D h0 pc lv (x_i x :: st) h :=
  x_lift (fun p e R s m args below meth c H ls locs cells slots Q hC hl hH kk => lv_tableOut hC.1 hC.2.1 hd hx ht (kk ls hl)) k
theorem x_tableIn {dflt lo hi : Int} {offs : Array Int} {len : Nat} {x : Int32} {off : Int} {tgt : Nat} (hd : decode (x_cc M) pc = .ok (.tableswitch dflt lo hi offs, len)) (hx : ¬ x.toInt < lo) (hx2 : ¬ hi < x.toInt) (ho : offs[(x.toInt - lo).toNat]? = some off) (ht : (pc : Int) + off = (tgt : Int)) (k : x_E G M D h0 tgt lv st h) : x_E G M D h0 pc lv (x_i x :: st) h :=
  x_lift (fun p e R s m args below meth c H ls locs cells slots Q hC hl hH kk => lv_tableIn hC.1 hC.2.1 hd hx hx2 ho ht (kk ls hl)) k
theorem x_lookup {dflt : Int} {ps : Array (Int × Int)} {len : Nat} {x : Int32} {off : Int} {tgt : Nat} (hd : decode (x_cc M) pc = .ok (.lookupswitch dflt ps, len)) (hp : (ps.toList.zip (ps.toList.drop 1)).all (fun (a, next) => a.1 < next.1) = true) (ho : Op.lookupswitch.offset ps.toList dflt x.toInt = off) (ht : (pc : Int) + off = (tgt : Int)) (k : x_E G M D h0 tgt lv st h) : x_E G M D h0 pc lv (x_i x :: st) h :=
  x_lift (fun p e R s m args below meth c H ls locs cells slots Q hC hl hH kk => lv_lookup hC.1 hC.2.1 hd hp ho ht (kk ls hl)) k
theorem x_at {G : x_G} {h : x_H} {H : Heap} {a ci : Nat} (hH : x_HR G h H) (hci : ci < 20) (hk : x_kd h a = ci) : va_at G.2.1 vwCl (a, .inr (ci, x_fs h ci a)) H := by
  have h1 := (hH.2.2.1 a (by rw [hk]; omega)).2
  unfold x_obj at h1
  rw [hk, if_pos hci] at h1
  exact h1
theorem x_atA {G : x_G} {h : x_H} {H : Heap} {a kd : Nat} (hH : x_HR G h H) (h1 : 20 ≤ kd) (h2 : kd < 23) (hk : x_kd h a = kd) : va_at G.2.1 vwCl (a, .inl (G.2.2.1 kd, x_ln h a, .inl (x_rw h a))) H := by
  have h3 := (hH.2.2.1 a (by rw [hk]; omega)).2
  unfold x_obj at h3
  rw [hk, if_neg (by omega), if_neg (by omega)] at h3
  exact h3
theorem x_atJ {G : x_G} {h : x_H} {H : Heap} {a : Nat} (hH : x_HR G h H) (hk : x_kd h a = 23) : va_at G.2.1 vwCl (a, .inl (G.2.2.1 23, x_ln h a, .inr (.inl (x_rl h a)))) H := by
  have h3 := (hH.2.2.1 a (by rw [hk]; omega)).2
  unfold x_obj at h3
  rw [hk, if_neg (by omega), if_pos rfl] at h3
  exact h3
theorem x_P1 {D : va_G} {q : Nat × va_E} {H : Heap} (h : va_at D vwCl q H) : va_P D vwCl [q] H := by
  intro k x hx
  match k, hx with
  | 0, hx => cases hx; exact h
/-- a field's words: its class and place, the class's fields' words, the link -/
def x_fw (M : x_M) (ci j idx : Nat) (C : String) (T : u_T) (N : Nat) : Prop := vwCl[ci]? = some (C, T, N) ∧ ci < 20 ∧ x_nf ci = N ∧ j < N ∧ (∀ w ∈ u_ws C T N, w ∈ x_ws M) ∧ Cond.fieldLink (x_ow M) idx (T j).1 (T j).2.1 (T j).2.2.1 ∈ x_ws M
theorem x_getf {ci j idx N a : Nat} {C : String} {T : u_T} {v : x_V} (hd : decode (x_cc M) pc = .ok (.getfield idx, 3)) (hw : x_fw M ci j idx C T N) (hk : x_kd h a = ci) (hv : x_val h (100 * ci + j) a = x_v v) (k : x_E G M D h0 (pc + 3) lv (v :: st) h) : x_E G M D h0 pc lv (x_r (some a) :: st) h :=
  x_lift (fun p e R s m args below meth c H ls locs cells slots Q hC hl hH kk => by
    obtain ⟨h1, h2, h3, h4, h5, h6⟩ := hw
    refine va_get hC.1 hC.2.1 (own := x_ow M) (ref := (T j).1) (C := C) (T := T) (N := N) (ci := ci) hC.2.2.2.2.2.1 h5 hC.2.2.2.2.1 hC.2.2.2.2.2.2.2.1.1 (x_P1 (x_at hH h2 hk)) 0 rfl h1 j h4 (hC.2.2.2.2.2.1 _ h6) (fun _ z => z) (v := x_v v) ?_ hd (kk ls hl)
    rw [← hv]
    simp [x_fs, h3, h4]) k
theorem x_getI {ci j idx N a i : Nat} {C : String} {T : u_T} (hd : decode (x_cc M) pc = .ok (.getfield idx, 3)) (hw : x_fw M ci j idx C T N) (hi : 100 * ci + j = i) (hf : x_ft i = 0) (hk : x_kd h a = ci) (k : x_E G M D h0 (pc + 3) lv (x_i (x_fi h i a) :: st) h) : x_E G M D h0 pc lv (x_r (some a) :: st) h := by
  subst hi
  exact x_getf hd hw hk (by simp [x_val, hf, x_v]) k
theorem x_getR {ci j idx N a i : Nat} {C : String} {T : u_T} (hd : decode (x_cc M) pc = .ok (.getfield idx, 3)) (hw : x_fw M ci j idx C T N) (hi : 100 * ci + j = i) (hf : x_ft i = 1) (hk : x_kd h a = ci) (k : x_E G M D h0 (pc + 3) lv (x_r (x_fr h i a) :: st) h) : x_E G M D h0 pc lv (x_r (some a) :: st) h := by
  subst hi
  exact x_getf hd hw hk (by simp [x_val, hf, x_v]) k
theorem x_getL {ci j idx N a i : Nat} {C : String} {T : u_T} (hd : decode (x_cc M) pc = .ok (.getfield idx, 3)) (hw : x_fw M ci j idx C T N) (hi : 100 * ci + j = i) (hf : x_ft i = 2) (hk : x_kd h a = ci) (k : x_E G M D h0 (pc + 3) lv (x_l (x_fl h i a) :: st) h) : x_E G M D h0 pc lv (x_r (some a) :: st) h := by
  subst hi
  exact x_getf hd hw hk (by simp [x_val, hf, x_v]) k
theorem x_getIv {ci j idx N a i : Nat} {C : String} {T : u_T} {v : Int32} (hd : decode (x_cc M) pc = .ok (.getfield idx, 3)) (hw : x_fw M ci j idx C T N) (hi : 100 * ci + j = i) (hf : x_ft i = 0) (hk : x_kd h a = ci) (hv : x_fi h i a = v) (k : x_E G M D h0 (pc + 3) lv (x_i v :: st) h) : x_E G M D h0 pc lv (x_r (some a) :: st) h := by
  subst hv
  exact x_getI hd hw hi hf hk k
theorem x_getRv {ci j idx N a i : Nat} {C : String} {T : u_T} {v : Option Nat} (hd : decode (x_cc M) pc = .ok (.getfield idx, 3)) (hw : x_fw M ci j idx C T N) (hi : 100 * ci + j = i) (hf : x_ft i = 1) (hk : x_kd h a = ci) (hv : x_fr h i a = v) (k : x_E G M D h0 (pc + 3) lv (x_r v :: st) h) : x_E G M D h0 pc lv (x_r (some a) :: st) h := by
  subst hv
  exact x_getR hd hw hi hf hk k
theorem x_getLv {ci j idx N a i : Nat} {C : String} {T : u_T} {v : Int64} (hd : decode (x_cc M) pc = .ok (.getfield idx, 3)) (hw : x_fw M ci j idx C T N) (hi : 100 * ci + j = i) (hf : x_ft i = 2) (hk : x_kd h a = ci) (hv : x_fl h i a = v) (k : x_E G M D h0 (pc + 3) lv (x_l v :: st) h) : x_E G M D h0 pc lv (x_r (some a) :: st) h := by
  subst hv
  exact x_getL hd hw hi hf hk k
theorem x_iaload {a : Nat} {i : Int32} (hd : decode (x_cc M) pc = .ok (.iaload, 1)) (hk : x_kd h a = 20) (hin : vp_in i (x_ln h a)) (k : x_E G M D h0 (pc + 1) lv (x_i (x_rw h a i.toNatClampNeg) :: st) h) : x_E G M D h0 pc lv (x_i i :: x_r (some a) :: st) h :=
  x_lift (fun p e R s m args below meth c H ls locs cells slots Q hC hl hH kk => va_iald hC.1 hC.2.1 hC.2.2.2.2.2.2.2.1.1 (x_P1 (x_atA hH (by omega) (by omega) hk)) 0 0 rfl rfl hin hd (kk ls hl)) k
theorem x_baload {a : Nat} {i : Int32} (hd : decode (x_cc M) pc = .ok (.baload, 1)) (hk : x_kd h a = 21) (hin : vp_in i (x_ln h a)) (k : x_E G M D h0 (pc + 1) lv (x_i (x_rw h a i.toNatClampNeg) :: st) h) : x_E G M D h0 pc lv (x_i i :: x_r (some a) :: st) h :=
  x_lift (fun p e R s m args below meth c H ls locs cells slots Q hC hl hH kk => va_bald hC.1 hC.2.1 hC.2.2.2.2.2.2.2.1.1 (x_P1 (x_atA hH (by omega) (by omega) hk)) 0 1 rfl rfl hin hd (kk ls hl)) k
theorem x_zaload {a : Nat} {i : Int32} (hd : decode (x_cc M) pc = .ok (.baload, 1)) (hk : x_kd h a = 22) (hin : vp_in i (x_ln h a)) (k : x_E G M D h0 (pc + 1) lv (x_i (x_rw h a i.toNatClampNeg) :: st) h) : x_E G M D h0 pc lv (x_i i :: x_r (some a) :: st) h :=
  x_lift (fun p e R s m args below meth c H ls locs cells slots Q hC hl hH kk => va_zald hC.1 hC.2.1 hC.2.2.2.2.2.2.2.1.1 (x_P1 (x_atA hH (by omega) (by omega) hk)) 0 2 rfl rfl hin hd (kk ls hl)) k
theorem x_laload {a : Nat} {i : Int32} (hd : decode (x_cc M) pc = .ok (.laload, 1)) (hk : x_kd h a = 23) (hin : vp_in i (x_ln h a)) (k : x_E G M D h0 (pc + 1) lv (x_l (x_rl h a i.toNatClampNeg) :: st) h) : x_E G M D h0 pc lv (x_i i :: x_r (some a) :: st) h :=
  x_lift (fun p e R s m args below meth c H ls locs cells slots Q hC hl hH kk => va_lald hC.1 hC.2.1 hC.2.2.2.2.2.2.2.1.1 (x_P1 (x_atJ hH hk)) 0 3 rfl rfl hin hd (kk ls hl)) k
theorem x_alen {a kd t0 : Nat} {ty : FieldType} (hd : decode (x_cc M) pc = .ok (.arraylength, 1)) (hk : x_kd h a = kd) (h1 : 20 ≤ kd) (h2 : kd < 23) (ht : (x_tys G)[t0]? = some (G.2.2.1 kd, ty)) (k : x_E G M D h0 (pc + 1) lv (x_i (nI (x_ln h a)) :: st) h) : x_E G M D h0 pc lv (x_r (some a) :: st) h :=
  x_lift (fun p e R s m args below meth c H ls locs cells slots Q hC hl hH kk => va_alen hC.1 hC.2.1 hC.2.2.2.2.2.2.2.1.1 (x_P1 (x_atA hH h1 h2 hk)) 0 t0 rfl ht rfl hd (kk ls hl)) k
theorem x_ialoadN {a n : Nat} {i v : Int32} (hd : decode (x_cc M) pc = .ok (.iaload, 1)) (hk : x_kd h a = 20) (hi : i = nI n) (hn : n < x_ln h a) (hl : x_ln h a < 2 ^ 31) (hv : x_rw h a n = v) (k : x_E G M D h0 (pc + 1) lv (x_i v :: st) h) : x_E G M D h0 pc lv (x_i i :: x_r (some a) :: st) h := by
  subst hi
  subst hv
  exact x_iaload hd hk (vp_in_nI hn hl) (by rw [nI_clamp (Nat.lt_trans hn hl)]; exact k)
theorem x_baloadN {a n : Nat} {i v : Int32} (hd : decode (x_cc M) pc = .ok (.baload, 1)) (hk : x_kd h a = 21) (hi : i = nI n) (hn : n < x_ln h a) (hl : x_ln h a < 2 ^ 31) (hv : x_rw h a n = v) (k : x_E G M D h0 (pc + 1) lv (x_i v :: st) h) : x_E G M D h0 pc lv (x_i i :: x_r (some a) :: st) h := by
  subst hi
  subst hv
  exact x_baload hd hk (vp_in_nI hn hl) (by rw [nI_clamp (Nat.lt_trans hn hl)]; exact k)
theorem x_zaloadN {a n : Nat} {i v : Int32} (hd : decode (x_cc M) pc = .ok (.baload, 1)) (hk : x_kd h a = 22) (hi : i = nI n) (hn : n < x_ln h a) (hl : x_ln h a < 2 ^ 31) (hv : x_rw h a n = v) (k : x_E G M D h0 (pc + 1) lv (x_i v :: st) h) : x_E G M D h0 pc lv (x_i i :: x_r (some a) :: st) h := by
  subst hi
  subst hv
  exact x_zaload hd hk (vp_in_nI hn hl) (by rw [nI_clamp (Nat.lt_trans hn hl)]; exact k)
end XL
