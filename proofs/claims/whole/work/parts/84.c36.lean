/-! A METHOD THAT ENDS IN A THROW -/
/-- a cell that nothing is said of -/
def x_nX (h : x_H) : x_H := (x_sz h + 1, x_us h + 6, va_up (x_kd h) (x_sz h) 99, x_fi h, x_fr h, x_fl h, x_ln h, x_rw h, x_rl h)
theorem x_HR.newX {G : x_G} {h : x_H} {H H1 : Heap} (hH : x_HR G h H) (hz : H1.size = H.size + 1) (hO : ∀ q : Nat, q < H.size → H1[q]? = H[q]?) : x_HR G (x_nX h) H1 := by
  obtain ⟨g1, g2, g3, g4⟩ := hH
  refine ⟨by rw [hz, g1]; rfl, Nat.le_trans g2 (Nat.le_succ _), fun a ha => ?_, fun q hq => ?_⟩
  · have hne : ¬ a = x_sz h := fun z => ha (by show va_up (x_kd h) (x_sz h) 99 a = 99; rw [z]; simp [va_up])
    have hk : x_kd (x_nX h) a = x_kd h a := by
      show va_up (x_kd h) (x_sz h) 99 a = _
      simp [va_up, hne]
    rw [hk] at ha
    obtain ⟨g5, g6⟩ := g3 a ha
    have ho : x_obj G (x_nX h) a = x_obj G h a := by
      unfold x_obj
      rw [hk]
      rfl
    rw [ho]
    exact ⟨g5, g6.kept (hO a g6.lt)⟩
  · rw [hO q (by omega)]
    exact g4 q hq
theorem y_F.nX {h h1 : x_H} {P : Nat → Nat → Prop} {R : Nat → Prop} (a : y_F h h1 P R) : y_F h (x_nX h1) P R := by
  obtain ⟨a1, a2, a3, a4, a5⟩ := a
  refine ⟨Nat.le_trans a1 (Nat.le_succ _), Nat.le_trans a2 (Nat.le_add_right _ _), fun q hq => ⟨?_, (a3 q hq).2⟩, a4, a5⟩
  show va_up (x_kd h1) (x_sz h1) 99 q = _
  rw [show va_up (x_kd h1) (x_sz h1) 99 q = x_kd h1 q by simp [va_up, Nat.ne_of_lt (Nat.lt_of_lt_of_le hq a1)]]
  exact (a3 q hq).1
def xt_X : String := "java/lang/ArrayIndexOutOfBoundsException"
def xt_ns : List String := ["java/lang/IndexOutOfBoundsException", "java/lang/RuntimeException", "java/lang/Exception"]
/-- a static of C's is laid in the cell of its statics -/
def x_LS (C n d : String) (A : Nat → Prop) (U : State) (H : Heap) : Prop := ∃ (c i a : Nat) (k : Class) (f : Field) (cell : Cell), U.vm.findClass C = some c ∧ U.fieldFound? C n d = some (c, k, i, f) ∧ f.isStatic = true ∧ k.statics = some a ∧ H[a]? = some cell ∧ cell.vm.isStatics = true ∧ cell.cls = c ∧ f.slot < cell.slots.size ∧ k.staticTypes[f.slot]? = some f.type ∧ ¬ A a
theorem x_LS.of {C n d : String} {A : Nat → Prop} {args : Array Value} {s : State} (h : (Cond.laysStatic C n d).before args s = true) (hA : ∀ a : Nat, a < s.heap.size → ¬ A a) : x_LS C n d A s s.heap := by
  obtain ⟨c, k, i, f, a, cell, h1, h2, h3, h4, h5, h6, h7, h8, h9⟩ := Cond.laysStatic_spec h
  exact ⟨c, i, a, k, f, cell, h1, h2, h3, h4, h5, h6, h7, h8, h9, hA a (Array.getElem?_eq_some_iff.mp h5).1⟩
theorem x_LS.moved {C n d : String} {A : Nat → Prop} {u U : State} {H : Heap} (hvm : u.vm.Alike U.vm) (h : x_LS C n d A u H) : x_LS C n d A U H := by
  obtain ⟨c, i, a, k, f, cell, h1, h2, h3, h4, h5, h6, h7, h8, h9, h10⟩ := h
  obtain ⟨k', hi', he⟩ := State.fieldFound?_setVm hvm h2
  exact ⟨c, i, a, k', f, cell, by rw [hvm.findClass]; exact h1, hi', h3, by rw [he]; exact h4, h5, h6, h7, h8, by rw [he]; exact h9, h10⟩
theorem x_LS.use {C n d : String} {A : Nat → Prop} {args : Array Value} {s : State} {H : Heap} (h : x_LS C n d A s H) (hq : ∀ a : Nat, ¬ A a → s.heap[a]? = H[a]?) : (Cond.laysStatic C n d).before args s = true := by
  obtain ⟨c, i, a, k, f, cell, h1, h2, h3, h4, h5, h6, h7, h8, h9, h10⟩ := h
  exact Cond.laysStatic_of h1 h2 h3 h4 (by rw [hq a h10]; exact h5) h6 h7 h8 h9
def xt_dec : Cond → Bool := fun w => match w with
  | .declares _ => true
  | _ => false
/-- what is known of the making of the exception -/
def x_TK (q0 : Nat) (u0 sen : RefV) (A : Nat → Prop) (H : Heap) (U : State) : Prop := (∀ w ∈ xt_atoms RX9 171 xt_X xt_ns, w.onTables = true → va_Nw w U) ∧ va_Z Bundle.tN "UNASSIGNED_STACK" Bundle.steD u0.v A U H ∧ va_Z Bundle.tN "SUPPRESSED_SENTINEL" Bundle.listD sen.v A U H ∧ vk_R RX9 169 "no such item" q0 U ∧ x_LS Bundle.tN "UNASSIGNED_STACK" Bundle.steD A U H ∧ x_LS Bundle.tN "SUPPRESSED_SENTINEL" Bundle.listD A U H
theorem xt_onT : ∀ w ∈ xt_atoms RX9 171 xt_X xt_ns, w.onTables = true ∨ w = .laysStatic Bundle.tN "UNASSIGNED_STACK" Bundle.steD ∨ w = .laysStatic Bundle.tN "SUPPRESSED_SENTINEL" Bundle.listD := by decide +kernel
theorem xt_keeps : ∀ w ∈ xt_atoms RX9 171 xt_X xt_ns, w.keeps = true ∨ xt_dec w = true := by decide +kernel
theorem x_TK.warm {q0 : Nat} {u0 sen : RefV} {A : Nat → Prop} {H : Heap} {u V : State} (hW : u.WarmedH V.vm) (k : x_TK q0 u0 sen A H u) : x_TK q0 u0 sen A H V := by
  obtain ⟨k1, k2, k3, k4, k5, k6⟩ := k
  refine ⟨fun w hw ho => ?_, k2.moved hW.alike, k3.moved hW.alike, k4.warm hW, k5.moved hW.alike, k6.moved hW.alike⟩
  rcases xt_keeps w hw with z | z
  · exact va_tabs ho (rfl : (V.setVm V.vm).vm = V.vm) (Cond.onTables_warm (args' := #[]) (T := V) hW ho z (k1 w hw ho))
  · have k9 := k1 w hw ho
    cases w with
    | declares x => exact va_Nw.warmD hW k9
    | _ => cases z
def x_GT (G : x_G) (q0 : Nat) (u0 sen : RefV) : Prop := G.1.stackTraces = false ∧ ∀ U, G.2.2.2.2.2 U → x_TK q0 u0 sen (x_A G) G.2.2.2.2.1 U
/-- how a throw leaves -/
def x_Qt (G : x_G) (x : Nat) (h1 : x_H) (s : State) (o : Outcome) (t : State) (mc ms : Nat) : Prop := o = .threw x ∧ x_HR G h1 t.heap ∧ s.WarmedH t.vm ∧ (∃ ce, t.heap[x]? = some ce ∧ s.vm.findClass xt_X = some ce.cls ∧ ce.vm = .none) ∧ ∃ L, s.sameButNew ({ t with vm := s.vm } : State) L mc ms ∧ ∀ q ∈ L, x_Gb G ≤ q.base
def x_nm (G : x_G) (y : MethodName) (s : State) (args : Array Value) (below : List Frame) : Prop := (∀ m, s.frames = Frame.invoking m args :: below → s.methodNamed? y = some m) ∧ ∀ q : Nat, q < x_Gb G → s.heap[q]? = G.2.2.2.2.1[q]?
def x_DT (G : x_G) (M : x_M) (h0 : x_H) (x : Nat) (h1 : x_H) : Room → x_Z → Prop := fun R Z => (x_sz h0 ≤ x_sz h1 ∧ x_us h0 ≤ x_us h1) ∧ R = ({ frames := x_fm M, cells := x_sz h1 - x_sz h0, slots := x_us h1 - x_us h0, locals := x_lo M } : Room) ∧ Z = fun below args s t => x_nm G (x_y M) s args below → ∃ o, t.status = .running ∧ Ended t below o ∧ x_Qt G x h1 s o t (x_sz h1 - x_sz h0) (x_us h1 - x_us h0)
def x_CallT (G : x_G) (M : x_M) (h : x_H) (av : List x_V) (x : Nat) (h1 : x_H) : Prop := (x_sz h ≤ x_sz h1 ∧ x_us h ≤ x_us h1) ∧ MetFree G.1 (x_y M) (headSpec (x_ws M) ({ frames := x_fm M, cells := x_sz h1 - x_sz h, slots := x_us h1 - x_us h, locals := x_lo M } : Room)) (x_Pc G (av.map x_v) h) (fun _ _ _ _ _ => True) (fun _ st o t => x_Qt G x h1 st o t (x_sz h1 - x_sz h) (x_us h1 - x_us h))
theorem x_enterT {G : x_G} {M : x_M} {h h1 : x_H} {av : List x_V} {x : Nat} (hm : x_mw M) (hn : x_nw2 av ≤ x_mL M) (k : x_E G M (x_DT G M h x h1) h 0 (x_args 0 av) [] h) : x_CallT G M h av x h1 := by
  obtain ⟨R, Z, ⟨hle, rfl, rfl⟩, g1, g2, g3⟩ := k
  obtain ⟨m1, ⟨ws', m2⟩, m3⟩ := hm
  refine ⟨hle, MetFree.of_bodyS (code := x_cc M) (maxLocals := x_mL M) (ret := x_rt M) m1 ?_ ?_⟩
  · intro args s m h hn
    obtain ⟨meth, c, h1, h2, h3, h4, h5, h6, -, -⟩ := Cond.code_spec hn (atoms_spec (ws := x_ws M) h _ (by rw [m2]; exact List.mem_cons_self))
    exact ⟨meth, c, h1, h2, h3, h4, h5, h6⟩
  · intro p e s m args below meth c s₁ B hml hP _
    have hh0 : s₁.heap = s.heap := by rw [B.state]; rfl
    obtain ⟨rfl, hH, hT⟩ := hP
    have hl := lv_entry (av.map x_v) (n := x_mL M) (by rw [x_nw2_eq]; exact hn)
    rw [← x_args_eq] at hl
    have k9 := g3 p e s m (av.map x_v).toArray below meth c s.heap _ [] ⟨B.exec, B.bytes, B.returns, hml, by rw [← m3]; exact findClass_of_methodNamed B.named, atoms_spec (ws := x_ws M) B.pre, B.notSynchronized, hT, (name_of_methodNamed B.named B.method).1⟩ hl hH (fun q h9 => by cases h9)
    rw [Nat.sub_self, Nat.sub_self] at k9
    obtain ⟨t, a1, b1⟩ := k9 s₁ hh0 (Stand.of_body B)
    have hnm : x_nm G (x_y M) s (av.map x_v).toArray below := ⟨fun m' hm' => by
      have := B.frames.symm.trans hm'
      injection this with z1 z2
      injection z1 with z1 z3
      rw [← z1]
      exact B.named, hH.2.2.2⟩
    obtain ⟨o, c1, c2, c3⟩ := b1 hnm
    rw [lg_entry_eq]
    exact ⟨t, o, a1, c1, c2, c3⟩
/-- new, dup, ldc, the constructor, athrow -/
theorem x_throwN {G : x_G} {M : x_M} {q0 : Nat} {u0 sen : RefV} (hGT : x_GT G q0 u0 sen) {h0 h : x_H} {pc : Nat} {lv : x_L} {ia : Nat} (ho : x_ow M = RX9) (hd0 : decode (x_cc M) pc = .ok (.new ia, 3)) (hd1 : decode (x_cc M) (pc + 3) = .ok (.dup, 1)) (hd2 : decode (x_cc M) (pc + 3 + 1) = .ok (.ldc 169, 2)) (hd3 : decode (x_cc M) (pc + 3 + 1 + 2) = .ok (.invokespecial 171, 3)) (hd4 : decode (x_cc M) (pc + 3 + 1 + 2 + 3) = .ok (.athrow, 1))
    (hw1 : Cond.classLink (x_ow M) ia xt_X ∈ x_ws M) (hw2 : Cond.instantiable xt_X 6 ∈ x_ws M) (hw3 : Cond.initialized xt_X ∈ x_ws M) (hw4 : Cond.code (x_y M) (x_cc M) (x_mL M) (x_rt M) ∈ x_ws M) (hfr : 6 < x_fm M) (hlo : 95 ≤ x_lo M) (hle : x_sz h0 ≤ x_sz h ∧ x_us h0 ≤ x_us h) : x_E G M (x_DT G M h0 (x_sz h) (x_nX h)) h0 pc lv [] h := by
  have z1 : x_sz (x_nX h) = x_sz h + 1 := rfl
  have z2 : x_us (x_nX h) = x_us h + 6 := rfl
  refine ⟨_, _, ⟨⟨by omega, by omega⟩, rfl, rfl⟩, ⟨rfl, rfl⟩, ⟨hle.1, hle.2, by show _ ≤ x_sz (x_nX h) - x_sz h0; omega, by show _ ≤ x_us (x_nX h) - x_us h0; omega⟩, fun p e s m args below meth c H ls locs hC hl hH hq => ?_⟩
  by_cases hnm : x_nm G (x_y M) s args below
  · have hTs := hC.2.2.2.2.2.2.2.1
    have hTK := hGT.2 s hTs.2.1
    have hts := hC.2.2.2.2.2.1
    have hsk : ∀ a : Nat, ¬ x_A G a → s.heap[a]? = G.2.2.2.2.1[a]? := fun a ha => hnm.2 a (Nat.lt_of_not_le ha)
    have hat : ∀ w ∈ xt_atoms RX9 171 xt_X xt_ns, w.before args s = true := fun w hw => by
      rcases xt_onT w hw with z | z | z
      · exact va_Nw.use z (hTK.1 w hw z)
      · rw [z]
        exact hTK.2.2.2.2.1.use hsk
      · rw [z]
        exact hTK.2.2.2.2.2.use hsk
    have hon : s.vm.findClass RX9 = some m.cls := by rw [← ho]; exact hC.2.2.2.2.1
    obtain ⟨cX, kX, hfX, hkX, -⟩ := Cond.instantiable_spec (hts _ hw2)
    refine W.newcK hC.1 hC.2.1 hC.2.2.2.2.1 (hts _ hw1) (hts _ hw2) (hts _ hw3) rfl hd0 (by show _ + 1 ≤ x_sz (x_nX h) - x_sz h0; omega) (by show _ + 6 ≤ x_us (x_nX h) - x_us h0; omega) hfX hH.1 fun H1 kC hkC e1 y1 o1 => ?_
    refine lv_dup hC.1 hC.2.1 hd1 rfl ?_
    refine va_ldcS hC.1 hC.2.1 hon hTK.2.2.2.1 hd2 ?_
    intro T hT X
    have hz1 : H1.size = H.size + 1 := by rw [y1, hH.1]
    have ho1 : ∀ q : Nat, q < H.size → H1[q]? = H[q]? := fun q hq => o1 q (by rw [← hH.1]; exact hq)
    have hkp : ∀ a : Nat, a < G.2.2.2.2.1.size → ¬ x_A G a → T.heap[a]? = G.2.2.2.2.1[a]? := fun a _ ha => by
      have ha2 : a < x_Gb G := Nat.lt_of_not_le ha
      rw [hT, ho1 a (by rw [hH.1]; exact Nat.lt_of_lt_of_le ha2 hH.2.1)]
      exact hH.2.2.2 a ha2
    have hout : ∀ x ∈ c.exceptionTable.toList, covers x (pc + 3 + 1 + 2 + 3) = false := by
      obtain ⟨mt, cd, q1, q2, -, -, -, -, q3, -⟩ := Cond.code_spec (hnm.1 m X.frames) (hts _ hw4)
      have e3 : mt = meth := Option.some.inj (q1.symm.trans X.method)
      subst e3
      have e4 : cd = c := Option.some.inj (q2.symm.trans X.code)
      subst e4
      intro x hx
      rw [Array.isEmpty_iff.mp q3] at hx
      cases hx
    obtain ⟨U, ce, L, k1, k2, k3, k4, k5, k6, k7, k8, k9, k10, k11⟩ := xt_throw X hC.1 (by rw [X.admits.platform]; exact hGT.1) (own := RX9) (cls := xt_X) (names := xt_ns) (ic := 171) hon (by decide +kernel) (by decide +kernel) hat (A := x_A G) (u0 := u0) (sen := sen) (hTK.2.1.kept hkp) (hTK.2.2.1.kept hkp) (a := x_sz h) hfX hkC (by rw [hT]; exact e1) hH.2.1 (msg := .ref q0) rfl (g := F0 m (pc + 3 + 1 + 2) ls [.ref q0, .ref (x_sz h), .ref (x_sz h)]) rfl (hl.1.trans hC.2.2.2.1.symm) rfl rfl (rest := []) rfl (by rw [hC.2.1]; exact hd3) (by rw [hC.2.1]; exact hd4) hout hfr (by show 0 + (1 + 0) + (13 * (3 + 1) + 42) ≤ x_lo M; omega) hC.2.2.2.2.2.2.1
    rw [show x_sz h - x_sz h0 + 1 = x_sz (x_nX h) - x_sz h0 by omega, show x_us h - x_us h0 + 6 = x_us (x_nX h) - x_us h0 by omega] at k5
    refine ⟨U, k1, fun _ => ⟨.threw (x_sz h), k2, k3, rfl, ?_, k4, ⟨ce, k9, by rw [k10]; exact hfX, k11⟩, locs ++ L, k5, fun q hq9 => ?_⟩⟩
    · refine hH.newX (by rw [k7, hT]; exact hz1) (fun q hq9 => ?_)
      rw [k8 q (by rw [← hH.1]; exact Nat.ne_of_lt hq9), hT]
      exact ho1 q hq9
    · rcases List.mem_append.mp hq9 with z | z
      · exact hq q z
      · rw [k6 q z]
        exact hH.2.1
  · intro T hT X
    exact ⟨_, Steps.refl _, fun z => absurd z hnm⟩
abbrev mX9_tabT : x_M := (yX9_table, cX9_table, 5, (some .int), wsX9_table, 7, 100, RX9)
theorem mwX9_tabT : x_mw mX9_tabT := ⟨by decide +kernel, ⟨_, rfl⟩, rfl⟩
theorem fX9_tabT_40 : x_fw mX9_tabT 9 6 40 RX9 TX9 7 := ⟨rfl, by decide, rfl, by decide, iX9_table_X9, by decide +kernel⟩
theorem sX9_tabT_148 : x_vw mX9_tabT mX0_ruleAt 148 1 1 := ⟨RX0, TX0, 7, _, rfl, by decide, gX9_table_X0_ruleAt, rfl, by decide +kernel, by decide⟩
theorem sX9_tabT_163 : x_vw mX9_tabT mX6_itemAt 163 6 1 := ⟨RX6, TX6, 9, _, rfl, by decide, gX9_table_X6_itemAt, rfl, by decide +kernel, by decide⟩
theorem fX9_tabT_174 : x_fw mX9_tabT 4 0 174 RX3 TX3 7 := ⟨rfl, by decide, rfl, by decide, iX9_table_X3, by decide +kernel⟩
theorem y_is_ta {C : Nat → Int32} {h : x_H} {k : Int32} {ts L : List Nat} {p : Nat} (hts : y_is C h ts L) (hk : z_ta L 0 k = some p) : ∃ it, z_ta ts 0 k = some it ∧ y_it C h it p := by
  have key : ∀ (ts L : List Nat) (s : Nat), ts.length = L.length → (∀ (j t a : Nat), ts[j]? = some t → L[j]? = some a → y_it C h t a) → z_ta L s k = some p → ∃ it, z_ta ts s k = some it ∧ y_it C h it p := by
    intro ts
    induction ts with
    | nil =>
      intro L s hl _ hz
      have : L = [] := List.length_eq_zero_iff.mp hl.symm
      subst this
      cases hz
    | cons t ts ih =>
      intro L s hl hy hz
      cases L with
      | nil => cases hl
      | cons a L =>
        have hz : (if nI s = k then some a else z_ta L (s + 1) k) = some p := hz
        show ∃ it, (if nI s = k then some t else z_ta ts (s + 1) k) = some it ∧ _
        by_cases e : nI s = k
        · rw [if_pos e] at hz ⊢
          cases hz
          exact ⟨t, rfl, hy 0 t p rfl rfl⟩
        · rw [if_neg e] at hz ⊢
          exact ih L (s + 1) (Nat.succ.inj hl) (fun j t a h1 h2 => hy (j + 1) t a h1 h2) hz
  exact key ts L 0 hts.1 hts.2.2.2 hk
theorem y_is_tn {C : Nat → Int32} {h : x_H} {k : Int32} {ts L : List Nat} (hts : y_is C h ts L) (hk : z_ta L 0 k = none) : z_ta ts 0 k = none := by
  have key : ∀ (ts L : List Nat) (s : Nat), ts.length = L.length → z_ta L s k = none → z_ta ts s k = none := by
    intro ts
    induction ts with
    | nil => intro L s _ _; rfl
    | cons t ts ih =>
      intro L s hl hz
      cases L with
      | nil => cases hl
      | cons a L =>
        have hz : (if nI s = k then some a else z_ta L (s + 1) k) = none := hz
        show (if nI s = k then some t else z_ta ts (s + 1) k) = none
        by_cases e : nI s = k
        · rw [if_pos e] at hz
          cases hz
        · rw [if_neg e] at hz ⊢
          exact ih L (s + 1) (Nat.succ.inj hl) hz
  exact key ts L 0 hts.1 hk
set_option maxHeartbeats 4000000 in
set_option maxRecDepth 100000 in
theorem c_table_r (G : x_G) {C : Nat → Int32} {h : x_H} {bk : Nat} {rs : List Nat} {R : List (Nat × Nat)} {es : List Nat} {E : List Int32} (hb : y_bk C h bk rs R es E) (hR : ∀ q ∈ R, v_ru C q) {ca : Nat} (hk : k_P h ca) (hbk : x_fr h 906 ca = some bk) {t k : Int32} {ra p : Nat} {q : Nat × Nat} (hs : z_ta rs 0 t = some ra) (hri : rs[t.toNatClampNeg]? = some ra) (hqi : R[t.toNatClampNeg]? = some q) (hki : z_ta (z_its C q) 0 k = some p) : x_Call G mX9_tabT h [x_r (some ca), x_i t, x_i k] (some (x_i (z_ik C p))) h := by
  refine x_Ex.call (x_enter mwX9_tabT (Nat.le_of_ble_eq_true rfl) ?_)
  show x_E _ _ _ _ _ [(0, x_r (some ca)), (1, x_i t), (2, x_i k)] _ _
  refine x_aload_n (i := 0) (o := some ca) dX9_table_0 rfl rfl ?_
  refine x_getRv (v := some bk) dX9_table_1 fX9_tabT_40 (i := 906) rfl rfl (by first | exact hk.1 | (simp only [x_kd_sI, x_kd_sA, x_kd_sJ, x_kd_sR, x_fr_sI, x_fr_sA, x_fr_sJ, x_ln_sI, x_ln_sA, x_ln_sJ]; exact hk.1)) (hbk) ?_
  refine x_iload_n (i := 1) (x := t) dX9_table_4 rfl rfl ?_
  have hru := hb.2.2.2.2.2.2.2.1.2.2.2 _ ra q hri hqi
  obtain ⟨ts, hts, h7⟩ := hru.2.2.2.2.2.2
  rw [List.head?_eq_getElem?] at h7
  have hvq := (hR q (List.mem_of_getElem? hqi)).2.2
  refine x_callV (a := bk) (av := [x_i t]) (rest := []) (r := (some (x_r (some ra)))) (h1 := h) dX9_table_5 sX9_tabT_148 hb.1.2 rfl rfl (Nat.le_of_ble_eq_true rfl) ⟨Nat.le_refl _, Nat.le_refl _⟩ (by have k := c_ruleAt G hb t; rw [hs] at k; exact k) ?_
  show x_E _ _ _ _ 8 _ [x_r (some ra)] _
  refine x_astore_n (i := 3) (lv' := [(0, x_r (some ca)), (1, x_i t), (2, x_i k), (3, x_r (some ra))]) dX9_table_8 rfl (by decide) rfl ?_
  refine x_aload_n (i := 3) (o := some ra) dX9_table_9 rfl rfl ?_
  refine x_ifnonnull (o := some ra) (tgt := 17) dX9_table_10 (by decide) (fun _ _ => ?_) (fun c => absurd c (by simp))
  refine x_aload_n (i := 3) (o := some ra) dX9_table_17 rfl rfl ?_
  refine x_iload_n (i := 2) (x := k) dX9_table_18 rfl rfl ?_
  obtain ⟨it, hit0, hit⟩ := y_is_ta hts hki
  
  refine x_callV (a := ra) (av := [x_i k]) (rest := []) (r := (some (x_r (some it)))) (h1 := h) dX9_table_19 sX9_tabT_163 hru.1 rfl rfl (Nat.le_of_ble_eq_true rfl) ⟨Nat.le_refl _, Nat.le_refl _⟩ (by have k := c_itemAt G hts hvq hru.1 h7 k; rw [hit0] at k; exact k) ?_
  show x_E _ _ _ _ 22 _ [x_r (some it)] _
  refine x_astore (i := 4) (lv' := [(0, x_r (some ca)), (1, x_i t), (2, x_i k), (3, x_r (some ra)), (4, x_r (some it))]) dX9_table_22 (by decide) rfl ?_
  refine x_aload (i := 4) (o := some it) dX9_table_24 rfl ?_
  refine x_ifnonnull (o := some it) (tgt := 39) dX9_table_26 (by decide) (fun _ _ => ?_) (fun c => absurd c (by simp))
  refine x_aload (i := 4) (o := some it) dX9_table_39 rfl ?_
  refine x_getIv (v := z_ik C p) dX9_table_41 fX9_tabT_174 (i := 400) rfl rfl hit.1 (hit.2.1) ?_
  refine x_ireturn dX9_table_44 rfl (rfl) ⟨Nat.le_refl _, Nat.le_refl _⟩ ?_
  exact ⟨rfl, rfl⟩
set_option maxHeartbeats 4000000 in
set_option maxRecDepth 100000 in
theorem c_table_n {G : x_G} {q0 : Nat} {u0 sen : RefV} (hGT : x_GT G q0 u0 sen) {C : Nat → Int32} {h : x_H} {bk : Nat} {rs : List Nat} {R : List (Nat × Nat)} {es : List Nat} {E : List Int32} (hb : y_bk C h bk rs R es E) {ca : Nat} (hk : k_P h ca) (hbk : x_fr h 906 ca = some bk) {t : Int32} (k : Int32) (hs : z_ta rs 0 t = none) : x_CallT G mX9_tabT h [x_r (some ca), x_i t, x_i k] (x_sz h) (x_nX h) := by
  refine x_enterT mwX9_tabT (Nat.le_of_ble_eq_true rfl) ?_
  show x_E _ _ _ _ _ [(0, x_r (some ca)), (1, x_i t), (2, x_i k)] _ _
  refine x_aload_n (i := 0) (o := some ca) dX9_table_0 rfl rfl ?_
  refine x_getRv (v := some bk) dX9_table_1 fX9_tabT_40 (i := 906) rfl rfl (by first | exact hk.1 | (simp only [x_kd_sI, x_kd_sA, x_kd_sJ, x_kd_sR, x_fr_sI, x_fr_sA, x_fr_sJ, x_ln_sI, x_ln_sA, x_ln_sJ]; exact hk.1)) (hbk) ?_
  refine x_iload_n (i := 1) (x := t) dX9_table_4 rfl rfl ?_
  refine x_callV (a := bk) (av := [x_i t]) (rest := []) (r := (some (x_r none))) (h1 := h) dX9_table_5 sX9_tabT_148 hb.1.2 rfl rfl (Nat.le_of_ble_eq_true rfl) ⟨Nat.le_refl _, Nat.le_refl _⟩ (by have k := c_ruleAt G hb t; rw [hs] at k; exact k) ?_
  show x_E _ _ _ _ 8 _ [x_r none] _
  refine x_astore_n (i := 3) (lv' := [(0, x_r (some ca)), (1, x_i t), (2, x_i k), (3, x_r none)]) dX9_table_8 rfl (by decide) rfl ?_
  refine x_aload_n (i := 3) (o := none) dX9_table_9 rfl rfl ?_
  refine x_ifnonnull (o := none) (tgt := 17) dX9_table_10 (by decide) (fun _ c => absurd c (by simp)) (fun _ => ?_)
  refine x_null dX9_table_13 ?_
  refine x_goto (tgt := 22) dX9_table_14 (by decide) ?_
  refine x_astore (i := 4) (lv' := [(0, x_r (some ca)), (1, x_i t), (2, x_i k), (3, x_r none), (4, x_r none)]) dX9_table_22 (by decide) rfl ?_
  refine x_aload (i := 4) (o := none) dX9_table_24 rfl ?_
  refine x_ifnonnull (o := none) (tgt := 39) dX9_table_26 (by decide) (fun _ c => absurd c (by simp)) (fun _ => ?_)
  show x_E _ _ _ _ 29 _ _ _
  exact x_throwN hGT rfl dX9_table_29 dX9_table_32 dX9_table_33 dX9_table_35 dX9_table_38 (by decide +kernel) (by decide +kernel) (by decide +kernel) List.mem_cons_self (by decide) (by decide) ⟨Nat.le_refl _, Nat.le_refl _⟩
set_option maxHeartbeats 4000000 in
set_option maxRecDepth 100000 in
theorem c_table_m {G : x_G} {q0 : Nat} {u0 sen : RefV} (hGT : x_GT G q0 u0 sen) {C : Nat → Int32} {h : x_H} {bk : Nat} {rs : List Nat} {R : List (Nat × Nat)} {es : List Nat} {E : List Int32} (hb : y_bk C h bk rs R es E) (hR : ∀ q ∈ R, v_ru C q) {ca : Nat} (hk : k_P h ca) (hbk : x_fr h 906 ca = some bk) {t k : Int32} {ra : Nat} {q : Nat × Nat} (hs : z_ta rs 0 t = some ra) (hri : rs[t.toNatClampNeg]? = some ra) (hqi : R[t.toNatClampNeg]? = some q) (hki : z_ta (z_its C q) 0 k = none) : x_CallT G mX9_tabT h [x_r (some ca), x_i t, x_i k] (x_sz h) (x_nX h) := by
  refine x_enterT mwX9_tabT (Nat.le_of_ble_eq_true rfl) ?_
  show x_E _ _ _ _ _ [(0, x_r (some ca)), (1, x_i t), (2, x_i k)] _ _
  refine x_aload_n (i := 0) (o := some ca) dX9_table_0 rfl rfl ?_
  refine x_getRv (v := some bk) dX9_table_1 fX9_tabT_40 (i := 906) rfl rfl (by first | exact hk.1 | (simp only [x_kd_sI, x_kd_sA, x_kd_sJ, x_kd_sR, x_fr_sI, x_fr_sA, x_fr_sJ, x_ln_sI, x_ln_sA, x_ln_sJ]; exact hk.1)) (hbk) ?_
  refine x_iload_n (i := 1) (x := t) dX9_table_4 rfl rfl ?_
  have hru := hb.2.2.2.2.2.2.2.1.2.2.2 _ ra q hri hqi
  obtain ⟨ts, hts, h7⟩ := hru.2.2.2.2.2.2
  rw [List.head?_eq_getElem?] at h7
  have hvq := (hR q (List.mem_of_getElem? hqi)).2.2
  refine x_callV (a := bk) (av := [x_i t]) (rest := []) (r := (some (x_r (some ra)))) (h1 := h) dX9_table_5 sX9_tabT_148 hb.1.2 rfl rfl (Nat.le_of_ble_eq_true rfl) ⟨Nat.le_refl _, Nat.le_refl _⟩ (by have k := c_ruleAt G hb t; rw [hs] at k; exact k) ?_
  show x_E _ _ _ _ 8 _ [x_r (some ra)] _
  refine x_astore_n (i := 3) (lv' := [(0, x_r (some ca)), (1, x_i t), (2, x_i k), (3, x_r (some ra))]) dX9_table_8 rfl (by decide) rfl ?_
  refine x_aload_n (i := 3) (o := some ra) dX9_table_9 rfl rfl ?_
  refine x_ifnonnull (o := some ra) (tgt := 17) dX9_table_10 (by decide) (fun _ _ => ?_) (fun c => absurd c (by simp))
  refine x_aload_n (i := 3) (o := some ra) dX9_table_17 rfl rfl ?_
  refine x_iload_n (i := 2) (x := k) dX9_table_18 rfl rfl ?_
  refine x_callV (a := ra) (av := [x_i k]) (rest := []) (r := (some (x_r none))) (h1 := h) dX9_table_19 sX9_tabT_163 hru.1 rfl rfl (Nat.le_of_ble_eq_true rfl) ⟨Nat.le_refl _, Nat.le_refl _⟩ (by have k := c_itemAt G hts hvq hru.1 h7 k; rw [y_is_tn hts hki] at k; exact k) ?_
  show x_E _ _ _ _ 22 _ [x_r none] _
  refine x_astore (i := 4) (lv' := [(0, x_r (some ca)), (1, x_i t), (2, x_i k), (3, x_r (some ra)), (4, x_r none)]) dX9_table_22 (by decide) rfl ?_
  refine x_aload (i := 4) (o := none) dX9_table_24 rfl ?_
  refine x_ifnonnull (o := none) (tgt := 39) dX9_table_26 (by decide) (fun _ c => absurd c (by simp)) (fun _ => ?_)
  show x_E _ _ _ _ 29 _ _ _
  exact x_throwN hGT rfl dX9_table_29 dX9_table_32 dX9_table_33 dX9_table_35 dX9_table_38 (by decide +kernel) (by decide +kernel) (by decide +kernel) List.mem_cons_self (by decide) (by decide) ⟨Nat.le_refl _, Nat.le_refl _⟩
/-- table: an item's kind, or the throw -/
theorem c_tableX {G : x_G} {q0 : Nat} {u0 sen : RefV} (hGT : x_GT G q0 u0 sen) {C : Nat → Int32} {h : x_H} {bk : Nat} {rs : List Nat} {R : List (Nat × Nat)} {es : List Nat} {E : List Int32} (hb : y_bk C h bk rs R es E) (hR : ∀ q ∈ R, v_ru C q) {ca : Nat} (hk : k_P h ca) (hbk : x_fr h 906 ca = some bk) (h60 : R.length ≤ 60) (t k : Int32) : (¬ z_tb C R t k = -1 ∧ x_Call G mX9_tabT h [x_r (some ca), x_i t, x_i k] (some (x_i (z_tb C R t k))) h) ∨ (z_tb C R t k = -1 ∧ x_CallT G mX9_tabT h [x_r (some ca), x_i t, x_i k] (x_sz h) (x_nX h)) := by
  rw [z_tb_c]
  rcases z_ta_rs hb.2.2.2.2.2.2.2.1.1 h60 t with ⟨hs, hn⟩ | ⟨ra, q, h0, hs, hri, hqi⟩
  · refine Or.inr ⟨?_, c_table_n hGT hb hk hbk k hs⟩
    by_cases c : 0 ≤ t
    · rw [if_pos c, hn c]
    · rw [if_neg c]
  · rw [if_pos h0, hqi]
    dsimp only
    rcases hki : z_ta (z_its C q) 0 k with _ | p
    · exact Or.inr ⟨rfl, c_table_m hGT hb hR hk hbk hs hri hqi hki⟩
    · exact Or.inl ⟨z_ik_ne C p, c_table_r G hb hR hk hbk hs hri hqi hki⟩
