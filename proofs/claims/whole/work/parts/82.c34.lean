/-! AN EXCEPTION OF THE PROGRAM'S OWN: made with a text and thrown out of the method -/
/-- the words that the making of an exception of class cls needs (names: the classes over it, up to Throwable) -/
def xt_atoms (own : String) (ic : Nat) (cls : String) (names : List String) : List Cond := Bundle.throwableAtoms ++ (Bundle.throwableSAtoms ++ (Bundle.chainSAtoms cls names ++ [.methodLink own ic (Bundle.initS cls), .instantiable cls 6, .selects cls Bundle.tFill0 Bundle.tFill0, .selects cls Bundle.tFill Bundle.tFill, .lays cls Bundle.tN "cause" "Ljava/lang/Throwable;", .lays cls Bundle.tN "stackTrace" Bundle.steD, .lays cls Bundle.tN "suppressedExceptions" Bundle.listD, .lays cls Bundle.tN "detailMessage" "Ljava/lang/String;", .fieldLink Bundle.tN 198 Bundle.tN "backtrace" "Ljava/lang/Object;", .lays Bundle.tN Bundle.tN "backtrace" "Ljava/lang/Object;", .lays cls Bundle.tN "backtrace" "Ljava/lang/Object;"]))
section XT
variable {p : Program} {l : Launch} {e : Env} {R : Room} {s : State} {m : MethodId} {args : Array Value} {below : List Frame} {meth : Method} {c : Code} {T : State} {locs : List Loc} {cells slots : Nat}
set_option maxHeartbeats 4000000 in
theorem xt_throw (X : Stand p l e R s m args below meth c T locs cells slots) (hexec : p.tables.exec = Jvm.exec) (htr : e.platform.stackTraces = false) {own cls : String} {names : List String} {ic : Nat}
    (hown : s.vm.findClass own = some m.cls) (hcls : Bundle.fit cls = true) (hnames : ∀ n ∈ names, Bundle.fit n = true) (h : ∀ w ∈ xt_atoms own ic cls names, w.before args s = true)
    {A : Nat → Prop} {u0 sen : RefV} (hzU : va_Z Bundle.tN "UNASSIGNED_STACK" Bundle.steD u0.v A s T.heap) (hzS : va_Z Bundle.tN "SUPPRESSED_SENTINEL" Bundle.listD sen.v A s T.heap)
    {a : Addr} {cX : ClassId} {kX : Class} (hfX : s.vm.findClass cls = some cX) (hkX : s.vm.classes[cX]? = some kX) (hcell : T.heap[a]? = some (freshCell cX kX)) (hA : A a)
    {msg : Value} (hmsg : msg.isRef = true) {g : JFrame} (hg : g.method = m) (hsize : g.locals.size = c.maxLocals) (hlocked : g.locked = none) (hentered : g.entered = []) {rest : List Value} (hstack : g.stack = msg :: .ref a :: .ref a :: rest)
    (hd6 : decode c.code g.pc = .ok (.invokespecial ic, 3)) (hd9 : decode c.code (g.pc + 3) = .ok (.athrow, 1)) (hout : ∀ x ∈ c.exceptionTable.toList, covers x (g.pc + 3) = false)
    (hRf : names.length + 3 < R.frames) (hRl : 2 * g.monitorRoom + ((Value.ref a :: rest).map fun v => v.category).sum + (13 * (names.length + 1) + 42) ≤ R.locals) (hlocks : meth.locks = false) :
    ∃ (U : State) (ce : Cell) (L : List Loc), Steps p.tables e below (T.setTop g) U ∧ U.status = .running ∧ Ended U below (.threw a) ∧ s.WarmedH U.vm ∧ s.sameButNew ({ U with vm := s.vm } : State) (locs ++ L) cells slots ∧ (∀ y ∈ L, y.base = a) ∧ U.heap.size = T.heap.size ∧ (∀ q : Nat, q ≠ a → U.heap[q]? = T.heap[q]?) ∧ U.heap[a]? = some ce ∧ ce.cls = cX ∧ ce.vm = .none := by
  have hP : ∀ w, w ∈ Bundle.throwableAtoms → w.before args s = true := fun w hw => h w (List.mem_append_left _ hw)
  have hS : ∀ w, w ∈ Bundle.throwableSAtoms → w.before args s = true := fun w hw => h w (List.mem_append_right _ (List.mem_append_left _ hw))
  have hC : ∀ w, w ∈ Bundle.chainSAtoms cls names → w.before args s = true := fun w hw => h w (List.mem_append_right _ (List.mem_append_right _ (List.mem_append_left _ hw)))
  have hO : ∀ w, w ∈ ([.methodLink own ic (Bundle.initS cls), .instantiable cls 6, .selects cls Bundle.tFill0 Bundle.tFill0, .selects cls Bundle.tFill Bundle.tFill, .lays cls Bundle.tN "cause" "Ljava/lang/Throwable;", .lays cls Bundle.tN "stackTrace" Bundle.steD, .lays cls Bundle.tN "suppressedExceptions" Bundle.listD, .lays cls Bundle.tN "detailMessage" "Ljava/lang/String;", .fieldLink Bundle.tN 198 Bundle.tN "backtrace" "Ljava/lang/Object;", .lays Bundle.tN Bundle.tN "backtrace" "Ljava/lang/Object;", .lays cls Bundle.tN "backtrace" "Ljava/lang/Object;"] : List Cond) → w.holds args s none s [] = true := fun w hw => h w (List.mem_append_right _ (List.mem_append_right _ (List.mem_append_right _ hw)))
  have pl1 : e.platform.frameOwnsMonitors = true := by rw [X.admits.platform]
  have pl2 : e.platform.finalization = false := by rw [X.admits.platform]
  have pl3 : e.platform.magicAccessors = ({} : Platform).magicAccessors := by rw [X.admits.platform]
  obtain ⟨TT, Z0, LT, -, Y⟩ := ThrowableC.of_atoms (args := args) pl1 pl2 pl3 hP
  obtain ⟨Z, M, LZ, LM, hnZ⟩ := Init0T.ofS_atoms (args := args) pl3 LT Y hS
  obtain ⟨P1, Ps, hlen, L1, hL, hP1, hk1, hk2⟩ := Bundle.chainS (args := args) pl3 hnZ names cls hcls hnames hC
  have hf1 : s.vm.findClass cls = some P1.m.cls := findClass_of_methodNamed hP1
  have ecX : cX = P1.m.cls := Option.some.inj (hfX.symm.trans hf1)
  subst ecX
  obtain ⟨c1, k1, q1, hk, hord, -, -, -⟩ := Cond.instantiable_spec (hO (.instantiable cls 6) (by simp))
  have e1 : c1 = P1.m.cls := Option.some.inj (q1.symm.trans hf1)
  subst e1
  have e2 : kX = k1 := Option.some.inj (hkX.symm.trans hk)
  subst e2
  have s0 : selectMethod e.platform s.vm P1.m.cls TT.fill0 = .method TT.fill0 := by
    obtain ⟨c2, r2, m2, y1, y2, y3, y4, -⟩ := Cond.selects_spec (hO (.selects cls Bundle.tFill0 Bundle.tFill0) (by simp))
    have z1 : c2 = P1.m.cls := Option.some.inj (y1.symm.trans hf1)
    have z2 : r2 = TT.fill0 := Option.some.inj (y2.symm.trans (State.methodFound?_of_named Y.fill0 (by decide)))
    have z3 : m2 = TT.fill0 := Option.some.inj (y3.symm.trans Y.fill0)
    subst z1; subst z2; subst z3
    rw [Launch.admits_selectMethod X.admits]
    exact y4
  have s1 : selectMethod e.platform s.vm P1.m.cls TT.fill = .method TT.fill := by
    obtain ⟨c2, r2, m2, y1, y2, y3, y4, -⟩ := Cond.selects_spec (hO (.selects cls Bundle.tFill Bundle.tFill) (by simp))
    have z1 : c2 = P1.m.cls := Option.some.inj (y1.symm.trans hf1)
    have z2 : r2 = TT.fill := Option.some.inj (y2.symm.trans (State.methodFound?_of_named Y.fill (by decide)))
    have z3 : m2 = TT.fill := Option.some.inj (y3.symm.trans Y.fill)
    subst z1; subst z2; subst z3
    rw [Launch.admits_selectMethod X.admits]
    exact y4
  obtain ⟨cf, kf, fi, ff, aS, cS, w1, w2, w3, w4, w5, w6, w7, w8⟩ := hzU
  have v1 := Option.some.inj (w1.symm.trans Y.unassigned)
  injection v1 with v1 v2
  injection v2 with v2 v3
  injection v3 with v3 v4
  subst v1; subst v2; subst v3; subst v4
  have v5 : aS = TT.aS := Option.some.inj (w4.symm.trans LT.statics)
  subst v5
  obtain ⟨cf', kf', fi', ff', aS', cS', x1, x2, x3, x4, x5, x6, x7, x8⟩ := hzS
  have v1 := Option.some.inj (x1.symm.trans Y.sentinel)
  injection v1 with v1 v2
  injection v2 with v2 v3
  injection v3 with v3 v4
  subst v1; subst v2; subst v3; subst v4
  have v5 : aS' = TT.aS := Option.some.inj (x4.symm.trans LT.statics)
  subst v5
  have v6 : cS' = cS := Option.some.inj (x5.symm.trans w5)
  subst v6
  have hkn : cS'.vm ≠ .unknown := fun z => by rw [z] at w6; cases w6
  have hne : TT.aS ≠ a := fun z => w8 (z ▸ hA)
  obtain ⟨ci8, i8, fB, b1, b2, b3, b4, -, b5, b6, b7⟩ := Cond.ownField (t := .object "java/lang/Object") Y.found LT.cls (by decide +kernel) (hO (.fieldLink Bundle.tN 198 Bundle.tN "backtrace" "Ljava/lang/Object;") (by simp)) (hO (.lays Bundle.tN Bundle.tN "backtrace" "Ljava/lang/Object;") (by simp)) e.platform pl3
  obtain ⟨iM, hM⟩ := Y.msg
  obtain ⟨tC, dC, gC, nC⟩ := Cond.laysAt hf1 hk Y.cause (hO (.lays cls Bundle.tN "cause" "Ljava/lang/Throwable;") (by simp))
  obtain ⟨tS, dS, gS, nS⟩ := Cond.laysAt hf1 hk Y.stack (hO (.lays cls Bundle.tN "stackTrace" Bundle.steD) (by simp))
  obtain ⟨tP, dP, gP, nP⟩ := Cond.laysAt hf1 hk Y.supp (hO (.lays cls Bundle.tN "suppressedExceptions" Bundle.listD) (by simp))
  obtain ⟨tM, dM, gM, nM⟩ := Cond.laysAt hf1 hk hM (hO (.lays cls Bundle.tN "detailMessage" "Ljava/lang/String;") (by simp))
  obtain ⟨tB, dB, gB, nB⟩ := Cond.laysAt hf1 hk b7 (hO (.lays cls Bundle.tN "backtrace" "Ljava/lang/Object;") (by simp))
  have o1 := Cond.laysApart gB gC nB nC (by rw [b5, Y.causeName]; decide)
  have o2 := Cond.laysApart gB gS nB nS (by rw [b5, Y.stackName]; decide)
  have o3 := Cond.laysApart gB gP nB nP (by rw [b5, Y.suppName]; decide)
  have hskip : SkipFacts TT e.platform s (fun u => u) u0 ((preparedCellV TT.toThrowableT (freshCell P1.m.cls kX) a u0 sen).withEntry T.cur) := by
    refine ⟨{ ci198 := ci8, i198 := i8, fBack := fB }, ⟨b1, b2, b3, b4⟩, ?_, fun _ _ => rfl⟩
    have k9 := fresh_default (c := P1.m.cls) tB
    rw [b6] at k9
    simpa [preparedCellV, Cell.setSlot, Cell.withEntry, Array.getElem?_setIfInBounds, o1, o2, o3, o1.symm, o2.symm, o3.symm, defaultValue] using k9
  obtain ⟨tm, mC, cC, kC, vm1, r1, -, -, -, -, -, -, -, hW1, st1⟩ := Steps.initColdS (tb := p.tables) (e := e) (below := below) (s := s) (U := T) X.here hexec X.warmed pl3 hown (t := Bundle.initS cls) rfl rfl (Bundle.fit_spec hcls).2
    (hO (.methodLink own ic (Bundle.initS cls)) (by simp)) (hC (.instanceMethod (Bundle.initS cls)) (by cases names <;> simp [Bundle.chainSAtoms, Bundle.passSAtoms])) (bytes := Bundle.six) (maxL := 2) (hC (.code (Bundle.initS cls) Bundle.six 2 none) (by cases names <;> simp [Bundle.chainSAtoms, Bundle.passSAtoms])) (f := g) hg (a := a) (msg := msg) (rest := .ref a :: rest) hstack hd6
  have e3 : tm = P1.m := Option.some.inj (r1.symm.trans hP1)
  subst e3
  have X1 := X.noted hW1
  obtain ⟨vm2, X2, st2⟩ := X1.ctorMessageOffV hexec (g := { g with stack := .ref a :: rest }) hg hsize TT LT Z LZ M LM (P1 :: Ps) (fun P hP => by
      rcases List.mem_cons.mp hP with z | z
      · rw [z]; exact L1
      · exact hL P z) ⟨hk1, hk2⟩ (u0 := u0) (sen := sen) (self := a) hmsg (cell := freshCell P1.m.cls kX) (cellS := cS') hcell (fun _ => by simp) (by simp) rfl rfl s0 s1 w5 hne hkn w7 x7
    (Takes.of_laid hk hord tC (by rw [Y.causeType]; rfl)) (Takes.of_laid hk hord tS (by rw [Y.stackType]; exact fits_refV_array _ u0)) (Takes.of_laid hk hord tP (by rw [Y.suppType]; exact fits_refV_object _ sen)) (Takes.of_laid hk hord tM (by rw [Y.msgType]; exact fits_refV_object _ ⟨msg, hmsg⟩)) Y.objLocals hskip htr [] hd6
    (by simp only [List.length_cons, hlen]; omega) (by simp only [List.length_cons, hlen]; exact hRl)
  obtain ⟨k1', k2', k3', k4', k5'⟩ := X2.athrowLeaves hexec (g := { g with stack := .ref a :: rest, pc := g.pc + 3 }) hg hlocked hentered hout (a := a) (rest := rest) rfl hd9 hlocks
  have hlt : a < ((T.setVm vm1).setVm vm2).heap.size := (Array.getElem?_eq_some_iff.mp hcell).1
  refine ⟨_, plainBareV TT.toThrowableT (freshCell P1.m.cls kX) a u0 sen msg, _, st1 _ (fun acts => by rw [doInvoke_state]; exact st2 _ k1'), k2', k3', k4', k5', fun y hy => ?_, ?_, fun q hq => ?_, ?_, rfl, rfl⟩
  · simp only [List.mem_cons, List.not_mem_nil, or_false] at hy
    rcases hy with rfl | rfl | rfl | rfl | rfl <;> rfl
  · show (((T.setVm vm1).setVm vm2).setCell a _).heap.size = _
    rw [size_setCell]
    rfl
  · show (((T.setVm vm1).setVm vm2).setCell a _).heap[q]? = _
    rw [heapAt_setCell_ne _ (Ne.symm hq)]
    rfl
  · exact heapAt_setCell_self (s := (T.setVm vm1).setVm vm2) _ hlt
end XT
