/-! CAUGHT IN THE METHOD'S OWN FRAME: a table of one row -/
section XC
variable {p : Program} {l : Launch} {e : Env} {R : Room} {s : State} {m : MethodId} {args : Array Value} {below : List Frame} {meth : Method} {c : Code} {T : State} {locs : List Loc} {cells slots : Nat}
set_option maxHeartbeats 4000000 in
theorem xc_find {u : State} {f : JFrame} {a : Addr} {mt : Method} {cd : Code} (hm : u.vm.method? f.method = some mt) (hc : mt.code = some cd) {x : ExceptionTableEntry} (hx : cd.exceptionTable.toList = [x]) (hv : covers x f.pc = true) (h0 : x.catchType ≠ 0) {d : ClassId} {cell : Cell}
    (hl : u.vm.ClassLinks e.platform f.method.cls x.catchType d) (hcell : u.heap[a]? = some cell) (hobj : ∀ k, cell.vm ≠ .statics k) (hk : ∃ k, u.vm.classes[cell.cls]? = some k) (hd : ∃ k, u.vm.classes[d]? = some k) (hfit : u.vm.assignable cell.cls d = true)
    (Q : Handler → Pre) (E : CtlPost) (b : Bool) (acts : List Action) : wp (findHandler f a) Q E e b acts u ↔ Q (.found x.handlerPc) b acts (u.setVm (u.vm.noted f.method.cls x.catchType (.cls d))) := by
  have hal : u.vm.Alike (u.vm.noted f.method.cls x.catchType (.cls d)) := (Vm.Alike.refl u.vm).noted _ _ _
  obtain ⟨g1, g2⟩ := (resolveClass_links e.toSetting hl).op (op := VmOp.resolveClass f.method.cls x.catchType) rfl
  obtain ⟨k1, hk1⟩ := hk
  obtain ⟨k2, hk2⟩ := hd
  obtain ⟨k3, hk3, -⟩ := hal.2.2 _ _ hk1
  obtain ⟨k4, hk4, -⟩ := hal.2.2 _ _ hk2
  have hf2 : (u.vm.noted f.method.cls x.catchType (.cls d)).assignable cell.cls d = true := by rw [hal.assignable]; exact hfit
  rw [W.findHandler_eq hm hc, hx]
  simp only [covers] at hv
  simp [findHandler.go, hv, h0, g1, g2, hcell, hobj, hk3, hk4, hf2, VmOp.dirties, VmOp.acts]
set_option maxHeartbeats 4000000 in
theorem xc_catch (X : Stand p l e R s m args below meth c T locs cells slots) (a : Addr) {g : JFrame} (hg : g.method = m) {own name : String} (hown : s.vm.findClass own = some m.cls) {x : ExceptionTableEntry} (hx : c.exceptionTable.toList = [x]) (hv : covers x g.pc = true) (h0 : x.catchType ≠ 0)
    (hlink : (Cond.classLink own x.catchType name).before args s = true) {d : ClassId} {cell : Cell} (hd : s.vm.findClass name = some d) (hcell : T.heap[a]? = some cell) (hobj : cell.vm.isStatics = false) (hfit : s.vm.assignable cell.cls d = true) :
    ∃ vm', Stand p l e R s m args below meth c (T.setVm vm') locs cells slots ∧ ∀ t, Steps p.tables e below ((T.setVm vm').setTop { g with pc := x.handlerPc, stack := [.ref a] }) t → Steps p.tables e below ((T.setTop g).pushFrame (.throwing a)) t := by
  have pl3 : e.platform.magicAccessors = ({} : Platform).magicAccessors := by rw [X.admits.platform]
  obtain ⟨d', hd', hcl⟩ := Cond.classLink_spec hown hlink e.platform pl3
  have ed : d' = d := Option.some.inj (hd'.symm.trans hd)
  subst ed
  obtain ⟨dk, _, _, kt, h5, _, _, _, _, hkt, _, h6⟩ := hcl.here
  have hcl2 := X.warmed.classLinks hcl
  have hW : s.WarmedH (T.vm.noted m.cls x.catchType (.cls d')) := X.warmed.noted h5 h6 (State.rightAt_cls hcl)
  have hal := X.warmed.alike
  obtain ⟨kt2, hkt2, -⟩ := hal.2.2 _ _ hkt
  have hf2 : T.vm.assignable cell.cls d' = true := by rw [hal.assignable]; exact hfit
  refine ⟨_, X.noted hW, fun t ht => ?_⟩
  subst hg
  have hF := xc_find (e := e) (u := (T.setTop g).pushFrame (.throwing a)) (f := g) (a := a) (mt := meth) (cd := c) X.method' X.code hx hv h0 hcl2 hcell (VmData.ne_statics_of hobj) (Vm.classAt_of_assignable hf2 ⟨kt2, hkt2⟩) ⟨kt2, hkt2⟩ hf2
  obtain ⟨q1, q2⟩ := X.here.throwing a
  refine Steps.head q1 q2 ?_
  have hst : (stepThrowing e ((T.setTop g).pushFrame (.throwing a)) a (.java g :: T.frames.tail)).Is ((((T.setTop g).pushFrame (.throwing a)).setVm (T.vm.noted g.method.cls x.catchType (.cls d'))).setFrames (.java { g with pc := x.handlerPc, stack := [.ref a] } :: T.frames.tail)) [] := by
    simp only [stepThrowing, searchFrame, vmDo]
    generalize hr : Sem.go _ e false [] ((T.setTop g).pushFrame (.throwing a)) = res
    obtain ⟨as, rfl, ha⟩ := Sem.eq_ok_of hr (a := Handler.found x.handlerPc) (s' := ((T.setTop g).pushFrame (.throwing a)).setVm (T.vm.noted g.method.cls x.catchType (.cls d'))) (acts' := []) (by simp [hF _ _ _ _]; rfl)
    exact ⟨rfl, ha⟩
  rw [stepThread_throwing (frames_entered X.here.top _), hst.1]
  obtain ⟨g0, hg0⟩ := Option.isSome_iff_exists.mp X.here.top
  obtain ⟨r, hr⟩ := State.topJava?_eq_some.mp hg0
  have hr2 : (T.setVm (T.vm.noted g.method.cls x.catchType (.cls d'))).frames = .java g0 :: r := hr
  rw [State.setTop_of_frames _ hr2] at ht
  have e9 : ((((T.setTop g).pushFrame (.throwing a)).setVm (T.vm.noted g.method.cls x.catchType (.cls d'))).setFrames (.java { g with pc := x.handlerPc, stack := [.ref a] } :: T.frames.tail)) = (T.setVm (T.vm.noted g.method.cls x.catchType (.cls d'))).setFrames (.java { g with pc := x.handlerPc, stack := [.ref a] } :: r) := by
    rw [hr, List.tail_cons, State.pushFrame, State.setTop_of_frames _ hr]
    show (((T.setFrames _).setFrames _).setVm _).setFrames _ = _
    rw [State.setFrames_setFrames]
    show ((T.setVm _).setFrames _).setFrames _ = _
    rw [State.setFrames_setFrames]
    rfl
  rw [e9]
  exact ht
end XC
