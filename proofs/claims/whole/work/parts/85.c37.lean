/-! A CALL THAT THROWS, CAUGHT BY THE CALLER'S OWN TABLE -/
def x_DW (G : x_G) (M : x_M) (h0 : x_H) (Q : Option x_V → x_H → Prop) : Room → x_Z → Prop := fun R Z => ∃ r h1, Q r h1 ∧ (x_sz h0 ≤ x_sz h1 ∧ x_us h0 ≤ x_us h1) ∧ R = ({ frames := x_fm M, cells := x_sz h1 - x_sz h0, slots := x_us h1 - x_us h0, locals := x_lo M } : Room) ∧ Z = fun below args s t => x_nm G (x_y M) s args below → MQ below (x_Qc G (r.map x_v) h1) args s (x_sz h1 - x_sz h0) (x_us h1 - x_us h0) (fun q => x_Gb G ≤ q) t
theorem x_E.toW {G : x_G} {M : x_M} {h0 h : x_H} {Q : Option x_V → x_H → Prop} {pc : Nat} {lv : x_L} {st : List x_V} (k : x_E G M (x_D G M h0 Q) h0 pc lv st h) : x_E G M (x_DW G M h0 Q) h0 pc lv st h := by
  obtain ⟨R, Z, ⟨r, h1, a1, a2, a3, a4⟩, g1, g2, g3⟩ := k
  refine ⟨R, _, ⟨r, h1, a1, a2, a3, rfl⟩, g1, g2, fun p e s m args below meth c H ls locs hC hl hH hq T hT X => ?_⟩
  obtain ⟨t, b1, b2⟩ := g3 p e s m args below meth c H ls locs hC hl hH hq T hT X
  rw [a4] at b2
  exact ⟨t, b1, fun _ => b2⟩
/-- a method with a table of its own -/
def x_mwW (M : x_M) (hh : List (Nat × Nat × Nat × Nat)) : Prop := plainName (x_y M).cls = true ∧ (∃ ws', x_ws M = Cond.codeWith (x_y M) (x_cc M) (x_mL M) (x_rt M) hh :: ws') ∧ (x_y M).cls = x_ow M
theorem x_enterW {G : x_G} {M : x_M} {h : x_H} {av : List x_V} {Q : Option x_V → x_H → Prop} {hh : List (Nat × Nat × Nat × Nat)} (hm : x_mwW M hh) (hn : x_nw2 av ≤ x_mL M) (k : x_E G M (x_DW G M h Q) h 0 (x_args 0 av) [] h) : x_Ex G M h av Q := by
  obtain ⟨R, Z, ⟨r, h1, hq, hle, rfl, rfl⟩, g1, g2, g3⟩ := k
  obtain ⟨m1, ⟨ws', m2⟩, m3⟩ := hm
  refine ⟨r, h1, hq, hle, va_MetW (cc := x_cc M) (maxL := x_mL M) (ret := x_rt M) (hh := hh) m1 m2 ?_⟩
  intro p e s m args below meth c s₁ B hml hv
  obtain ⟨rfl, hH, hT⟩ := hv
  have hl := lv_entry (av.map x_v) (n := x_mL M) (by rw [x_nw2_eq]; exact hn)
  rw [lg_entry_eq]
  rw [← x_args_eq] at hl
  have k9 := g3 p e s m (av.map x_v).toArray below meth c s.heap _ [] ⟨B.exec, B.bytes, B.returns, hml, by rw [← m3]; exact findClass_of_methodNamed B.named, atoms_spec (ws := x_ws M) B.pre, B.notSynchronized, hT, (name_of_methodNamed B.named B.method).1⟩ hl hH (fun q h9 => by cases h9)
  rw [Nat.sub_self, Nat.sub_self] at k9
  have hnm : x_nm G (x_y M) s (av.map x_v).toArray below := ⟨fun m' hm' => by
    have := B.frames.symm.trans hm'
    injection this with z1 z2
    injection z1 with z1 z3
    rw [← z1]
    exact B.named, hH.2.2.2⟩
  intro T hT9 X
  obtain ⟨t, b1, b2⟩ := k9 T hT9 X
  exact ⟨t, b1, b2 hnm⟩
/-- the catch's class -/
def x_GC (G : x_G) (own : String) (ct : Nat) : Prop := ∀ U, G.2.2.2.2.2 U → va_Nw (.classLink own ct xt_X) U ∧ va_Nw (.castable xt_X xt_X) U
set_option maxHeartbeats 4000000 in
theorem x_catchV {G : x_G} {M M' : x_M} {h0 h h1 : x_H} {Q : Option x_V → x_H → Prop} {pc idx ci n a x : Nat} {lv : x_L} {st : List x_V} {av rest : List x_V} {pa pb hp ct : Nat} (hmw : x_mwW M [(pa, pb, hp, ct)]) (hGC : x_GC G (x_ow M) ct) (hpa : pa ≤ pc) (hpb : pc < pb) (hct : ct ≠ 0)
    (hd : decode (x_cc M) pc = .ok (.invokevirtual idx, 3)) (hw : x_vw M M' idx ci n) (hk : x_kd h a = ci) (hn : av.length = n) (hst : st = av.reverse ++ x_r (some a) :: rest) (hr : x_nw2 rest ≤ 8) (hle : x_sz h0 ≤ x_sz h ∧ x_us h0 ≤ x_us h) (hc : x_CallT G M' h (x_r (some a) :: av) x h1) (k : x_E G M (x_DW G M h0 Q) h0 hp lv [x_r (some x)] h1) : x_E G M (x_DW G M h0 Q) h0 pc lv st h := by
  obtain ⟨R, Z, ⟨r, h9, a1, a2, a3, a4⟩, g1, g2, g3⟩ := k
  have hg := hc.1
  refine ⟨R, Z, ⟨r, h9, a1, a2, a3, a4⟩, g1, ⟨hle.1, hle.2, by omega, by omega⟩, fun p e s m args below meth c H ls locs hC hl hH hq => ?_⟩
  by_cases hnm : x_nm G (x_y M) s args below
  · intro T hT X
    obtain ⟨C, TT, N, ws', w1, w2, w3, w4, w5, w6⟩ := hw
    have hA := x_at hH w2 hk
    have cw := cwV (R := R) (s := s) (args := args) (mc := x_sz h1 - x_sz h) (ms := x_us h1 - x_us h) (rm := ({ frames := x_fm M', cells := x_sz h1 - x_sz h, slots := x_us h1 - x_us h, locals := x_lo M' } : Room)) n hC.2.2.2.2.2.1 w3 w4 rfl rfl w5 ⟨by rw [g1.1]; exact w6.1, by rw [g1.2]; exact w6.2⟩
    obtain ⟨⟨-, -, c3, c4, c5, c6, c7, c8, c9, c10, c11⟩, c12, c13⟩ := cw
    obtain ⟨cB, hcB, hoB, hclB⟩ := va_recv hC.2.2.2.2.2.2.2.1.1 (x_P1 hA) (ci := ci) (q0 := 0) w1 rfl
    obtain ⟨mk, mM, n1, n2, n3, n4⟩ := Cond.instanceMethod_spec c12
    obtain ⟨mM', cM, n5, n6, -, n7, -, -, -, n8⟩ := Cond.code_spec n1 c7
    have e1 : mM = mM' := Option.some.inj (n2.symm.trans n5)
    subst e1
    obtain ⟨y2, yr, ym, y3, y4, y5, y6, kP, y7, y8⟩ := Cond.selects_spec c13
    have e2 : cB.cls = y2 := Option.some.inj (hclB.symm.trans y3)
    have e3 : mk = yr := Option.some.inj ((State.methodFound?_of_named n1 c9).symm.trans y4)
    have e4 : mk = ym := Option.some.inj (n1.symm.trans y5)
    subst e3; subst e4
    have hsel : selectMethod e.platform s.vm cB.cls mk = .method mk := by rw [Launch.admits_selectMethod X.admits, e2]; exact y6
    have hst2 : (F0 m pc ls (st.map x_v)).stack = (av.map x_v).reverse ++ .ref a :: rest.map x_v := by
      show st.map x_v = _
      rw [hst]
      simp [x_v, va_rf]
    have hda : ∀ g : JFrame, g.pc = pc → decode c.code g.pc = .ok (.invokevirtual idx, 3) := fun g hg => by rw [hg, hC.2.1]; exact hd
    obtain ⟨vm1, X1, hs1⟩ := X.invokevirtual hC.1 hC.2.2.2.2.1 c11 n1 n2 n3 y7 y8 c9 (a := a) (cell := cB) (by rw [hT]; exact hcB) (fun z h => by rw [h] at hoB; cases hoB) hsel n2 n4 y7 y8 (g := F0 m pc ls (st.map x_v)) rfl (argsL := av.map x_v) (rest := rest.map x_v) (by rw [List.length_map, hn]; exact c10 _ n8) hst2 (hda _ rfl)
    have h8 : At (T.setVm vm1) m c below := X1.here
    obtain ⟨kY, hkY, -⟩ := className_of_methodNamed (X1.named n1)
    have hW1 := X1.warmed
    have hini : kY.init = .initialized := Cond.initialized_spec (args := args) (s := T.setVm vm1) (findClass_of_methodNamed (X1.named n1)) hkY (va_tabs rfl rfl (Cond.onTables_warm (args' := args) (T := T) hW1 rfl rfl c8))
    obtain ⟨mY, cY, q1, q2, -, q3, -⟩ := Cond.code_spec (X1.named n1) (c5 _ c6 args (T.setVm vm1) hW1)
    have happ : (headSpec (x_ws M') ({ frames := x_fm M', cells := x_sz h1 - x_sz h, slots := x_us h1 - x_us h, locals := x_lo M' } : Room)).appliesLoose (x_y M') e.platform ((T.setVm vm1).calling (F0 m pc ls (rest.map x_v)) mk (Value.ref a :: av.map x_v).toArray) = true :=
      Spec.appliesLoose_calling (g := F0 m pc ls (rest.map x_v)) h8 (hda _ rfl) (X1.named n1) hkY hini
        (X1.room_calling (g := F0 m pc ls (rest.map x_v)) (R' := ({ frames := x_fm M', cells := x_sz h1 - x_sz h, slots := x_us h1 - x_us h, locals := x_lo M' } : Room)) (hl.1.trans hC.2.2.2.1.symm) q1 q2 (by rw [g1.1]; exact w6.1) (by
          rw [q3, g1.2]
          have l8 := lv_room (m := m) (pc := pc) (ls := ls) (rest := rest.map x_v) (by rw [x_cat_eq]; exact hr)
          have l9 := w6.2
          refine Nat.le_trans ?_ l9
          exact Nat.add_le_add_right (Nat.add_le_add_right l8 _) _) (by show _ + (x_sz h1 - x_sz h) ≤ R.cells; omega) (by show _ + (x_us h1 - x_us h) ≤ R.slots; omega)) (atoms_intro fun w hw => c5 w hw _ _ hW1)
    obtain ⟨mid, hmid⟩ := h8.above
    have hfr : ((T.setVm vm1).setTop (F0 m pc ls (rest.map x_v))).frames = (.java (F0 m pc ls (rest.map x_v)) :: mid) ++ below := by rw [State.frames_setTop' _ h8.top, hmid]; rfl
    obtain ⟨oc, s2, b1, -, b2, b3⟩ := Steps.callFree hc.2 p X1.admits X1.cas X1.clock (acts := []) hfr happ (x_Pc.blind _ _ _ _ ⟨by simp [x_v, va_rf], by show x_HR G h T.heap; rw [hT]; exact hH, hC.2.2.2.2.2.2.2.1.warm hW1⟩) trivial
    obtain ⟨rfl, b4, b5, ⟨ce, b6, b7, b8⟩, L, b9, b10⟩ := b3
    rw [State.frames_setTop' _ h8.top, show (T.setVm vm1).frames.tail = below from X1.tail] at b2
    obtain ⟨T2, X2, -, -, d1⟩ := X1.outOfThrown (g := F0 m pc ls (rest.map x_v)) rfl (mk := mk) (a := (Value.ref a :: av.map x_v).toArray) b2 b5 b9
    have d2 : T2.heap = s2.heap := by rw [d1]; rfl
    obtain ⟨m1, ⟨wsM, m2⟩, m3⟩ := hmw
    obtain ⟨mo, mt, cd, t1, t2, t3, -, -, t4, -⟩ := Cond.codeWith_spec (hC.2.2.2.2.2.1 (Cond.codeWith (x_y M) (x_cc M) (x_mL M) (x_rt M) [(pa, pb, hp, ct)]) (by rw [m2]; exact List.mem_cons_self))
    have e5 : mo = m := Option.some.inj (t1.symm.trans (hnm.1 m X.frames))
    subst e5
    have e6 : mt = meth := Option.some.inj (t2.symm.trans X.method)
    subst e6
    have e7 : cd = c := Option.some.inj (t3.symm.trans X.code)
    subst e7
    obtain ⟨ent, hent, e8⟩ : ∃ ent : ExceptionTableEntry, cd.exceptionTable.toList = [ent] ∧ (ent.startPc, ent.endPc, ent.handlerPc, ent.catchType) = (pa, pb, hp, ct) := by
      cases hl0 : cd.exceptionTable.toList with
      | nil => rw [hl0] at t4; cases t4
      | cons y ys =>
        rw [hl0] at t4
        cases ys with
        | nil => exact ⟨y, rfl, (List.cons.inj t4).1⟩
        | cons z zs => cases (List.cons.inj t4).2
    injection e8 with f1 f2
    injection f2 with f2 f3
    injection f3 with f3 f4
    have hcov : covers ent pc = true := by
      simp only [covers, f1, f2]
      simp [hpa, hpb]
    have hGs := hGC s hC.2.2.2.2.2.2.2.1.2.1
    obtain ⟨dA, dB, p1, p2, p3⟩ := Cond.castable_spec (va_Nw.use (A := args) rfl hGs.2)
    have e9 : dA = dB := Option.some.inj (p1.symm.trans p2)
    subst e9
    have b7' : s.vm.findClass xt_X = some ce.cls := by
      have hal := hW1.alike
      have b7 : (T.setVm vm1).vm.findClass xt_X = some ce.cls := b7
      rw [hal.findClass] at b7
      exact b7
    have e10 : ce.cls = dA := Option.some.inj (b7'.symm.trans p1)
    obtain ⟨vm3, X3, st3⟩ := xc_catch X2 x (g := F0 mo pc ls (rest.map x_v)) rfl (own := x_ow M) (name := xt_X) hC.2.2.2.2.1 hent hcov (by rw [f4]; exact hct) (by rw [f4]; exact va_Nw.use (A := args) rfl hGs.1) p1 (by rw [d2]; exact b6) (by rw [b8]; rfl) (by rw [e10]; exact p3)
    have hloc : ∀ q ∈ locs ++ L, x_Gb G ≤ q.base := fun q h7 => (List.mem_append.mp h7).elim (hq q) (b10 q)
    have k9 := g3 p e s mo args below mt cd s2.heap ls (locs ++ L) hC hl b4 hloc (T2.setVm vm3) (by show T2.heap = _; exact d2) (by
      rw [show x_sz h1 - x_sz h0 = x_sz h - x_sz h0 + (x_sz h1 - x_sz h) by omega, show x_us h1 - x_us h0 = x_us h - x_us h0 + (x_us h1 - x_us h) by omega]
      exact X3)
    obtain ⟨t, i1, i2⟩ := k9
    refine ⟨t, hs1 _ fun acts => ?_, i2⟩
    rw [doInvoke_state]
    refine b1.trans ?_
    rw [d1]
    refine st3 t ?_
    rw [f3]
    exact i1
  · intro T hT X
    refine ⟨_, Steps.refl _, ?_⟩
    rw [a4]
    exact fun z => absurd z hnm
abbrev mL_table : x_M := (yL_table, cL_table, 5, (some .int), wsL_table, 8, 130, RL)
theorem mwL_table : x_mwW mL_table [(0, 10, 13, 13)] := ⟨by decide +kernel, ⟨_, rfl⟩, rfl⟩
theorem sL_table_7 : x_vw mL_table mX9_tabT 7 9 2 := ⟨RX9, TX9, 7, _, rfl, by decide, gL_table_X9_table, rfl, by decide +kernel, by decide⟩
set_option maxHeartbeats 4000000 in
set_option maxRecDepth 100000 in
theorem c_L_table {G : x_G} {q0 : Nat} {u0 sen : RefV} (hGT : x_GT G q0 u0 sen) (hGC : x_GC G RL 13) {C : Nat → Int32} {h : x_H} {bk : Nat} {rs : List Nat} {R : List (Nat × Nat)} {es : List Nat} {E : List Int32} (hb : y_bk C h bk rs R es E) (hR : ∀ q ∈ R, v_ru C q) {ca : Nat} (hk : k_P h ca) (hbk : x_fr h 906 ca = some bk) (h60 : R.length ≤ 60) {la : Nat} (hla : x_kd h la = 23) (hl1 : x_ln h la = 1) (t k : Int32) : x_Ex G mL_table h [x_r (some ca), x_i t, x_i k, x_r (some la)] (fun r h2 => (¬ z_tb C R t k = -1 ∧ r = some (x_i 0) ∧ h2 = x_sJ h la 0 (Int32.toInt64 (z_tb C R t k))) ∨ (z_tb C R t k = -1 ∧ r = some (x_i 1) ∧ h2 = x_nX h)) := by
  refine x_enterW mwL_table (Nat.le_of_ble_eq_true rfl) ?_
  show x_E _ _ _ _ _ [(0, x_r (some ca)), (1, x_i t), (2, x_i k), (3, x_r (some la))] _ _
  rcases c_tableX hGT hb hR hk hbk h60 t k with ⟨hz, hc⟩ | ⟨hz, hc⟩
  · refine x_E.toW ?_
    refine x_aload_n (i := 3) (o := some la) dL_table_0 rfl rfl ?_
    refine x_iconst (v := 0) dL_table_1 (by decide) ?_
    refine x_aload_n (i := 0) (o := some ca) dL_table_2 rfl rfl ?_
    refine x_iload_n (i := 1) (x := t) dL_table_3 rfl rfl ?_
    refine x_iload_n (i := 2) (x := k) dL_table_4 rfl rfl ?_
    refine x_callV (a := ca) (av := [x_i t, x_i k]) (rest := [x_i 0, x_r (some la)]) (r := (some (x_i (z_tb C R t k)))) (h1 := h) dL_table_5 sL_table_7 hk.1 rfl rfl (Nat.le_of_ble_eq_true rfl) ⟨Nat.le_refl _, Nat.le_refl _⟩ (hc) ?_
    show x_E _ _ _ _ 8 _ [x_i (z_tb C R t k), x_i 0, x_r (some la)] _
    refine x_i2l dL_table_8 ?_
    refine x_lastoreN (n := 0) dL_table_9 hla (rfl) (by rw [hl1]; decide) (by rw [hl1]; decide) ?_
    refine x_goto (tgt := 17) dL_table_10 (by decide) ?_
    refine x_iconst (v := 0) dL_table_17 (by decide) ?_
    refine x_ireturn dL_table_18 rfl (rfl) ⟨Nat.le_refl _, Nat.le_refl _⟩ ?_
    exact Or.inl ⟨hz, rfl, rfl⟩
  · skip
    refine x_aload_n (i := 3) (o := some la) dL_table_0 rfl rfl ?_
    refine x_iconst (v := 0) dL_table_1 (by decide) ?_
    refine x_aload_n (i := 0) (o := some ca) dL_table_2 rfl rfl ?_
    refine x_iload_n (i := 1) (x := t) dL_table_3 rfl rfl ?_
    refine x_iload_n (i := 2) (x := k) dL_table_4 rfl rfl ?_
    show x_E _ _ _ _ 5 _ _ _
    refine x_catchV (x := x_sz h) (h1 := x_nX h) (a := ca) (av := [x_i t, x_i k]) (rest := [x_i 0, x_r (some la)]) mwL_table hGC (by decide) (by decide) (by decide) dL_table_5 sL_table_7 hk.1 rfl rfl (Nat.le_of_ble_eq_true rfl) ⟨Nat.le_refl _, Nat.le_refl _⟩ hc ?_
    refine x_E.toW ?_
    refine x_astore (i := 4) (lv' := [(0, x_r (some ca)), (1, x_i t), (2, x_i k), (3, x_r (some la)), (4, x_r (some (x_sz h)))]) dL_table_13 (by decide) rfl ?_
    refine x_iconst (v := 1) dL_table_15 (by decide) ?_
    refine x_ireturn dL_table_16 rfl (rfl) ⟨Nat.le_succ _, Nat.le_add_right _ _⟩ ?_
    exact Or.inr ⟨hz, rfl, rfl⟩
