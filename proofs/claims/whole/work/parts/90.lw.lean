/-! THE LAW: its words, and three more rules -/
abbrev mL_law : x_M := (yL_law, cL_law, 7, (some .boolean), wsL_law, 11, 416, RL)
theorem sL_law_19 : x_vw mL_law mX9_unit 19 9 1 := ⟨RX9, TX9, 7, _, rfl, by decide, gL_law_X9_unit, rfl, by decide +kernel, by decide⟩
theorem sL_law_23 : x_vw mL_law mX10_unit 23 10 1 := ⟨RX10, TX10, 29, _, rfl, by decide, gL_law_X10_unit, rfl, by decide +kernel, by decide⟩
theorem sL_law_24 : x_vw mL_law mX9_read 24 9 0 := ⟨RX9, TX9, 7, _, rfl, by decide, gL_law_X9_read, rfl, by decide +kernel, by decide⟩
theorem sL_law_28 : x_vw mL_law mX10_read 28 10 0 := ⟨RX10, TX10, 29, _, rfl, by decide, gL_law_X10_read, rfl, by decide +kernel, by decide⟩
theorem sL_law_31 : x_vw mL_law mX9_edition 31 9 1 := ⟨RX9, TX9, 7, _, rfl, by decide, gL_law_X9_edition, rfl, by decide +kernel, by decide⟩
theorem sL_law_35 : x_vw mL_law mX10_edition 35 10 1 := ⟨RX10, TX10, 29, _, rfl, by decide, gL_law_X10_edition, rfl, by decide +kernel, by decide⟩
theorem sL_law_36 : x_vw mL_law mX9_part 36 9 3 := ⟨RX9, TX9, 7, _, rfl, by decide, gL_law_X9_part, rfl, by decide +kernel, by decide⟩
theorem sL_law_40 : x_vw mL_law mX10_part 40 10 3 := ⟨RX10, TX10, 29, _, rfl, by decide, gL_law_X10_part, rfl, by decide +kernel, by decide⟩
theorem sL_law_41 : x_vw mL_law mX9_test 41 9 2 := ⟨RX9, TX9, 7, _, rfl, by decide, gL_law_X9_test, rfl, by decide +kernel, by decide⟩
theorem sL_law_45 : x_vw mL_law mX10_test 45 10 2 := ⟨RX10, TX10, 29, _, rfl, by decide, gL_law_X10_test, rfl, by decide +kernel, by decide⟩
theorem sL_law_46 : x_vw mL_law mX9_clearParts 46 9 0 := ⟨RX9, TX9, 7, _, rfl, by decide, gL_law_X9_clearParts, rfl, by decide +kernel, by decide⟩
theorem sL_law_49 : x_vw mL_law mX10_clearParts 49 10 0 := ⟨RX10, TX10, 29, _, rfl, by decide, gL_law_X10_clearParts, rfl, by decide +kernel, by decide⟩
theorem sL_law_50 : x_vw mL_law mX9_way 50 9 1 := ⟨RX9, TX9, 7, _, rfl, by decide, gL_law_X9_way, rfl, by decide +kernel, by decide⟩
theorem sL_law_54 : x_vw mL_law mX10_way 54 10 1 := ⟨RX10, TX10, 29, _, rfl, by decide, gL_law_X10_way, rfl, by decide +kernel, by decide⟩
theorem sL_law_55 : x_vw mL_law mX9_run 55 9 1 := ⟨RX9, TX9, 7, _, rfl, by decide, gL_law_X9_run, rfl, by decide +kernel, by decide⟩
theorem sL_law_58 : x_vw mL_law mX10_run 58 10 1 := ⟨RX10, TX10, 29, _, rfl, by decide, gL_law_X10_run, rfl, by decide +kernel, by decide⟩
theorem sL_law_59 : x_vw mL_law mX9_walk 59 9 1 := ⟨RX9, TX9, 7, _, rfl, by decide, gL_law_X9_walk, rfl, by decide +kernel, by decide⟩
theorem sL_law_62 : x_vw mL_law mX10_walk 62 10 1 := ⟨RX10, TX10, 29, _, rfl, by decide, gL_law_X10_walk, rfl, by decide +kernel, by decide⟩
theorem sL_law_63 : x_vw mL_law mX9_cls 63 9 1 := ⟨RX9, TX9, 7, _, rfl, by decide, gL_law_X9_cls, rfl, by decide +kernel, by decide⟩
theorem sL_law_67 : x_vw mL_law mX10_cls 67 10 1 := ⟨RX10, TX10, 29, _, rfl, by decide, gL_law_X10_cls, rfl, by decide +kernel, by decide⟩
theorem sL_law_68 : x_vw mL_law mX9_mark 68 9 1 := ⟨RX9, TX9, 7, _, rfl, by decide, gL_law_X9_mark, rfl, by decide +kernel, by decide⟩
theorem sL_law_71 : x_vw mL_law mX10_mark 71 10 1 := ⟨RX10, TX10, 29, _, rfl, by decide, gL_law_X10_mark, rfl, by decide +kernel, by decide⟩
theorem sL_law_72 : x_vw mL_law mX9_moving 72 9 0 := ⟨RX9, TX9, 7, _, rfl, by decide, gL_law_X9_moving, rfl, by decide +kernel, by decide⟩
theorem sL_law_75 : x_vw mL_law mX10_moving 75 10 0 := ⟨RX10, TX10, 29, _, rfl, by decide, gL_law_X10_moving, rfl, by decide +kernel, by decide⟩
theorem sL_law_76 : x_vw mL_law mX9_open 76 9 2 := ⟨RX9, TX9, 7, _, rfl, by decide, gL_law_X9_open, rfl, by decide +kernel, by decide⟩
theorem sL_law_79 : x_vw mL_law mX10_open 79 10 2 := ⟨RX10, TX10, 29, _, rfl, by decide, gL_law_X10_open, rfl, by decide +kernel, by decide⟩
theorem sL_law_80 : x_vw mL_law mX9_missing 80 9 1 := ⟨RX9, TX9, 7, _, rfl, by decide, gL_law_X9_missing, rfl, by decide +kernel, by decide⟩
theorem sL_law_83 : x_vw mL_law mX10_missing 83 10 1 := ⟨RX10, TX10, 29, _, rfl, by decide, gL_law_X10_missing, rfl, by decide +kernel, by decide⟩
theorem sL_law_84 : x_vw mL_law mX9_explain 84 9 3 := ⟨RX9, TX9, 7, _, rfl, by decide, gL_law_X9_explain, rfl, by decide +kernel, by decide⟩
theorem sL_law_88 : x_vw mL_law mX10_explain 88 10 3 := ⟨RX10, TX10, 29, _, rfl, by decide, gL_law_X10_explain, rfl, by decide +kernel, by decide⟩
theorem sL_law_89 : x_vw mL_law mX9_limit 89 9 1 := ⟨RX9, TX9, 7, _, rfl, by decide, gL_law_X9_limit, rfl, by decide +kernel, by decide⟩
theorem sL_law_93 : x_vw mL_law mX10_limit 93 10 1 := ⟨RX10, TX10, 29, _, rfl, by decide, gL_law_X10_limit, rfl, by decide +kernel, by decide⟩
theorem sL_law_94 : x_vw mL_law mX9_sum 94 9 3 := ⟨RX9, TX9, 7, _, rfl, by decide, gL_law_X9_sum, rfl, by decide +kernel, by decide⟩
theorem sL_law_98 : x_vw mL_law mX10_sum 98 10 3 := ⟨RX10, TX10, 29, _, rfl, by decide, gL_law_X10_sum, rfl, by decide +kernel, by decide⟩
theorem sL_law_104 : x_vw mL_law mX10_table 104 10 2 := ⟨RX10, TX10, 29, _, rfl, by decide, gL_law_X10_table, rfl, by decide +kernel, by decide⟩
theorem sL_law_105 : x_vw mL_law mX10_thrown 105 10 0 := ⟨RX10, TX10, 29, _, rfl, by decide, gL_law_X10_thrown, rfl, by decide +kernel, by decide⟩
theorem sL_law_108 : x_vw mL_law mX9_write 108 9 1 := ⟨RX9, TX9, 7, _, rfl, by decide, gL_law_X9_write, rfl, by decide +kernel, by decide⟩
theorem sL_law_111 : x_vw mL_law mX10_write 111 10 1 := ⟨RX10, TX10, 29, _, rfl, by decide, gL_law_X10_write, rfl, by decide +kernel, by decide⟩
theorem sL_law_15 : x_iw mL_law mX9_init 15 0 := ⟨_, gL_law_X9_init, rfl, by decide +kernel, by decide +kernel, by decide +kernel, rfl, by decide +kernel, by decide⟩
theorem sL_law_18 : x_iw mL_law mX10_init 18 0 := ⟨_, gL_law_X10_init, rfl, by decide +kernel, by decide +kernel, by decide +kernel, rfl, by decide +kernel, by decide⟩
theorem iL_law_X9 : ∀ w ∈ wsX90, w ∈ wsL_law := fun _ h => List.mem_append_left _ (List.mem_append_left _ (List.mem_append_left _ (List.mem_append_left _ (List.mem_append_left _ (List.mem_append_left _ (List.mem_append_left _ (List.mem_append_left _ (List.mem_append_left _ (List.mem_append_left _ (List.mem_append_left _ (List.mem_append_right _ h)))))))))))
theorem iL_law_X10 : ∀ w ∈ wsX100, w ∈ wsL_law := fun _ h => List.mem_append_left _ (List.mem_append_left _ (List.mem_append_left _ (List.mem_append_left _ (List.mem_append_left _ (List.mem_append_left _ (List.mem_append_left _ (List.mem_append_left _ (List.mem_append_left _ (List.mem_append_left _ (List.mem_append_right _ h))))))))))
theorem nL_law_8 : x_nw mL_law 9 8 RX9 TX9 7 := ⟨rfl, by decide, rfl, iL_law_X9, by decide +kernel, by decide +kernel, by decide +kernel, tyX9, tyX9_ok, by decide +kernel⟩
theorem nL_law_16 : x_nw mL_law 10 16 RX10 TX10 29 := ⟨rfl, by decide, rfl, iL_law_X10, by decide +kernel, by decide +kernel, by decide +kernel, tyX10, tyX10_ok, by decide +kernel⟩
theorem aL_law_long : Cond.arrayClass .long ∈ x_ws mL_law := by decide +kernel
theorem kL_law_29 : Cond.constantLong (x_ow mL_law) 29 4294967295 ∈ x_ws mL_law := by decide +kernel
/-- the script -/
theorem x_iaX {G : x_G} {M : x_M} {D : Room → x_Z → Prop} {h0 h : x_H} {pc : Nat} {lv : x_L} {st : List x_V} {v : Int32} {N t n : Nat} {f : Nat → Value} {i : Int32} (hd : decode (x_cc M) pc = .ok (.iaload, 1)) (hZ : ∀ U, G.2.2.2.2.2 U → va_T .int t N f (x_A G) U G.2.2.2.2.1) (hi : i = nI n) (hn : n < N) (hN : N < 2 ^ 31) (hv : f n = .int v) (k : x_E G M D h0 (pc + 1) lv (x_i v :: st) h) : x_E G M D h0 pc lv (x_i i :: x_r (some t) :: st) h := by
  subst hi
  exact x_lift (fun p e R s m args below meth c H ls locs cells slots Q hC hl hH kk => by
    obtain ⟨cell, h1, h2, h3, h4, h5, h6, h7⟩ := (hZ s hC.2.2.2.2.2.2.2.1.2.1).kept hH.kp
    have hin : ¬ (nI n < 0 ∨ cell.slots.size ≤ (nI n).toNatClampNeg) := by
      rw [nI_clamp (by omega)]
      intro q
      rcases q with q | q
      · exact nI_pos (by omega) q
      · omega
    exact W.iald (v := .int v) hC.1 hC.2.1 h1 h2 h3 hin (by rw [nI_clamp (by omega), h6 _ hn, hv]) rfl rfl hd (kk ls hl)) k
/-- a static call of a method with a table of its own -/
def x_twW (M M' : x_M) (idx n : Nat) (hh : List (Nat × Nat × Nat × Nat)) : Prop := ∃ ws' : List Cond, GoodIn (x_ws M) (va_wsS (x_ow M) idx (x_y M') (x_ws M')) ∧ x_ws M' = Cond.codeWith (x_y M') (x_cc M') (x_mL M') (x_rt M') hh :: ws' ∧ ((x_y M').cls ≠ "java/lang/invoke/MethodHandle" ∧ (x_y M').cls ≠ "java/lang/invoke/VarHandle" ∧ (parseMethodDescriptor (x_y M').desc).map (fun d => d.parameters.length) = some n) ∧ (x_fm M' + 1 ≤ x_fm M ∧ 8 + (x_mL M' + 11) + x_lo M' ≤ x_lo M)
theorem x_callSW {G : x_G} {M : x_M} {D : Room → x_Z → Prop} {h0 h : x_H} {pc : Nat} {lv : x_L} {st : List x_V} {M' : x_M} {idx n : Nat} {hh : List (Nat × Nat × Nat × Nat)} {av rest : List x_V} {r : Option x_V} {h1 : x_H} (hd : decode (x_cc M) pc = .ok (.invokestatic idx, 3)) (hw : x_twW M M' idx n hh) (hn : av.length = n) (hst : st = av.reverse ++ rest) (hr : x_nw2 rest ≤ 8) (hle : x_sz h0 ≤ x_sz h ∧ x_us h0 ≤ x_us h) (hc : x_Call G M' h av r h1) (k : x_E G M D h0 (pc + 3) lv (r.toList ++ rest) h1) : x_E G M D h0 pc lv st h :=
  x_liftC hc (fun p e R s m args below meth c H ls locs cells slots hR hC hl hH hf => by
    obtain ⟨ws', w3, w4, w5, w6⟩ := hw
    have hts := hC.2.2.2.2.2.1
    have ok : ∀ w ∈ va_wsS (x_ow M) idx (x_y M') (x_ws M'), w.before args s = true := fun w h => hts w (w3 w h).1
    have hcw : Cond.codeWith (x_y M') (x_cc M') (x_mL M') (x_rt M') hh ∈ x_ws M' := by rw [w4]; exact List.mem_cons_self
    have hG : GoodIn (x_ws M) (x_ws M') := fun w h => w3 w (by unfold va_wsS; exact List.mem_append_right _ h)
    have hpay := pay_in hts hG
    have hpay2 := pay_in hts w3
    have hK : Back G.1 R p e below s args (x_y M') 3 8 (PreOf R (x_sz h1 - x_sz h) (x_us h1 - x_us h) (x_Pc G (av.map x_v) h)) (PostOf (x_Qc G (r.map x_v) h1) (x_sz h1 - x_sz h) (x_us h1 - x_us h) (fun q => x_Gb G ≤ q)) := va_backW hc.2 x_Pc.blind rfl rfl (by show x_fm M' + 1 ≤ R.frames; rw [hR.1]; exact w6.1) (by show 8 + (x_mL M' + 11) + x_lo M' ≤ R.locals; rw [hR.2]; exact w6.2) hpay hcw (hpay2 _ (by simp [va_wsS]))
    intro T hT X
    obtain ⟨mk, mM, cM, n1, n2, -, -, -, -, -, -, n8⟩ := Cond.codeWith_spec (hts _ (hG _ hcw).1)
    have hst1 : mM.isStatic = true := Cond.static_spec n1 n2 (ok (.static (x_y M')) (by simp [va_wsS]))
    obtain ⟨kP, hkP, -⟩ := className_of_methodNamed n1
    have hini : kP.init = .initialized := Cond.initialized_spec (findClass_of_methodNamed n1) hkP (ok (.initialized (x_y M').cls) (by simp [va_wsS]))
    have hlen : (av.map x_v).length = mM.sig.parameters.length := by
      have h2 := w5.2.2
      rw [n8] at h2
      rw [List.length_map, hn]
      exact (Option.some.inj h2).symm
    obtain ⟨vm1, X1, hs1⟩ := X.invokestatic hC.1 hC.2.2.2.2.1 (ok (.methodLink (x_ow M) idx (x_y M')) (by simp [va_wsS])) n1 n2 hst1 hkP hini ⟨w5.1, w5.2.1⟩ (g := F0 m pc ls (st.map x_v)) rfl (argsL := av.map x_v) (rest := rest.map x_v) hlen (by show st.map x_v = _; rw [hst]; simp) (by show decode c.code pc = _; rw [hC.2.1]; exact hd)
    obtain ⟨v, ⟨U', l2, c2, s2⟩, X', ⟨g', mk', t, L, e1, e2, hq, h1', hL, h2', h3'⟩, hsteps⟩ := hK m meth c ⟨T.setVm vm1, locs, cells, slots⟩ (F0 m pc ls (rest.map x_v)) (.invokestatic idx) mk (av.map x_v).toArray X1 rfl (hl.1.trans hC.2.2.2.1.symm) (by show decode c.code pc = _; rw [hC.2.1]; exact hd) (lv_room (by rw [x_cat_eq]; exact hr)) (X1.named n1) ⟨hf.1, hf.2, rfl, by show x_HR G h T.heap; rw [hT]; exact hH, hC.2.2.2.2.2.2.2.1.warm X1.warmed⟩
    dsimp only [Pt.U, Pt.locs, Pt.cells, Pt.slots] at X' e1 e2 h1' h2' h3' hsteps
    subst h1'; subst h2'; subst h3'
    exact ⟨v, (T.setVm vm1).calling g' mk' (av.map x_v).toArray, t, U', L, hT, X', hL, e1, e2, hq, fun target ht => hs1 _ fun acts => by rw [doInvoke_state]; exact hsteps.trans ht⟩) hle k
theorem sL_law_99 : x_twW mL_law mL_table 99 4 [(0, 10, 13, 13)] := ⟨_, gL_law_L_table, rfl, by decide +kernel, by decide⟩
/-- how the law ends -/
def x_DL (G : x_G) : Room → x_Z → Prop := fun R Z => R = room_1 ∧ Z = fun below args s t => s.heap.size ≤ x_Gb G → ∃ o, t.status = .running ∧ Ended t below o ∧ o = .returned (some (.int 1)) ∧ Framed s o t [] 601024 7293034
theorem x_retL {G : x_G} {h0 h : x_H} {pc : Nat} {lv : x_L} (hd : decode cL_law pc = .ok (.ireturn, 1)) (hle : x_sz h0 ≤ x_sz h ∧ x_us h0 ≤ x_us h) (hc : x_sz h ≤ x_sz h0 + 601024 ∧ x_us h ≤ x_us h0 + 7293034) : x_E G mL_law (x_DL G) h0 pc lv [x_i 1] h := by
  refine ⟨_, _, ⟨rfl, rfl⟩, ⟨rfl, rfl⟩, ⟨hle.1, hle.2, by show _ ≤ 601024; omega, by show _ ≤ 7293034; omega⟩, fun p e s m args below meth c H ls locs hC hl hH hq => ?_⟩
  intro T hT X
  obtain ⟨t, a1, o, b1, b2, b3, L, ⟨b4, b5, b6⟩, b7⟩ := W.zret (Qc := fun _ _ o _ => o = .returned (some (.int 1))) (free := fun q => x_Gb G ≤ q) hC.1 hC.2.1 (hC.2.2.1) (v := 1) (by rfl) (fun _ _ _ => rfl) hq hd hC.2.2.2.2.2.2.1 T hT X
  exact ⟨t, a1, fun hs => ⟨o, b1, b2, b3, b4, b5, b6.weaken (fun y hy hlt => absurd hlt (Nat.not_lt.mpr (Nat.le_trans hs (b7 y hy)))) (by omega) (by omega)⟩⟩
