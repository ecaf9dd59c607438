/-! THE CLAIM OUT OF ONE WALK OF THE LAW'S BODY. Your part is whole_start (and what it stands on); all else here is the same for every law, but numbers. -/
def R_law : String := "HazardRulesLaw"
def lw_P (b : Addr) (xs : List Int32) (args : Array Value) (s : State) : Prop := args = #[.ref b] ∧ s.IntsAt b xs ∧ xs.length ≤ 3072 ∧ (Jvm.Cond.and given_1 narrow_1).before args s = true
def lw_Q (_ : Array Value) (s : State) (o : Outcome) (t : State) : Prop := o = .returned (some (.int 1)) ∧ Framed s o t [] 601024 7293034
def lw_Z (below : List Frame) (a : Array Value) (s : State) : State → Prop := fun t => ∃ o, t.status = .running ∧ Ended t below o ∧ lw_Q a s o t
/-- the law's own end, with 1 on the stack, nothing written that was there before, its room as the claim has it -/
theorem lw_ret {p : Program} {l : Launch} {e : Env} {s : State} {m : MethodId} {below : List Frame} {meth : Method} {c : Code} {b : Nat} (hx : p.tables.exec = Jvm.exec) (hb : c.code = code) (hr : meth.sig.returnType = ret) (hlocks : meth.locks = false) {pc : Nat} {H : Heap} {ls : Array Slot} (hdg : decode code pc = .ok (.ireturn, 1)) : W p l e room_1 s m #[Value.ref b] below meth c H [] 601024 7293034 (lw_Z below #[Value.ref b] s) (F0 m pc ls [.int 1]) := by
  intro T hT X
  obtain ⟨fs, hret, hrun, hended, hW, hframe⟩ := X.leave (v := some (.int 1)) (hlocks := hlocks) (fun h => by rw [hr] at h; cases h)
  have hmeth' : T.vm.method? m = some meth := X.method'
  refine ⟨T.setFrames fs, ?_, .returned (some (.int 1)), hrun, hended, rfl, ⟨_, rfl⟩, hW, hframe⟩
  jvm_step X.here [X.here.top, hx, hb, hdg, hmeth', hr, ret, narrow_b1]
  (try refine ⟨rfl, ?_⟩); (try refine ⟨rfl, ?_⟩)
  first | (intro acts; rw [hret _ acts rfl rfl rfl]) | rw [hret _ _ rfl rfl rfl]
  exact Steps.refl _
/-- what holds at the law's entry: the machine, the code, the tables' words (any of lw_tbl by 'hts w (by decide +kernel)'), the script of L ints xs at the cell b, what the Statement gives of the start (any of its parts by flat_of_before) -/
def lw_At (p : Program) (s : State) (m : MethodId) (meth : Method) (c : Code) (b L : Nat) (xs : Nat → Int32) : Prop :=
  p.tables.exec = Jvm.exec ∧ c.code = code ∧ meth.sig.returnType = ret ∧ c.maxLocals = 7 ∧ s.vm.findClass R_law = some m.cls ∧ (∀ w ∈ lw_tbl, w.before #[Value.ref b] s = true) ∧ va_X b L xs s s.heap ∧ b < s.heap.size ∧ meth.locks = false ∧ (Jvm.Cond.and given_1 narrow_1).before #[Value.ref b] s = true
theorem x_nl_on : ∀ w ∈ x_nl, w.onTables = true := by decide +kernel
set_option maxHeartbeats 4000000 in
theorem whole_start {p : Program} {e : Env} {s : State} {m : MethodId} {below : List Frame} {meth : Method} {c : Code} (l : Launch) (hlt : l.stackTraces = false) {b L : Nat} {xs : Nat → Int32} (hL : L ≤ 3072) (C0 : lw_At p s m meth c b L xs) (hnm : meth.name = yL_law.name) : W p l e room_1 s m #[Value.ref b] below meth c s.heap [] 0 0 (lw_Z below #[Value.ref b] s) (entryFrame m ([Value.ref b] : List Value).toArray 7) := by
  obtain ⟨hx, hb, hr, hml, hown, hts, hX, hbl, hlocks, hgv⟩ := id C0
  have hs := flat_of_before _ hgv
  have hA : ∀ a : Nat, a < s.heap.size → ¬ (fun q : Nat => s.heap.size ≤ q) a := fun a h => Nat.not_le.mpr h
  obtain ⟨f, hf⟩ := x_keys hts hs hA
  obtain ⟨kt, hk1, hk2⟩ := x_tab hts hs hA (fun k hk => (hf k hk).2)
  obtain ⟨hz1, ⟨o, hz2⟩, ⟨u0, hz3⟩, ⟨sen, hz4⟩, q0, hz5⟩ := x_stat hts hs hA
  obtain ⟨c0, iS0, hKn0⟩ := u_known (C := RJx00060) (T := TJx00060) (N := 6) (n := 6) hts inL_wsJx000600 (hts _ (List.mem_of_getElem? (i := 713) (by decide +kernel)))
  obtain ⟨c1, iS1, hKn1⟩ := u_known (C := RX0) (T := TX0) (N := 7) (n := 7) hts inL_wsX00 (hts _ (List.mem_of_getElem? (i := 124) (by decide +kernel)))
  obtain ⟨c2, iS2, hKn2⟩ := u_known (C := RX1) (T := TX1) (N := 2) (n := 2) hts inL_wsX10 (hts _ (List.mem_of_getElem? (i := 303) (by decide +kernel)))
  obtain ⟨c3, iS3, hKn3⟩ := u_known (C := RX2) (T := TX2) (N := 5) (n := 5) hts inL_wsX20 (hts _ (List.mem_of_getElem? (i := 96) (by decide +kernel)))
  obtain ⟨c4, iS4, hKn4⟩ := u_known (C := RX3) (T := TX3) (N := 7) (n := 7) hts inL_wsX30 (hts _ (List.mem_of_getElem? (i := 383) (by decide +kernel)))
  obtain ⟨c5, iS5, hKn5⟩ := u_known (C := RX5) (T := TX5) (N := 2) (n := 2) hts inL_wsX50 (hts _ (List.mem_of_getElem? (i := 256) (by decide +kernel)))
  obtain ⟨c6, iS6, hKn6⟩ := u_known (C := RX6) (T := TX6) (N := 9) (n := 9) hts inL_wsX60 (hts _ (List.mem_of_getElem? (i := 326) (by decide +kernel)))
  obtain ⟨c7, iS7, hKn7⟩ := u_known (C := RX7) (T := TX7) (N := 6) (n := 6) hts inL_wsX70 (hts _ (List.mem_of_getElem? (i := 448) (by decide +kernel)))
  obtain ⟨c8, iS8, hKn8⟩ := u_known (C := RX8) (T := TX8) (N := 3) (n := 3) hts inL_wsX80 (hts _ (List.mem_of_getElem? (i := 76) (by decide +kernel)))
  obtain ⟨c9, iS9, hKn9⟩ := u_known (C := RX9) (T := TX9) (N := 7) (n := 7) hts inL_wsX90 (hts _ (List.mem_of_getElem? (i := 68) (by decide +kernel)))
  obtain ⟨c10, iS10, hKn10⟩ := u_known (C := RX10) (T := TX10) (N := 29) (n := 29) hts inL_wsX100 (hts _ (List.mem_of_getElem? (i := 783) (by decide +kernel)))
  obtain ⟨dC, dI, hKc⟩ : ∃ (dC : Nat → ClassId) (dI : Nat → Nat → Nat), ∀ (k : Nat) (q : vw_C), vwCl[k]? = some q → u_Kn s q.1 q.2.1 q.2.2 (dC k) (dI k) := by
    refine ⟨fun k => if k = 0 then c0 else if k = 1 then c1 else if k = 2 then c2 else if k = 3 then c3 else if k = 4 then c4 else if k = 5 then c5 else if k = 6 then c6 else if k = 7 then c7 else if k = 8 then c8 else if k = 9 then c9 else c10, fun k => if k = 0 then iS0 else if k = 1 then iS1 else if k = 2 then iS2 else if k = 3 then iS3 else if k = 4 then iS4 else if k = 5 then iS5 else if k = 6 then iS6 else if k = 7 then iS7 else if k = 8 then iS8 else if k = 9 then iS9 else iS10, ?_⟩
    intro k q hq
    match k, hq with
    | 0, hq => cases hq; exact hKn0
    | 1, hq => cases hq; exact hKn1
    | 2, hq => cases hq; exact hKn2
    | 3, hq => cases hq; exact hKn3
    | 4, hq => cases hq; exact hKn4
    | 5, hq => cases hq; exact hKn5
    | 6, hq => cases hq; exact hKn6
    | 7, hq => cases hq; exact hKn7
    | 8, hq => cases hq; exact hKn8
    | 9, hq => cases hq; exact hKn9
    | 10, hq => cases hq; exact hKn10
    | k + 11, hq => simp [vwCl] at hq
  obtain ⟨b0, hb0, rb0⟩ := x_arr (ty := .int) (hts _ (List.mem_of_getElem? (i := 94) (by decide +kernel)))
  obtain ⟨b1, hb1, rb1⟩ := x_arr (ty := .byte) (hts _ (List.mem_of_getElem? (i := 93) (by decide +kernel)))
  obtain ⟨b2, hb2, rb2⟩ := x_arr (ty := .boolean) (hts _ (List.mem_of_getElem? (i := 122) (by decide +kernel)))
  obtain ⟨b3, hb3, rb3⟩ := x_arr (ty := .long) (hts _ (List.mem_of_getElem? (i := 121) (by decide +kernel)))
  have hT0 : va_T .int b L (fun j => .int (xs j)) (fun q : Nat => s.heap.size ≤ q) s s.heap := by
    obtain ⟨scr, g1, g2, g3, g4, g5⟩ := hX
    exact ⟨scr, g1, g2, g3, by rw [g4]; exact Nat.le_refl _, by rw [g4], g5, Nat.not_le.mpr hbl⟩
  obtain ⟨P, hPd⟩ : ∃ P : State → Prop, P = fun U => x_SK (fun k => (f k).1) (fun k => (f k).2.1) (fun k => (f k).2.2) (kt, o) (fun q : Nat => s.heap.size ≤ q) s.heap U ∧ x_TK q0 u0 sen (fun q : Nat => s.heap.size ≤ q) s.heap U ∧ (va_Nw (.classLink RL 13 xt_X) U ∧ va_Nw (.castable xt_X xt_X) U) ∧ va_T .int b L (fun j => .int (xs j)) (fun q : Nat => s.heap.size ≤ q) U s.heap := ⟨_, rfl⟩
  have hPs : P s := by
    rw [hPd]
    exact ⟨⟨hk1, hk2, fun k hk => (hf k hk).1, hz1, hz2, fun w hw => va_Nw.of (x_nl_on w hw) (hts w (x_nl_in w hw))⟩, ⟨fun w hw ho => va_Nw.of ho (hts w (xt_in w hw)), hz3, hz4, hz5, x_LS.of (hts _ (List.mem_of_getElem? (i := 741) (by decide +kernel))) hA, x_LS.of (hts _ (List.mem_of_getElem? (i := 743) (by decide +kernel))) hA⟩, ⟨va_Nw.of rfl (hts _ (List.mem_of_getElem? (i := 703) (by decide +kernel))), va_Nw.of rfl (hts _ (List.mem_of_getElem? (i := 714) (by decide +kernel)))⟩, hT0⟩
  have hPw : ∀ u V : State, u.WarmedH V.vm → P u → P V := by
    intro u V hW h
    rw [hPd] at h ⊢
    obtain ⟨g1, g2, ⟨g3, g4⟩, g5⟩ := h
    exact ⟨g1.moved hW, g2.warm hW, ⟨va_tabs rfl (rfl : (V.setVm V.vm).vm = V.vm) (Cond.onTables_warm (args' := #[]) (T := V) hW rfl rfl g3), g4.warmC hW⟩, g5.moved hW.alike⟩
  have hPc : ∀ (u : State) (g : JFrame) (mk : MethodId) (a : Array Value), P u → P (u.calling g mk a) := fun u g mk a h => hPw u (u.calling g mk a) (State.WarmedH.refl u) h
  obtain ⟨G, hG⟩ : ∃ G : x_G, G = (l, (dC, dI), (fun k => if k = 20 then b0 else if k = 21 then b1 else if k = 22 then b2 else b3), s.heap.size, s.heap, P) := ⟨_, rfl⟩
  have hTs : x_T G s := by
    rw [hG]
    refine ⟨⟨hKc, fun k q hq => ?_⟩, hPs, hPw, hPc⟩
    match k, hq with
    | 0, hq => cases hq; exact ⟨hb0, rb0⟩
    | 1, hq => cases hq; exact ⟨hb1, rb1⟩
    | 2, hq => cases hq; exact ⟨hb2, rb2⟩
    | 3, hq => cases hq; exact ⟨hb3, rb3⟩
    | k + 4, hq => simp [x_tys] at hq
  have hGS : x_GS G (fun k => (f k).1) (fun k => (f k).2.1) (fun k => (f k).2.2) (kt, o) := by
    rw [hG]
    intro U hU
    have hU : P U := hU
    rw [hPd] at hU
    exact hU.1
  have hGT : x_GT G q0 u0 sen := by
    rw [hG]
    refine ⟨hlt, fun U hU => ?_⟩
    have hU : P U := hU
    rw [hPd] at hU
    exact hU.2.1
  have hGC : x_GC G RL 13 := by
    rw [hG]
    intro U hU
    have hU : P U := hU
    rw [hPd] at hU
    exact hU.2.2.1
  have hGX : ∀ U, G.2.2.2.2.2 U → va_T .int b L (fun j => .int (xs j)) (x_A G) U G.2.2.2.2.1 := by
    rw [hG]
    intro U hU
    have hU : P U := hU
    rw [hPd] at hU
    exact hU.2.2.2
  obtain ⟨h0, hh0⟩ : ∃ h0 : x_H, h0 = (s.heap.size, 0, (fun _ => 99), (fun _ _ => 0), (fun _ _ => none), (fun _ _ => 0), (fun _ => 0), (fun _ _ => 0), (fun _ _ => 0)) := ⟨_, rfl⟩
  have hH : x_HR G h0 s.heap := by
    rw [hG, hh0]
    exact ⟨rfl, Nat.le_refl _, fun a ha => absurd rfl ha, fun q _ => rfl⟩
  have hz : x_sz h0 = s.heap.size := by rw [hh0]; rfl
  have hgl : G.1 = l := by rw [hG]
  have hgb : x_Gb G = s.heap.size := by rw [hG]
  obtain ⟨R9, Z9, ⟨rfl, rfl⟩, g1, g2, g3⟩ := c_law hGS hGT hGC hGX hL (h0 := h0) hz
  have hl := lv_entry ([.ref b]) (n := 7) (Nat.le_of_ble_eq_true rfl)
  rw [lg_entry_eq]
  have k9 := g3 p e s m #[Value.ref b] below meth c s.heap _ [] ⟨hx, hb, hr, hml, hown, fun w h => hts w (wsL_in w h), hlocks, hTs, hnm⟩ hl hH (fun q h => by cases h)
  rw [Nat.sub_self, Nat.sub_self, hgl] at k9
  intro T hT X
  obtain ⟨t, a1, b9⟩ := k9 T hT X
  exact ⟨t, a1, b9 (by rw [hgb]; exact Nat.le_refl _)⟩
