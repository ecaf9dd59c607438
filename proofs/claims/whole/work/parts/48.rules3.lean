/-! WHAT THE STATICS SAY: the keywords, their letters, String's own; nest mates' links; rules over them -/
def x_A (G : x_G) : Nat → Prop := fun q => x_Gb G ≤ q
def x_kn : List String := ["FROM", "CLASS", "WHEN", "AND", "END", "TEST", "IS", "NOT", "HOLDS", "SUM", "OVER", "UNDER", "PLUS", "MINUS", "OF", "CUT", "BY"]
def z_kl (k : Nat) : List Int32 := (z_kws.getD k ([], 0)).1
def z_kc (k : Nat) : Int32 := (z_kws.getD k ([], 0)).2
def x_nl : List Cond := [.methodLinkNest RX9 25 yX8_init "HazardRules", .methodLinkNest RX9 39 yX0_init "HazardRules", .methodLinkNest RX5 11 yX0_init "HazardRules", .methodLinkNest RX8 28 yX9_isGap "HazardRules", .fieldLinkNest RX8 44 "HazardRules" "KEYS" "[LHazardRules$Key;" "HazardRules"]
def x_SK (ad st vl : Nat → Nat) (kt : Nat × Option Nat) (A : Nat → Prop) (H : Heap) (U : State) : Prop := va_Z "HazardRules" "KEYS" "[LHazardRules$Key;" (.ref kt.1) A U H ∧ va_T (.object "HazardRules$Key") kt.1 17 (fun j => .ref (ad j)) A U H ∧ (∀ k, k < 17 → va_Z "HazardRules$Key" (x_kn.getD k "") "LHazardRules$Key;" (.ref (ad k)) A U H ∧ va_OF "HazardRules$Key" "code" "I" (.int (z_kc k)) (ad k) A U H ∧ va_OF "HazardRules$Key" "letters" "Ljava/lang/String;" (.ref (st k)) (ad k) A U H ∧ va_O "java/lang/String" (st k) A U H ∧ va_OF "java/lang/String" "value" "[B" (.ref (vl k)) (st k) A U H ∧ va_OF "java/lang/String" "coder" "B" (.int 0) (st k) A U H ∧ va_T .byte (vl k) (z_kl k).length (fun j => .int ((z_kl k).getD j 0)) A U H) ∧ va_Z "java/lang/String" "COMPACT_STRINGS" "Z" (.int 1) A U H ∧ va_Z "jdk/internal/util/Preconditions" "SIOOBE_FORMATTER" "Ljava/util/function/BiFunction;" (va_rf kt.2) A U H ∧ ∀ w ∈ x_nl, va_Nw w U
/-- it is among what stays -/
def x_GS (G : x_G) (ad st vl : Nat → Nat) (kt : Nat × Option Nat) : Prop := ∀ U, G.2.2.2.2.2 U → x_SK ad st vl kt (x_A G) G.2.2.2.2.1 U
theorem x_SK.moved {ad st vl : Nat → Nat} {kt : Nat × Option Nat} {A : Nat → Prop} {H : Heap} {u V : State} (hW : u.WarmedH V.vm) (h : x_SK ad st vl kt A H u) : x_SK ad st vl kt A H V := by
  obtain ⟨h1, h2, h3, h4, h5, h6⟩ := h
  have hv := hW.alike
  refine ⟨h1.moved hv, h2.moved hv, fun k hk => ?_, h4.moved hv, h5.moved hv, fun w hw => ?_⟩
  · obtain ⟨a1, a2, a3, a4, a5, a6, a7⟩ := h3 k hk
    exact ⟨a1.moved hv, a2.moved hv, a3.moved hv, a4.moved hv, a5.moved hv, a6.moved hv, a7.moved hv⟩
  · have hz := h6 w hw
    simp only [x_nl, List.mem_cons, List.not_mem_nil, or_false] at hw
    rcases hw with rfl | rfl | rfl | rfl | rfl
    · exact va_Nw.warmM hW hz
    · exact va_Nw.warmM hW hz
    · exact va_Nw.warmM hW hz
    · exact va_Nw.warmM hW hz
    · exact va_Nw.warmF hW hz
theorem x_HR.kp {G : x_G} {h : x_H} {H : Heap} (hH : x_HR G h H) : ∀ a : Nat, a < G.2.2.2.2.1.size → ¬ x_A G a → H[a]? = G.2.2.2.2.1[a]? := fun a _ ha => hH.2.2.2 a (Nat.lt_of_not_le ha)
section XS
variable {G : x_G} {M : x_M} {D : Room → x_Z → Prop} {h0 h : x_H} {pc : Nat} {lv lv' : x_L} {st st' : List x_V}
theorem x_gets {C n d : String} {v : x_V} {idx : Nat} (hd : decode (x_cc M) pc = .ok (.getstatic idx, 3)) (hw : Cond.fieldLink (x_ow M) idx C n d ∈ x_ws M) (hZ : ∀ U, G.2.2.2.2.2 U → va_Z C n d (x_v v) (x_A G) U G.2.2.2.2.1) (k : x_E G M D h0 (pc + 3) lv (v :: st) h) : x_E G M D h0 pc lv st h :=
  x_lift (fun p e R s m args below meth c H ls locs cells slots Q hC hl hH kk => by
    obtain ⟨cf, kf, fi, f, a, cell, h1, h2, h3, h4, h5, h6, h7, h8⟩ := (hZ s hC.2.2.2.2.2.2.2.1.2.1).kept hH.kp
    exact W.gets hC.1 hC.2.1 hC.2.2.2.2.1 (hC.2.2.2.2.2.1 _ hw) h1 h2 h3 h4 h5 (fun e => by rw [e] at h6; cases h6) h7 rfl hd (kk ls hl)) k
theorem x_getsN {C n d host : String} {v : x_V} {idx : Nat} (hd : decode (x_cc M) pc = .ok (.getstatic idx, 3)) (hw : ∀ U, G.2.2.2.2.2 U → va_Nw (.fieldLinkNest (x_ow M) idx C n d host) U) (hZ : ∀ U, G.2.2.2.2.2 U → va_Z C n d (x_v v) (x_A G) U G.2.2.2.2.1) (k : x_E G M D h0 (pc + 3) lv (v :: st) h) : x_E G M D h0 pc lv st h :=
  x_lift (fun p e R s m args below meth c H ls locs cells slots Q hC hl hH kk => by
    have hP := hC.2.2.2.2.2.2.2.1.2.1
    obtain ⟨cf, kf, fi, f, a, cell, h1, h2, h3, h4, h5, h6, h7, h8⟩ := (hZ s hP).kept hH.kp
    exact va_WgetsN hC.1 hC.2.1 hC.2.2.2.2.1 (va_Nw.use rfl (hw s hP)) h1 h2 h3 h4 h5 (fun e => by rw [e] at h6; cases h6) h7 rfl hd (kk ls hl)) k
theorem x_getX {C n d : String} {v : x_V} {idx a : Nat} (hd : decode (x_cc M) pc = .ok (.getfield idx, 3)) (hw : Cond.fieldLink (x_ow M) idx C n d ∈ x_ws M) (hZ : ∀ U, G.2.2.2.2.2 U → va_OF C n d (x_v v) a (x_A G) U G.2.2.2.2.1) (k : x_E G M D h0 (pc + 3) lv (v :: st) h) : x_E G M D h0 pc lv (x_r (some a) :: st) h :=
  x_lift (fun p e R s m args below meth c H ls locs cells slots Q hC hl hH kk => by
    obtain ⟨cf, kf, i, f, cell, h1, h2, h3, h4, h5, h6⟩ := (hZ s hC.2.2.2.2.2.2.2.1.2.1).kept hH.kp
    exact W.getf hC.1 hC.2.1 hC.2.2.2.2.1 (hC.2.2.2.2.2.1 _ hw) h1 h2 h3 h4 (v := x_v v) h5 rfl rfl hd (kk ls hl)) k
theorem x_aaX {C : String} {v : x_V} {N t n : Nat} {f : Nat → Value} {i : Int32} (hd : decode (x_cc M) pc = .ok (.aaload, 1)) (hZ : ∀ U, G.2.2.2.2.2 U → va_T (.object C) t N f (x_A G) U G.2.2.2.2.1) (hi : i = nI n) (hn : n < N) (hN : N < 2 ^ 31) (hv : f n = x_v v) (k : x_E G M D h0 (pc + 1) lv (v :: st) h) : x_E G M D h0 pc lv (x_i i :: x_r (some t) :: st) h := by
  subst hi
  exact x_lift (fun p e R s m args below meth c H ls locs cells slots Q hC hl hH kk => by
    obtain ⟨cell, h1, h2, h3, h4, h5, h6, h7⟩ := (hZ s hC.2.2.2.2.2.2.2.1.2.1).kept hH.kp
    have hin : ¬ (nI n < 0 ∨ cell.slots.size ≤ (nI n).toNatClampNeg) := by
      rw [nI_clamp (by omega)]
      intro q
      rcases q with q | q
      · exact nI_pos (by omega) q
      · omega
    exact W.aald (v := x_v v) (ty := .object C) hC.1 hC.2.1 h1 h2 rfl h3 hin (by rw [nI_clamp (by omega), h6 _ hn, hv]) rfl rfl hd (kk ls hl)) k
theorem x_baX {v : Int32} {N t n : Nat} {f : Nat → Value} {i : Int32} (hd : decode (x_cc M) pc = .ok (.baload, 1)) (hZ : ∀ U, G.2.2.2.2.2 U → va_T .byte t N f (x_A G) U G.2.2.2.2.1) (hi : i = nI n) (hn : n < N) (hN : N < 2 ^ 31) (hv : f n = .int v) (k : x_E G M D h0 (pc + 1) lv (x_i v :: st) h) : x_E G M D h0 pc lv (x_i i :: x_r (some t) :: st) h := by
  subst hi
  exact x_lift (fun p e R s m args below meth c H ls locs cells slots Q hC hl hH kk => by
    obtain ⟨cell, h1, h2, h3, h4, h5, h6, h7⟩ := (hZ s hC.2.2.2.2.2.2.2.1.2.1).kept hH.kp
    have hin : ¬ (nI n < 0 ∨ cell.slots.size ≤ (nI n).toNatClampNeg) := by
      rw [nI_clamp (by omega)]
      intro q
      rcases q with q | q
      · exact nI_pos (by omega) q
      · omega
    exact W.bald (v := .int v) hC.1 hC.2.1 h1 h2 h3 hin (by rw [nI_clamp (by omega), h6 _ hn, hv]) rfl rfl hd (kk ls hl)) k
theorem x_alX {ty : FieldType} {N t : Nat} {f : Nat → Value} (hd : decode (x_cc M) pc = .ok (.arraylength, 1)) (hZ : ∀ U, G.2.2.2.2.2 U → va_T ty t N f (x_A G) U G.2.2.2.2.1) (k : x_E G M D h0 (pc + 1) lv (x_i (nI N) :: st) h) : x_E G M D h0 pc lv (x_r (some t) :: st) h :=
  x_lift (fun p e R s m args below meth c H ls locs cells slots Q hC hl hH kk => by
    obtain ⟨cell, h1, h2, h3, h4, h5, h6, h7⟩ := (hZ s hC.2.2.2.2.2.2.2.1.2.1).kept hH.kp
    exact W.alen (n := Int32.ofNat N) hC.1 hC.2.1 h1 h2 h5 rfl rfl hd (kk ls hl)) k
theorem x_ishr {x y v : Int32} (hd : decode (x_cc M) pc = .ok (.ishr, 1)) (hv : x >>> (y &&& 31) = v) (k : x_E G M D h0 (pc + 1) lv (x_i v :: st) h) : x_E G M D h0 pc lv (x_i y :: x_i x :: st) h := by
  subst hv
  exact x_lift (fun p e R s m args below meth c H ls locs cells slots Q hC hl hH kk => lv_ishr hC.1 hC.2.1 hd (kk ls hl)) k
theorem x_i2c {x v : Int32} (hd : decode (x_cc M) pc = .ok (.i2c, 1)) (hv : (x.toUInt32 % 65536).toInt32 = v) (k : x_E G M D h0 (pc + 1) lv (x_i v :: st) h) : x_E G M D h0 pc lv (x_i x :: st) h :=
  x_lift (fun p e R s m args below meth c H ls locs cells slots Q hC hl hH kk => lv_i2c hC.1 hC.2.1 hd hv (kk ls hl)) k
theorem x_pop {v : x_V} (hd : decode (x_cc M) pc = .ok (.pop, 1)) (hv : x_c2 v = false) (k : x_E G M D h0 (pc + 1) lv st h) : x_E G M D h0 pc lv (v :: st) h :=
  x_lift (fun p e R s m args below meth c H ls locs cells slots Q hC hl hH kk => lv_pop hC.1 hC.2.1 hd (x_c2_f hv) (kk ls hl)) k
/-- a virtual call on an object that stands among the statics -/
def x_ew (M M' : x_M) (idx n : Nat) (C : String) : Prop := ∃ ws' : List Cond, GoodIn (x_ws M) (wsV (x_ow M) idx C (x_y M') (x_ws M')) ∧ x_ws M' = Cond.code (x_y M') (x_cc M') (x_mL M') (x_rt M') :: ws' ∧ ((x_y M').cls = C ∧ (x_y M').cls ≠ "java/lang/invoke/MethodHandle" ∧ (x_y M').cls ≠ "java/lang/invoke/VarHandle" ∧ (parseMethodDescriptor (x_y M').desc).map (fun d => d.parameters.length) = some n) ∧ (x_fm M' + 1 ≤ x_fm M ∧ 8 + (x_mL M' + 11) + x_lo M' ≤ x_lo M)
theorem x_callE {M' : x_M} {idx n a : Nat} {C : String} {av rest : List x_V} {r : Option x_V} {h1 : x_H} (hd : decode (x_cc M) pc = .ok (.invokevirtual idx, 3)) (hw : x_ew M M' idx n C) (hO : ∀ U, G.2.2.2.2.2 U → va_O C a (x_A G) U G.2.2.2.2.1) (hn : av.length = n) (hst : st = av.reverse ++ x_r (some a) :: rest) (hr : x_nw2 rest ≤ 8) (hle : x_sz h0 ≤ x_sz h ∧ x_us h0 ≤ x_us h) (hc : x_Call G M' h (x_r (some a) :: av) r h1) (k : x_E G M D h0 (pc + 3) lv (r.toList ++ rest) h1) : x_E G M D h0 pc lv st h :=
  x_liftC hc (fun p e R s m args below meth c H ls locs cells slots hR hC hl hH hf => by
    obtain ⟨ws', w3, w4, w5, w6⟩ := hw
    obtain ⟨cell, o1, o2, o3, o4⟩ := (hO s hC.2.2.2.2.2.2.2.1.2.1).kept hH.kp
    refine va_runV (As := av.map x_v) (b := a) (C := C) ⟨hC.1, hC.2.1, hC.2.2.2.1, hC.2.2.2.2.1, hC.2.2.2.2.2.1⟩ hc.2 (cwV n hC.2.2.2.2.2.1 w3 w4 rfl rfl w5 ⟨by rw [hR.1]; exact w6.1, by rw [hR.2]; exact w6.2⟩) ⟨x_Pc.blind, ⟨cell, o1, o2, o3⟩, fun U hU hW => ⟨rfl, by rw [hU]; exact hH, hC.2.2.2.2.2.2.2.1.warm hW⟩⟩ rfl (by rw [List.length_map]; exact hn) hl.1 ?_ (lv_room (by rw [x_cat_eq]; exact hr)) hd hf
    rw [hst]
    simp [x_v, va_rf]) hle k
/-- nest mates: a static method, a constructor -/
def x_sn (M M' : x_M) (n : Nat) : Prop := ∃ ws' : List Cond, GoodIn (x_ws M) (x_ws M') ∧ x_ws M' = Cond.code (x_y M') (x_cc M') (x_mL M') (x_rt M') :: ws' ∧ Cond.initialized (x_y M').cls ∈ x_ws M ∧ Cond.static (x_y M') ∈ x_ws M ∧ ((x_y M').cls ≠ "java/lang/invoke/MethodHandle" ∧ (x_y M').cls ≠ "java/lang/invoke/VarHandle" ∧ (parseMethodDescriptor (x_y M').desc).map (fun d => d.parameters.length) = some n) ∧ (x_fm M' + 1 ≤ x_fm M ∧ 8 + (x_mL M' + 11) + x_lo M' ≤ x_lo M)
theorem x_callSN {M' : x_M} {idx n : Nat} {host : String} {av rest : List x_V} {r : Option x_V} {h1 : x_H} (hd : decode (x_cc M) pc = .ok (.invokestatic idx, 3)) (hw : x_sn M M' n) (hl0 : ∀ U, G.2.2.2.2.2 U → va_Nw (.methodLinkNest (x_ow M) idx (x_y M') host) U) (hn : av.length = n) (hst : st = av.reverse ++ rest) (hr : x_nw2 rest ≤ 8) (hle : x_sz h0 ≤ x_sz h ∧ x_us h0 ≤ x_us h) (hc : x_Call G M' h av r h1) (k : x_E G M D h0 (pc + 3) lv (r.toList ++ rest) h1) : x_E G M D h0 pc lv st h :=
  x_liftC hc (fun p e R s m args below meth c H ls locs cells slots hR hC hl hH hf => by
    obtain ⟨ws', w3, w4, w7, w8, w5, w6⟩ := hw
    have hts := hC.2.2.2.2.2.1
    refine va_runSN (As := av.map x_v) ⟨hC.1, hC.2.1, hC.2.2.2.1, hC.2.2.2.2.1, hC.2.2.2.2.2.1⟩ hc.2 ⟨va_cnB n hC.2.2.2.2.2.1 w3 w4 rfl rfl (hl0 s hC.2.2.2.2.2.2.2.1.2.1) (hts _ w7) w5 ⟨by rw [hR.1]; exact w6.1, by rw [hR.2]; exact w6.2⟩, hts _ w8, trivial⟩ ⟨x_Pc.blind, fun U hU hW => ⟨rfl, by rw [hU]; exact hH, hC.2.2.2.2.2.2.2.1.warm hW⟩⟩ rfl (by rw [List.length_map]; exact hn) hl.1 ?_ (lv_room (by rw [x_cat_eq]; exact hr)) hd hf
    rw [hst]
    simp) hle k
def x_in (M M' : x_M) (n : Nat) : Prop := ∃ ws' : List Cond, GoodIn (x_ws M) (x_ws M') ∧ x_ws M' = Cond.code (x_y M') (x_cc M') (x_mL M') none :: ws' ∧ Cond.initialized (x_y M').cls ∈ x_ws M ∧ Cond.instanceMethod (x_y M') ∈ x_ws M ∧ (x_y M').name = "<init>" ∧ ((x_y M').cls ≠ "java/lang/invoke/MethodHandle" ∧ (x_y M').cls ≠ "java/lang/invoke/VarHandle" ∧ (parseMethodDescriptor (x_y M').desc).map (fun d => d.parameters.length) = some n) ∧ (x_fm M' + 1 ≤ x_fm M ∧ 8 + (x_mL M' + 11) + x_lo M' ≤ x_lo M)
theorem x_callIN {M' : x_M} {idx n a : Nat} {host : String} {av rest : List x_V} {r : Option x_V} {h1 : x_H} (hd : decode (x_cc M) pc = .ok (.invokespecial idx, 3)) (hw : x_in M M' n) (hl0 : ∀ U, G.2.2.2.2.2 U → va_Nw (.methodLinkNest (x_ow M) idx (x_y M') host) U) (hn : av.length = n) (hst : st = av.reverse ++ x_r (some a) :: rest) (hr : x_nw2 rest ≤ 8) (hle : x_sz h0 ≤ x_sz h ∧ x_us h0 ≤ x_us h) (hc : x_Call G M' h (x_r (some a) :: av) r h1) (k : x_E G M D h0 (pc + 3) lv (r.toList ++ rest) h1) : x_E G M D h0 pc lv st h :=
  x_liftC hc (fun p e R s m args below meth c H ls locs cells slots hR hC hl hH hf => by
    obtain ⟨ws', w3, w4, w7, w9, w10, w5, w6⟩ := hw
    have hts := hC.2.2.2.2.2.1
    refine va_runIN (As := av.map x_v) (b := a) ⟨hC.1, hC.2.1, hC.2.2.2.1, hC.2.2.2.2.1, hC.2.2.2.2.2.1⟩ hc.2 ⟨va_cnB n hC.2.2.2.2.2.1 w3 w4 rfl rfl (hl0 s hC.2.2.2.2.2.2.2.1.2.1) (hts _ w7) w5 ⟨by rw [hR.1]; exact w6.1, by rw [hR.2]; exact w6.2⟩, w10, hts _ w9⟩ ⟨x_Pc.blind, fun U hU hW => ⟨rfl, by rw [hU]; exact hH, hC.2.2.2.2.2.2.2.1.warm hW⟩⟩ rfl (by rw [List.length_map]; exact hn) hl.1 ?_ (lv_room (by rw [x_cat_eq]; exact hr)) hd hf
    rw [hst]
    simp [x_v, va_rf]) hle k
/-- Math.min -/
def x_mm (M : x_M) (idx : Nat) : Prop := Cond.methodLink (x_ow M) idx Lib.Math.min.name ∈ x_ws M ∧ Cond.static Lib.Math.min.name ∈ x_ws M ∧ Cond.initialized "java/lang/Math" ∈ x_ws M ∧ Cond.code Lib.Math.min.name Lib.Math.min.code 2 (some .int) ∈ x_ws M ∧ 1 ≤ x_fm M ∧ 21 ≤ x_lo M
theorem x_min {idx : Nat} {x y v : Int32} (hd : decode (x_cc M) pc = .ok (.invokestatic idx, 3)) (hw : x_mm M idx) (hr : x_nw2 st ≤ 8) (hv : (if y < x then y else x) = v) (k : x_E G M D h0 (pc + 3) lv (x_i v :: st) h) : x_E G M D h0 pc lv (x_i y :: x_i x :: st) h := by
  subst hv
  obtain ⟨R, Z, hD, g1, g2, g3⟩ := k
  refine ⟨R, Z, hD, g1, g2, fun p e s m args below meth c H ls locs hC hl hH hq => ?_⟩
  have hts := hC.2.2.2.2.2.1
  exact va_mmin hC.1 hC.2.1 (by rw [hC.2.2.2.1]; exact hl.1.symm) hC.2.2.2.2.1 (hts _ hw.1) (hts _ hw.2.1) (hts _ hw.2.2.1) (hts _ hw.2.2.2.1) (by rw [g1.1]; exact hw.2.2.2.2.1) (by
    rw [g1.2, x_cat_eq]
    have := hw.2.2.2.2.2
    omega) g2.2.2.1 g2.2.2.2 hd (g3 p e s m args below meth c H ls locs hC hl hH hq)
end XS
abbrev mJ7_fill_53178 : x_M := (yJ7_fill_53178, cJ7_fill_53178, 4, none, wsJ7_fill_53178, 0, 0, RJ7)
theorem mwJ7_fill_53178 : x_mw mJ7_fill_53178 := ⟨by decide +kernel, ⟨_, rfl⟩, rfl⟩
abbrev mJ0_coder_7d493 : x_M := (yJ0_coder_7d493, cJ0_coder_7d493, 1, (some .byte), wsJ0_coder_7d493, 0, 0, RJ0)
theorem mwJ0_coder_7d493 : x_mw mJ0_coder_7d493 := ⟨by decide +kernel, ⟨_, rfl⟩, rfl⟩
abbrev mJ0_length_8abf5 : x_M := (yJ0_length_8abf5, cJ0_length_8abf5, 1, (some .int), wsJ0_length_8abf5, 1, 20, RJ0)
theorem mwJ0_length_8abf5 : x_mw mJ0_length_8abf5 := ⟨by decide +kernel, ⟨_, rfl⟩, rfl⟩
abbrev mJ0_isLatin1_aae02 : x_M := (yJ0_isLatin1_aae02, cJ0_isLatin1_aae02, 1, (some .boolean), wsJ0_isLatin1_aae02, 0, 0, RJ0)
theorem mwJ0_isLatin1_aae02 : x_mw mJ0_isLatin1_aae02 := ⟨by decide +kernel, ⟨_, rfl⟩, rfl⟩
abbrev mJ3_checkIndex_8e157 : x_M := (yJ3_checkIndex_8e157, cJ3_checkIndex_8e157, 3, (some .int), wsJ3_checkIndex_8e157, 0, 0, RJ3)
theorem mwJ3_checkIndex_8e157 : x_mw mJ3_checkIndex_8e157 := ⟨by decide +kernel, ⟨_, rfl⟩, rfl⟩
abbrev mJ0_checkIndex_df160 : x_M := (yJ0_checkIndex_df160, cJ0_checkIndex_df160, 2, none, wsJ0_checkIndex_df160, 1, 22, RJ0)
theorem mwJ0_checkIndex_df160 : x_mw mJ0_checkIndex_df160 := ⟨by decide +kernel, ⟨_, rfl⟩, rfl⟩
abbrev mJ1_charAt_3b067 : x_M := (yJ1_charAt_3b067, cJ1_charAt_3b067, 2, (some .char), wsJ1_charAt_3b067, 2, 43, RJ1)
theorem mwJ1_charAt_3b067 : x_mw mJ1_charAt_3b067 := ⟨by decide +kernel, ⟨_, rfl⟩, rfl⟩
abbrev mJ0_charAt_5068e : x_M := (yJ0_charAt_5068e, cJ0_charAt_5068e, 2, (some .char), wsJ0_charAt_5068e, 4, 85, RJ0)
theorem mwJ0_charAt_5068e : x_mw mJ0_charAt_5068e := ⟨by decide +kernel, ⟨_, rfl⟩, rfl⟩
theorem sX2_init_30 : x_tw mX2_init mJ7_fill_53178 30 2 := ⟨_, gX2_init_J7_fill_53178, rfl, by decide +kernel, by decide⟩
theorem sX2_forget_30 : x_tw mX2_forget mJ7_fill_53178 30 2 := ⟨_, gX2_forget_J7_fill_53178, rfl, by decide +kernel, by decide⟩
theorem sX8_spells_56 : x_ew mX8_spells mJ0_length_8abf5 56 0 "java/lang/String" := ⟨_, gX8_spells_J0_length_8abf5, rfl, by decide +kernel, by decide⟩
theorem sX8_spells_62 : x_ew mX8_spells mJ0_charAt_5068e 62 1 "java/lang/String" := ⟨_, gX8_spells_J0_charAt_5068e, rfl, by decide +kernel, by decide⟩
theorem sJ0_length_8abf5_335 : x_ew mJ0_length_8abf5 mJ0_coder_7d493 335 0 "java/lang/String" := ⟨_, gJ0_length_8abf5_J0_coder_7d493, rfl, by decide +kernel, by decide⟩
theorem sJ0_charAt_5068e_492 : x_ew mJ0_charAt_5068e mJ0_isLatin1_aae02 492 0 "java/lang/String" := ⟨_, gJ0_charAt_5068e_J0_isLatin1_aae02, rfl, by decide +kernel, by decide⟩
theorem sJ0_charAt_5068e_495 : x_tw mJ0_charAt_5068e mJ1_charAt_3b067 495 2 := ⟨_, gJ0_charAt_5068e_J1_charAt_3b067, rfl, by decide +kernel, by decide⟩
theorem sJ1_charAt_3b067_9 : x_tw mJ1_charAt_3b067 mJ0_checkIndex_df160 9 2 := ⟨_, gJ1_charAt_3b067_J0_checkIndex_df160, rfl, by decide +kernel, by decide⟩
theorem sJ0_checkIndex_df160_1059 : x_tw mJ0_checkIndex_df160 mJ3_checkIndex_8e157 1059 3 := ⟨_, gJ0_checkIndex_df160_J3_checkIndex_8e157, rfl, by decide +kernel, by decide⟩
theorem sX8_split_22 : x_mm mX8_split 22 := ⟨by decide +kernel, by decide +kernel, by decide +kernel, by decide +kernel, by decide, by decide⟩
theorem sX8_split_28 : x_sn mX8_split mX9_isGap 1 := ⟨_, gX8_split_X9_isGap_n28, rfl, by decide +kernel, by decide +kernel, by decide +kernel, by decide⟩
theorem sX9_init_25 : x_in mX9_init mX8_init 0 := ⟨_, gX9_init_X8_init_n25, rfl, by decide +kernel, by decide +kernel, rfl, by decide +kernel, by decide⟩
theorem sX9_init_39 : x_in mX9_init mX0_init 0 := ⟨_, gX9_init_X0_init_n39, rfl, by decide +kernel, by decide +kernel, rfl, by decide +kernel, by decide⟩
theorem sX5_init_11 : x_in mX5_init mX0_init 0 := ⟨_, gX5_init_X0_init_n11, rfl, by decide +kernel, by decide +kernel, rfl, by decide +kernel, by decide⟩
theorem fX5_readText_28 : Cond.fieldLink (x_ow mX5_readText) 28 "HazardRules$Key" "FROM" "LHazardRules$Key;" ∈ x_ws mX5_readText := by decide +kernel
theorem fX5_readRule_67 : Cond.fieldLink (x_ow mX5_readRule) 67 "HazardRules$Key" "CLASS" "LHazardRules$Key;" ∈ x_ws mX5_readRule := by decide +kernel
theorem fX5_readRule_70 : Cond.fieldLink (x_ow mX5_readRule) 70 "HazardRules$Key" "WHEN" "LHazardRules$Key;" ∈ x_ws mX5_readRule := by decide +kernel
theorem fX5_readRule_86 : Cond.fieldLink (x_ow mX5_readRule) 86 "HazardRules$Key" "END" "LHazardRules$Key;" ∈ x_ws mX5_readRule := by decide +kernel
theorem fX5_readRule_93 : Cond.fieldLink (x_ow mX5_readRule) 93 "HazardRules$Key" "AND" "LHazardRules$Key;" ∈ x_ws mX5_readRule := by decide +kernel
theorem fX5_readItem_96 : Cond.fieldLink (x_ow mX5_readItem) 96 "HazardRules$Key" "TEST" "LHazardRules$Key;" ∈ x_ws mX5_readItem := by decide +kernel
theorem fX5_readItem_102 : Cond.fieldLink (x_ow mX5_readItem) 102 "HazardRules$Key" "HOLDS" "LHazardRules$Key;" ∈ x_ws mX5_readItem := by decide +kernel
theorem fX5_readItem_108 : Cond.fieldLink (x_ow mX5_readItem) 108 "HazardRules$Key" "SUM" "LHazardRules$Key;" ∈ x_ws mX5_readItem := by decide +kernel
theorem fX5_readTest_114 : Cond.fieldLink (x_ow mX5_readTest) 114 "HazardRules$Key" "NOT" "LHazardRules$Key;" ∈ x_ws mX5_readTest := by decide +kernel
theorem fX5_readTest_121 : Cond.fieldLink (x_ow mX5_readTest) 121 "HazardRules$Key" "IS" "LHazardRules$Key;" ∈ x_ws mX5_readTest := by decide +kernel
theorem fX5_readSum_135 : Cond.fieldLink (x_ow mX5_readSum) 135 "HazardRules$Key" "UNDER" "LHazardRules$Key;" ∈ x_ws mX5_readSum := by decide +kernel
theorem fX5_readSum_138 : Cond.fieldLink (x_ow mX5_readSum) 138 "HazardRules$Key" "OVER" "LHazardRules$Key;" ∈ x_ws mX5_readSum := by decide +kernel
theorem fX5_readTerm_141 : Cond.fieldLink (x_ow mX5_readTerm) 141 "HazardRules$Key" "MINUS" "LHazardRules$Key;" ∈ x_ws mX5_readTerm := by decide +kernel
theorem fX5_readTerm_144 : Cond.fieldLink (x_ow mX5_readTerm) 144 "HazardRules$Key" "PLUS" "LHazardRules$Key;" ∈ x_ws mX5_readTerm := by decide +kernel
theorem fX5_readTerm_147 : Cond.fieldLink (x_ow mX5_readTerm) 147 "HazardRules$Key" "OF" "LHazardRules$Key;" ∈ x_ws mX5_readTerm := by decide +kernel
theorem fX5_readTerm_155 : Cond.fieldLink (x_ow mX5_readTerm) 155 "HazardRules$Key" "CUT" "LHazardRules$Key;" ∈ x_ws mX5_readTerm := by decide +kernel
theorem fX5_readTerm_161 : Cond.fieldLink (x_ow mX5_readTerm) 161 "HazardRules$Key" "BY" "LHazardRules$Key;" ∈ x_ws mX5_readTerm := by decide +kernel
theorem fX8_take_36 : Cond.fieldLink (x_ow mX8_take) 36 "HazardRules$Key" "code" "I" ∈ x_ws mX8_take := by decide +kernel
theorem fX8_codeOf_48 : Cond.fieldLink (x_ow mX8_codeOf) 48 "HazardRules$Key" "letters" "Ljava/lang/String;" ∈ x_ws mX8_codeOf := by decide +kernel
theorem fX8_codeOf_36 : Cond.fieldLink (x_ow mX8_codeOf) 36 "HazardRules$Key" "code" "I" ∈ x_ws mX8_codeOf := by decide +kernel
theorem fJ0_length_8abf5_9 : Cond.fieldLink (x_ow mJ0_length_8abf5) 9 "java/lang/String" "value" "[B" ∈ x_ws mJ0_length_8abf5 := by decide +kernel
theorem fJ0_charAt_5068e_9 : Cond.fieldLink (x_ow mJ0_charAt_5068e) 9 "java/lang/String" "value" "[B" ∈ x_ws mJ0_charAt_5068e := by decide +kernel
theorem fJ0_coder_7d493_38 : Cond.fieldLink (x_ow mJ0_coder_7d493) 38 "java/lang/String" "COMPACT_STRINGS" "Z" ∈ x_ws mJ0_coder_7d493 := by decide +kernel
theorem fJ0_coder_7d493_15 : Cond.fieldLink (x_ow mJ0_coder_7d493) 15 "java/lang/String" "coder" "B" ∈ x_ws mJ0_coder_7d493 := by decide +kernel
theorem fJ0_isLatin1_aae02_38 : Cond.fieldLink (x_ow mJ0_isLatin1_aae02) 38 "java/lang/String" "COMPACT_STRINGS" "Z" ∈ x_ws mJ0_isLatin1_aae02 := by decide +kernel
theorem fJ0_isLatin1_aae02_15 : Cond.fieldLink (x_ow mJ0_isLatin1_aae02) 15 "java/lang/String" "coder" "B" ∈ x_ws mJ0_isLatin1_aae02 := by decide +kernel
theorem fJ0_checkIndex_df160_1053 : Cond.fieldLink (x_ow mJ0_checkIndex_df160) 1053 "jdk/internal/util/Preconditions" "SIOOBE_FORMATTER" "Ljava/util/function/BiFunction;" ∈ x_ws mJ0_checkIndex_df160 := by decide +kernel
