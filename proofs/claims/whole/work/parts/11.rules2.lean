/-! RULES THAT WRITE, MAKE, CALL AND LEAVE -/
theorem x_u2_eq {α : Type} (f : Nat → Nat → α) (i a : Nat) (v : α) : x_u2 f i a v i a = v := by simp [x_u2]
theorem x_u2_ne {α : Type} (f : Nat → Nat → α) {i a j b : Nat} (v : α) (h : j ≠ i ∨ b ≠ a) : x_u2 f i a v j b = f j b := by
  unfold x_u2
  rw [if_neg]
  rintro ⟨rfl, rfl⟩
  rcases h with h | h <;> exact h rfl
/-- what a store into a field leaves: the heap holds the abstract one with that field changed -/
theorem x_HR.put {G : x_G} {h h' : x_H} {H H1 : Heap} {a ci j : Nat} {w : Value} (hH : x_HR G h H) (hk : x_kd h a = ci) (hci : ci < 20) (hj : j < x_nf ci) (hz : H1.size = H.size) (hO : ∀ q : Nat, q ≠ a → H1[q]? = H[q]?)
    (ha : ∃ r : vw_C, vwCl[ci]? = some r ∧ t_OB a (G.2.1.1 ci) r.2.2 (G.2.1.2 ci) H1 (updV (vp_V (x_fs h ci a)) j w)) (hN : ∀ r : vw_C, vwCl[ci]? = some r → r.2.2 = x_nf ci)
    (e1 : x_sz h' = x_sz h) (e2 : x_kd h' = x_kd h) (e3 : x_ln h' = x_ln h) (e4 : x_rw h' = x_rw h) (e5 : x_rl h' = x_rl h) (e6 : ∀ i b : Nat, x_val h' i b = if i = 100 * ci + j ∧ b = a then w else x_val h i b) : x_HR G h' H1 := by
  obtain ⟨g1, g2, g3, g4⟩ := hH
  have hb : ∀ b : Nat, b ≠ a → x_obj G h' b = x_obj G h b := by
    intro b hba
    have hv : ∀ k : Nat, x_fs h' k b = x_fs h k b := by
      intro k
      unfold x_fs
      refine List.map_congr_left fun i _ => ?_
      rw [e6, if_neg (fun z => hba z.2)]
    unfold x_obj
    rw [e2, e3, e4, e5, hv]
  refine ⟨by rw [hz, e1]; exact g1, by rw [e1]; exact g2, fun b hb9 => ?_, fun q hq => ?_⟩
  · rw [e2] at hb9
    obtain ⟨g5, g6⟩ := g3 b hb9
    refine ⟨g5, ?_⟩
    by_cases hba : b = a
    · subst hba
      obtain ⟨r, r1, r2⟩ := ha
      have e7 : x_obj G h' b = .inr (ci, x_fs h' ci b) := by
        unfold x_obj
        rw [e2, hk, if_pos hci]
      rw [e7]
      refine ⟨r, r1, r2.to fun i hi => ?_⟩
      rw [hN r r1] at hi
      rw [x_fs_at hi, e6]
      by_cases hij : i = j
      · subst hij
        simp [updV]
      · rw [if_neg (by omega)]
        simp [updV, hij, x_fs_at hi]
    · rw [hb b hba]
      exact g6.kept (hO b hba)
  · have hqa : q ≠ a := by
      rintro rfl
      have := (g3 q (by rw [hk]; omega)).1
      omega
    rw [hO q hqa]
    exact g4 q hq
section XW
variable {G : x_G} {M : x_M} {D : Room → x_Z → Prop} {h0 h h' : x_H} {pc pc' : Nat} {lv lv' : x_L} {st st' : List x_V}
/-- an instruction that changes the heap, and makes nothing -/
theorem x_liftW (hz : x_sz h' = x_sz h) (hu : x_us h' = x_us h) (f : ∀ (p : Program) (e : Env) (R : Room) (s : State) (m : MethodId) (args : Array Value) (below : List Frame) (meth : Method) (c : Code) (H : Heap) (ls : Array Slot) (locs : List Loc) (cells slots : Nat) (Q : State → Prop), x_C G M p s m args meth c → lv_has ls (x_mL M) (x_ll lv) → x_HR G h H → (∀ q ∈ locs, x_Gb G ≤ q.base) →
      (∀ (H1 : Heap) (locs1 : List Loc), x_HR G h' H1 → (∀ q ∈ locs1, x_Gb G ≤ q.base) → W p G.1 e R s m args below meth c H1 locs1 cells slots Q (F0 m pc' ls (st'.map x_v))) → W p G.1 e R s m args below meth c H locs cells slots Q (F0 m pc ls (st.map x_v)))
    (k : x_E G M D h0 pc' lv st' h') : x_E G M D h0 pc lv st h := by
  obtain ⟨R, Z, hD, h1, h2, h3⟩ := k
  rw [hz, hu] at h2 h3
  exact ⟨R, Z, hD, h1, h2, fun p e s m args below meth c H ls locs hC hl hH hq => f p e R s m args below meth c H ls locs _ _ _ hC hl hH hq (fun H1 locs1 hH1 hq1 => h3 p e s m args below meth c H1 ls locs1 hC hl hH1 hq1)⟩
theorem x_locs {b : Nat} {locs : List Loc} {a k : Nat} (h : ∀ q ∈ locs, b ≤ q.base) (ha : b ≤ a) : ∀ q ∈ locs ++ [(⟨a, k⟩ : Loc)], b ≤ q.base := by
  intro q hq
  rcases List.mem_append.mp hq with h1 | h1
  · exact h q h1
  · rw [List.mem_singleton.mp h1]; exact ha
theorem x_putf {ci j idx N a : Nat} {C : String} {T : u_T} {v : x_V} {ty : FieldType} (ty0 : Nat → FieldType) (hty : ∀ k, k < N → parseFieldDescriptor (T k).2.2.1 = some (ty0 k)) (hnm : ∀ a, a < N → ∀ b, b < N → a ≠ b → (T a).2.1 ≠ (T b).2.1) (hd : decode (x_cc M) pc = .ok (.putfield idx, 3)) (hw : x_fw M ci j idx C T N) (hk : x_kd h a = ci)
    (hfin : (T j).2.2.2 = false ∨ ((T j).2.2.2 = true ∧ (x_y M).name = "<init>" ∧ (T j).1 = x_ow M)) (hdd : parseFieldDescriptor (T j).2.2.1 = some ty) (hn : narrow ty (x_v v) = x_v v) (hfit : fits ty (x_v v) = true)
    (e0 : x_us h' = x_us h) (e1 : x_sz h' = x_sz h) (e2 : x_kd h' = x_kd h) (e3 : x_ln h' = x_ln h) (e4 : x_rw h' = x_rw h) (e5 : x_rl h' = x_rl h) (e6 : ∀ i b : Nat, x_val h' i b = if i = 100 * ci + j ∧ b = a then x_v v else x_val h i b)
    (k : x_E G M D h0 (pc + 3) lv st h') : x_E G M D h0 pc lv (v :: x_r (some a) :: st) h :=
  x_liftW e1 e0 (fun p e R s m args below meth c H ls locs cells slots Q hC hl hH hq kk => by
    obtain ⟨h1, h2, h3, h4, h5, h6⟩ := hw
    have hts := hC.2.2.2.2.2.1
    have hown := hC.2.2.2.2.1
    have hK := hC.2.2.2.2.2.2.2.1.1
    have hap := va_apart (own := x_ow M) hts h5 ty0 hty hnm hK h1
    have hb : x_Gb G ≤ a := (hH.2.2.1 a (by rw [hk]; omega)).1
    obtain ⟨r, g1, cell, q1, q2, q3, q4⟩ := x_at hH h2 hk
    have hr : r = (C, T, N) := Option.some.inj (g1.symm.trans h1)
    subst hr
    obtain ⟨hS, hfc, kC, hkC, hkind⟩ := hK.1 ci _ h1
    obtain ⟨cf, kf, fi, f, hi, hsl⟩ := hS j h4
    have hst := (u_facts hfc hkC (u_lays hts h5 h4) hi).1
    have hlay := hts _ (h5 _ (u_in_lay h4))
    unfold u_lay at hlay
    have hfs : (x_fs h ci a).length = N := by rw [x_fs_len, h3]
    have fin : ∀ H' : Heap, H'[a]? = some (cell.setSlot f.slot (x_v v)) → H'.size = H.size → (∀ q, q ≠ a → H'[q]? = H[q]?) → x_HR G h' H' := by
      intro H' z1 z2 z3
      rw [hsl] at z1
      exact hH.put hk h2 (by rw [h3]; exact h4) z2 z3 ⟨_, h1, ⟨_, z1, q2, q3, t_set q4 hap h4 (x_v v)⟩⟩ (fun r hr => by have := Option.some.inj (hr.symm.trans h1); subst this; exact h3.symm) e1 e2 e3 e4 e5 e6
    rcases hfin with hfin | ⟨hfin, hin, hdecl⟩
    · rw [if_neg (by rw [hfin]; decide)] at hlay
      have h9 := u_store hfc hkC hkind hlay hi hdd hn hfit
      refine W.putK hC.1 hC.2.1 (f := f) ⟨hown, hts _ h6, ⟨_, _, _, hi⟩, hst⟩ (by rw [q2]; exact h9) q1 q3 (by rw [hsl]; exact k2_hasslot (q4 j h4)) rfl rfl hd fun H' z1 z2 z3 => ?_
      exact kk H' _ (fin H' z1 z2 z3) (x_locs hq hb)
    · rw [if_pos hfin] at hlay
      have hcf : m.cls = cf := by
        obtain ⟨_, _, c', _, _, _, -, -, hf', -, -, -, hown2, -⟩ := Cond.laysFinal_spec hlay
        have e1 : c' = cf := by have := hi.symm.trans hf'; simp at this; exact this.1.symm
        rw [hdecl] at hown2
        rw [← e1]; exact Option.some.inj (hown.symm.trans hown2)
      have h9 := u_fits hfc hkC hkind (Or.inr hlay) hi hdd hn hfit
      refine W.putFinK hC.1 hC.2.1 hown (hts _ h6) hi hst hcf (by rw [hC.2.2.2.2.2.2.2.2]; exact hin) (by rw [q2]; exact h9) q1 q3 (by rw [hsl]; exact k2_hasslot (q4 j h4)) rfl rfl hd fun H' z1 z2 z3 => ?_
      exact kk H' _ (fin H' z1 z2 z3) (x_locs hq hb)) k
/-- the words of a store: besides those of a read, the fields' types and names -/
def x_pw (M : x_M) (ci j idx : Nat) (C : String) (T : u_T) (N : Nat) (ty : FieldType) : Prop := x_fw M ci j idx C T N ∧ (∃ ty0 : Nat → FieldType, ∀ k, k < N → parseFieldDescriptor (T k).2.2.1 = some (ty0 k)) ∧ (∀ a, a < N → ∀ b, b < N → a ≠ b → (T a).2.1 ≠ (T b).2.1) ∧ ((T j).2.2.2 = false ∨ ((T j).2.2.2 = true ∧ (x_y M).name = "<init>" ∧ (T j).1 = x_ow M)) ∧ parseFieldDescriptor (T j).2.2.1 = some ty
theorem x_putI {ci j idx N a i : Nat} {C : String} {T : u_T} {v : Int32} {ty : FieldType} (hd : decode (x_cc M) pc = .ok (.putfield idx, 3)) (hw : x_pw M ci j idx C T N ty) (hi : 100 * ci + j = i) (hf : x_ft i = 0) (hk : x_kd h a = ci) (hn : narrow ty (.int v) = .int v) (hfit : fits ty (.int v) = true) (k : x_E G M D h0 (pc + 3) lv st (x_sI h i a v)) : x_E G M D h0 pc lv (x_i v :: x_r (some a) :: st) h := by
  obtain ⟨w1, ⟨ty0, w2⟩, w3, w4, w5⟩ := hw
  subst hi
  refine x_putf (h' := x_sI h (100 * ci + j) a v) ty0 w2 w3 hd w1 hk w4 w5 hn hfit rfl rfl rfl rfl rfl rfl (fun i b => ?_) k
  by_cases hc : i = 100 * ci + j ∧ b = a
  · obtain ⟨rfl, rfl⟩ := hc
    rw [if_pos ⟨rfl, rfl⟩]
    unfold x_val
    rw [if_pos hf]
    show Value.int (x_u2 (x_fi h) _ _ v _ _) = _
    rw [x_u2_eq]
    rfl
  · rw [if_neg hc]
    unfold x_val
    show (if x_ft i = 0 then Value.int (x_u2 (x_fi h) _ _ v i b) else _) = _
    rw [x_u2_ne _ _ (by by_cases z : i = 100 * ci + j; exact Or.inr (fun y => hc ⟨z, y⟩); exact Or.inl z)]
    rfl
theorem x_putR {ci j idx N a i : Nat} {C : String} {T : u_T} {v : Option Nat} {ty : FieldType} (hd : decode (x_cc M) pc = .ok (.putfield idx, 3)) (hw : x_pw M ci j idx C T N ty) (hi : 100 * ci + j = i) (hf : x_ft i = 1) (hk : x_kd h a = ci) (hty : (∃ n, ty = .object n) ∨ ∃ t, ty = .array t) (k : x_E G M D h0 (pc + 3) lv st (x_sR h i a v)) : x_E G M D h0 pc lv (x_r v :: x_r (some a) :: st) h := by
  obtain ⟨w1, ⟨ty0, w2⟩, w3, w4, w5⟩ := hw
  subst hi
  refine x_putf (h' := x_sR h (100 * ci + j) a v) ty0 w2 w3 hd w1 hk w4 w5 ?_ ?_ rfl rfl rfl rfl rfl rfl (fun i b => ?_) k
  · rcases hty with ⟨n, rfl⟩ | ⟨n, rfl⟩ <;> cases v <;> rfl
  · rcases hty with ⟨n, rfl⟩ | ⟨n, rfl⟩ <;> cases v <;> rfl
  by_cases hc : i = 100 * ci + j ∧ b = a
  · obtain ⟨rfl, rfl⟩ := hc
    rw [if_pos ⟨rfl, rfl⟩]
    unfold x_val
    rw [if_neg (by rw [hf]; decide), if_pos hf]
    show va_rf (x_u2 (x_fr h) _ _ v _ _) = _
    rw [x_u2_eq]
    rfl
  · rw [if_neg hc]
    unfold x_val
    show (if x_ft i = 0 then _ else if x_ft i = 1 then va_rf (x_u2 (x_fr h) _ _ v i b) else _) = _
    rw [x_u2_ne _ _ (by by_cases z : i = 100 * ci + j; exact Or.inr (fun y => hc ⟨z, y⟩); exact Or.inl z)]
    rfl
theorem x_putL {ci j idx N a i : Nat} {C : String} {T : u_T} {v : Int64} (hd : decode (x_cc M) pc = .ok (.putfield idx, 3)) (hw : x_pw M ci j idx C T N .long) (hi : 100 * ci + j = i) (hf : x_ft i = 2) (hk : x_kd h a = ci) (k : x_E G M D h0 (pc + 3) lv st (x_sL h i a v)) : x_E G M D h0 pc lv (x_l v :: x_r (some a) :: st) h := by
  obtain ⟨w1, ⟨ty0, w2⟩, w3, w4, w5⟩ := hw
  subst hi
  refine x_putf (h' := x_sL h (100 * ci + j) a v) ty0 w2 w3 hd w1 hk w4 w5 rfl rfl rfl rfl rfl rfl rfl rfl (fun i b => ?_) k
  by_cases hc : i = 100 * ci + j ∧ b = a
  · obtain ⟨rfl, rfl⟩ := hc
    rw [if_pos ⟨rfl, rfl⟩]
    unfold x_val
    rw [if_neg (by rw [hf]; decide), if_neg (by rw [hf]; decide)]
    show Value.long (x_u2 (x_fl h) _ _ v _ _) = _
    rw [x_u2_eq]
    rfl
  · rw [if_neg hc]
    unfold x_val
    show (if x_ft i = 0 then _ else if x_ft i = 1 then _ else Value.long (x_u2 (x_fl h) _ _ v i b)) = _
    rw [x_u2_ne _ _ (by by_cases z : i = 100 * ci + j; exact Or.inr (fun y => hc ⟨z, y⟩); exact Or.inl z)]
    rfl
/-- what a store into an array leaves -/
theorem x_HR.putA {H H1 : Heap} {a kd i : Nat} {v : Int32} (hH : x_HR G h H) (hk : x_kd h a = kd) (g20 : 20 ≤ kd) (g23 : kd < 23) (hz : H1.size = H.size) (hO : ∀ q : Nat, q ≠ a → H1[q]? = H[q]?)
    (ha : H1[a]? = some (vp_cell (G.2.2.1 kd) (x_ln h a, .inl (upd (x_rw h a) i v)))) : x_HR G (x_sA h a i v) H1 := by
  obtain ⟨g1, g2, g3, g4⟩ := hH
  refine ⟨hz.trans g1, g2, fun b hb9 => ?_, fun q hq => ?_⟩
  · have hb9 : x_kd h b ≠ 99 := hb9
    obtain ⟨g5, g6⟩ := g3 b hb9
    refine ⟨g5, ?_⟩
    by_cases hba : b = a
    · subst hba
      have e7 : x_obj G (x_sA h b i v) b = .inl (G.2.2.1 kd, x_ln h b, .inl (upd (x_rw h b) i v)) := by
        unfold x_obj
        show (if x_kd h b < 20 then _ else if x_kd h b = 23 then _ else Sum.inl (G.2.2.1 (x_kd h b), x_ln h b, Sum.inl (x_u2 (x_rw h) b i v b))) = _
        rw [hk, if_neg (by omega), if_neg (by omega)]
        congr 4
        funext j
        by_cases hj : j = i
        · subst hj; simp [x_u2, upd]
        · simp [x_u2, upd, hj]
      rw [e7]
      exact ha
    · have e7 : x_obj G (x_sA h a i v) b = x_obj G h b := by
        unfold x_obj
        show (if x_kd h b < 20 then _ else if x_kd h b = 23 then _ else Sum.inl (G.2.2.1 (x_kd h b), x_ln h b, Sum.inl (x_u2 (x_rw h) a i v b))) = _
        have e8 : x_u2 (x_rw h) a i v b = x_rw h b := by
          funext j
          exact x_u2_ne _ _ (Or.inl hba)
        rw [e8]
        rfl
      rw [e7]
      exact g6.kept (hO b hba)
  · have hqa : q ≠ a := by
      rintro rfl
      have := (g3 q (by rw [hk]; omega)).1
      omega
    rw [hO q hqa]
    exact g4 q hq
theorem x_D1 {A : Nat → Prop} {q : Nat × va_E} (h : A q.1) : va_D A [q] := by
  refine ⟨fun i j x y hi hj _ => ?_, fun k x hx => ?_⟩
  · have h1 := (List.getElem?_eq_some_iff.mp hi).1
    have h2 := (List.getElem?_eq_some_iff.mp hj).1
    simp at h1 h2
    omega
  · have h1 := (List.getElem?_eq_some_iff.mp hx).1
    have h2 : k = 0 := by simp at h1; omega
    subst h2
    cases hx
    exact h
theorem x_iastore {a : Nat} {i x v : Int32} (hd : decode (x_cc M) pc = .ok (.iastore, 1)) (hk : x_kd h a = 20) (hin : vp_in i (x_ln h a)) (hv : x = v) (k : x_E G M D h0 (pc + 1) lv st (x_sA h a i.toNatClampNeg v)) : x_E G M D h0 pc lv (x_i x :: x_i i :: x_r (some a) :: st) h :=
  x_liftW (h' := x_sA h a i.toNatClampNeg v) rfl rfl (fun p e R s m args below meth c H ls locs cells slots Q hC hl hH hq kk => by
    have hb : x_Gb G ≤ a := (hH.2.2.1 a (by rw [hk]; omega)).1
    have hA := x_atA hH (by omega) (by omega) hk
    refine W.iast hC.1 hC.2.1 hA ((hC.2.2.2.2.2.2.2.1.1.2 0 _ rfl).1 (x_ln h a) (fun j => .int (x_rw h a j))) (fun q => by cases q) (by show ¬ (i < 0 ∨ (arrV _ _ _).slots.size ≤ _); rw [arrV_size]; exact hin) rfl rfl hd fun H1 e1 z1 o1 => ?_
    refine kk H1 _ (hH.putA hk (by omega) (by omega) z1 o1 ?_) (x_locs hq hb)
    rw [e1, hv]
    rw [vp_cell_i, vp_cell_i, arrV_store]
    congr 2
    funext q
    by_cases hq : q = i.toNatClampNeg
    · subst hq
      simp [updV, upd]
    · simp [updV, upd, hq]) k
theorem x_bastore {a : Nat} {i x v : Int32} (hd : decode (x_cc M) pc = .ok (.bastore, 1)) (hk : x_kd h a = 21) (hin : vp_in i (x_ln h a)) (hv : narrow .byte (.int x) = .int v) (k : x_E G M D h0 (pc + 1) lv st (x_sA h a i.toNatClampNeg v)) : x_E G M D h0 pc lv (x_i x :: x_i i :: x_r (some a) :: st) h :=
  x_liftW (h' := x_sA h a i.toNatClampNeg v) rfl rfl (fun p e R s m args below meth c H ls locs cells slots Q hC hl hH hq kk => by
    have hb : x_Gb G ≤ a := (hH.2.2.1 a (by rw [hk]; omega)).1
    have hA := x_atA hH (by omega) (by omega) hk
    refine W.bast hC.1 hC.2.1 hA ((hC.2.2.2.2.2.2.2.1.1.2 1 _ rfl).1 (x_ln h a) (fun j => .int (x_rw h a j))) (fun q => by cases q) (by show ¬ (i < 0 ∨ (arrV _ _ _).slots.size ≤ _); rw [arrV_size]; exact hin) rfl rfl hd fun H1 e1 z1 o1 => ?_
    refine kk H1 _ (hH.putA hk (by omega) (by omega) z1 o1 ?_) (x_locs hq hb)
    rw [e1, hv]
    rw [vp_cell_i, vp_cell_i, arrV_store]
    congr 2
    funext q
    by_cases hq : q = i.toNatClampNeg
    · subst hq
      simp [updV, upd]
    · simp [updV, upd, hq]) k
theorem x_zastore {a : Nat} {i x v : Int32} (hd : decode (x_cc M) pc = .ok (.bastore, 1)) (hk : x_kd h a = 22) (hin : vp_in i (x_ln h a)) (hv : narrow .boolean (.int x) = .int v) (k : x_E G M D h0 (pc + 1) lv st (x_sA h a i.toNatClampNeg v)) : x_E G M D h0 pc lv (x_i x :: x_i i :: x_r (some a) :: st) h :=
  x_liftW (h' := x_sA h a i.toNatClampNeg v) rfl rfl (fun p e R s m args below meth c H ls locs cells slots Q hC hl hH hq kk => by
    have hb : x_Gb G ≤ a := (hH.2.2.1 a (by rw [hk]; omega)).1
    have hA := x_atA hH (by omega) (by omega) hk
    refine W.zast hC.1 hC.2.1 hA ((hC.2.2.2.2.2.2.2.1.1.2 2 _ rfl).1 (x_ln h a) (fun j => .int (x_rw h a j))) (fun q => by cases q) (by show ¬ (i < 0 ∨ (arrV _ _ _).slots.size ≤ _); rw [arrV_size]; exact hin) rfl rfl hd fun H1 e1 z1 o1 => ?_
    refine kk H1 _ (hH.putA hk (by omega) (by omega) z1 o1 ?_) (x_locs hq hb)
    rw [e1, hv]
    rw [vp_cell_i, vp_cell_i, arrV_store]
    congr 2
    funext q
    by_cases hq : q = i.toNatClampNeg
    · subst hq
      simp [updV, upd]
    · simp [updV, upd, hq]) k
theorem x_iastoreN {a n : Nat} {i x v : Int32} (hd : decode (x_cc M) pc = .ok (.iastore, 1)) (hk : x_kd h a = 20) (hi : i = nI n) (hn : n < x_ln h a) (hl : x_ln h a < 2 ^ 31) (hv : x = v) (k : x_E G M D h0 (pc + 1) lv st (x_sA h a n v)) : x_E G M D h0 pc lv (x_i x :: x_i i :: x_r (some a) :: st) h := by
  subst hi
  exact x_iastore hd hk (vp_in_nI hn hl) hv (by rw [nI_clamp (Nat.lt_trans hn hl)]; exact k)
theorem x_bastoreN {a n : Nat} {i x v : Int32} (hd : decode (x_cc M) pc = .ok (.bastore, 1)) (hk : x_kd h a = 21) (hi : i = nI n) (hn : n < x_ln h a) (hl : x_ln h a < 2 ^ 31) (hv : narrow .byte (.int x) = .int v) (k : x_E G M D h0 (pc + 1) lv st (x_sA h a n v)) : x_E G M D h0 pc lv (x_i x :: x_i i :: x_r (some a) :: st) h := by
  subst hi
  exact x_bastore hd hk (vp_in_nI hn hl) hv (by rw [nI_clamp (Nat.lt_trans hn hl)]; exact k)
theorem x_zastoreN {a n : Nat} {i x v : Int32} (hd : decode (x_cc M) pc = .ok (.bastore, 1)) (hk : x_kd h a = 22) (hi : i = nI n) (hn : n < x_ln h a) (hl : x_ln h a < 2 ^ 31) (hv : narrow .boolean (.int x) = .int v) (k : x_E G M D h0 (pc + 1) lv st (x_sA h a n v)) : x_E G M D h0 pc lv (x_i x :: x_i i :: x_r (some a) :: st) h := by
  subst hi
  exact x_zastore hd hk (vp_in_nI hn hl) hv (by rw [nI_clamp (Nat.lt_trans hn hl)]; exact k)
theorem x_HR.putJ {H H1 : Heap} {a i : Nat} {v : Int64} (hH : x_HR G h H) (hk : x_kd h a = 23) (hz : H1.size = H.size) (hO : ∀ q : Nat, q ≠ a → H1[q]? = H[q]?)
    (ha : H1[a]? = some (vp_cell (G.2.2.1 23) (x_ln h a, .inr (.inl (vp_updL (x_rl h a) i v))))) : x_HR G (x_sJ h a i v) H1 := by
  obtain ⟨g1, g2, g3, g4⟩ := hH
  refine ⟨hz.trans g1, g2, fun b hb9 => ?_, fun q hq => ?_⟩
  · have hb9 : x_kd h b ≠ 99 := hb9
    obtain ⟨g5, g6⟩ := g3 b hb9
    refine ⟨g5, ?_⟩
    by_cases hba : b = a
    · subst hba
      have e7 : x_obj G (x_sJ h b i v) b = .inl (G.2.2.1 23, x_ln h b, .inr (.inl (vp_updL (x_rl h b) i v))) := by
        unfold x_obj
        show (if x_kd h b < 20 then _ else if x_kd h b = 23 then Sum.inl (G.2.2.1 23, x_ln h b, Sum.inr (Sum.inl (x_u2 (x_rl h) b i v b))) else _) = _
        rw [hk, if_neg (by omega), if_pos rfl]
        congr 5
        funext j
        by_cases hj : j = i
        · subst hj; simp [x_u2, vp_updL]
        · simp [x_u2, vp_updL, hj]
      rw [e7]
      exact ha
    · have e7 : x_obj G (x_sJ h a i v) b = x_obj G h b := by
        unfold x_obj
        show (if x_kd h b < 20 then _ else if x_kd h b = 23 then Sum.inl (G.2.2.1 23, x_ln h b, Sum.inr (Sum.inl (x_u2 (x_rl h) a i v b))) else _) = _
        have e8 : x_u2 (x_rl h) a i v b = x_rl h b := by
          funext j
          exact x_u2_ne _ _ (Or.inl hba)
        rw [e8]
        rfl
      rw [e7]
      exact g6.kept (hO b hba)
  · have hqa : q ≠ a := by
      rintro rfl
      have := (g3 q (by rw [hk]; omega)).1
      omega
    rw [hO q hqa]
    exact g4 q hq
theorem x_lastore {a : Nat} {i : Int32} {x : Int64} (hd : decode (x_cc M) pc = .ok (.lastore, 1)) (hk : x_kd h a = 23) (hin : vp_in i (x_ln h a)) (k : x_E G M D h0 (pc + 1) lv st (x_sJ h a i.toNatClampNeg x)) : x_E G M D h0 pc lv (x_l x :: x_i i :: x_r (some a) :: st) h :=
  x_liftW (h' := x_sJ h a i.toNatClampNeg x) rfl rfl (fun p e R s m args below meth c H ls locs cells slots Q hC hl hH hq kk => by
    have hb : x_Gb G ≤ a := (hH.2.2.1 a (by rw [hk]; omega)).1
    have hA := x_atJ hH hk
    refine W.last hC.1 hC.2.1 hA ((hC.2.2.2.2.2.2.2.1.1.2 3 _ rfl).1 (x_ln h a) (fun j => .long (x_rl h a j))) (fun q => by cases q) (by show ¬ (i < 0 ∨ (arrV _ _ _).slots.size ≤ _); rw [arrV_size]; exact hin) rfl rfl hd fun H1 e1 z1 o1 => ?_
    refine kk H1 _ (hH.putJ hk z1 o1 ?_) (x_locs hq hb)
    rw [e1]
    rw [vp_cell_l, vp_cell_l, arrV_store]
    congr 2
    funext q
    by_cases hq : q = i.toNatClampNeg
    · subst hq
      simp [updV, vp_updL]
    · simp [updV, vp_updL, hq]) k
/-- making: the cells grow -/
theorem x_liftN {n : Nat} (hz : x_sz h' = x_sz h + 1) (hu : x_us h' = x_us h + n) (f : ∀ (p : Program) (e : Env) (R : Room) (s : State) (m : MethodId) (args : Array Value) (below : List Frame) (meth : Method) (c : Code) (H : Heap) (ls : Array Slot) (locs : List Loc) (cells slots : Nat) (Q : State → Prop), x_C G M p s m args meth c → lv_has ls (x_mL M) (x_ll lv) → x_HR G h H → (∀ q ∈ locs, x_Gb G ≤ q.base) → cells + 1 ≤ R.cells → slots + n ≤ R.slots →
      (∀ (H1 : Heap), x_HR G h' H1 → W p G.1 e R s m args below meth c H1 locs (cells + 1) (slots + n) Q (F0 m pc' ls (st'.map x_v))) → W p G.1 e R s m args below meth c H locs cells slots Q (F0 m pc ls (st.map x_v)))
    (hle : x_sz h0 ≤ x_sz h ∧ x_us h0 ≤ x_us h) (k : x_E G M D h0 pc' lv st' h') : x_E G M D h0 pc lv st h := by
  obtain ⟨R, Z, hD, h1, h2, h3⟩ := k
  refine ⟨R, Z, hD, h1, ⟨hle.1, hle.2, by omega, by omega⟩, fun p e s m args below meth c H ls locs hC hl hH hq => f p e R s m args below meth c H ls locs _ _ _ hC hl hH hq (by omega) (by omega) (fun H1 hH1 => ?_)⟩
  have k9 := h3 p e s m args below meth c H1 ls locs hC hl hH1 hq
  rw [hz, hu] at k9
  rw [show x_sz h - x_sz h0 + 1 = x_sz h + 1 - x_sz h0 by omega, show x_us h - x_us h0 + n = x_us h + n - x_us h0 by omega]
  exact k9
theorem x_HR.new {H H1 : Heap} (hH : x_HR G h H) (hz : H1.size = H.size + 1) (hO : ∀ q : Nat, q < H.size → H1[q]? = H[q]?) (e1 : x_sz h' = x_sz h + 1) (hk : ∀ b : Nat, b ≠ x_sz h → x_kd h' b = x_kd h b) (ho : ∀ b : Nat, b ≠ x_sz h → x_obj G h' b = x_obj G h b) (ha : va_at G.2.1 vwCl (x_sz h, x_obj G h' (x_sz h)) H1) : x_HR G h' H1 := by
  obtain ⟨g1, g2, g3, g4⟩ := hH
  refine ⟨by omega, by omega, fun b hb => ?_, fun q hq => ?_⟩
  · by_cases hb2 : b = x_sz h
    · subst hb2
      exact ⟨g2, ha⟩
    · rw [hk b hb2] at hb
      obtain ⟨g5, g6⟩ := g3 b hb
      rw [ho b hb2]
      exact ⟨g5, g6.kept (hO b g6.lt)⟩
  · rw [hO q (by omega)]
    exact g4 q hq
/-- the words of a new object -/
def x_nw (M : x_M) (ci idx : Nat) (C : String) (T : u_T) (N : Nat) : Prop := vwCl[ci]? = some (C, T, N) ∧ ci < 20 ∧ x_nf ci = N ∧ (∀ w ∈ u_ws C T N, w ∈ x_ws M) ∧ Cond.classLink (x_ow M) idx C ∈ x_ws M ∧ Cond.instantiable C N ∈ x_ws M ∧ Cond.initialized C ∈ x_ws M ∧ ∃ ty : Nat → FieldType, (∀ k, k < N → parseFieldDescriptor (T k).2.2.1 = some (ty k)) ∧ ∀ k, k < N → defaultValue (ty k) = (if x_ft (100 * ci + k) = 0 then .int 0 else if x_ft (100 * ci + k) = 1 then .null else .long 0)
theorem x_new {ci idx N : Nat} {C : String} {T : u_T} (hd : decode (x_cc M) pc = .ok (.new idx, 3)) (hw : x_nw M ci idx C T N) (hle : x_sz h0 ≤ x_sz h ∧ x_us h0 ≤ x_us h) (k : x_E G M D h0 (pc + 3) lv (x_r (some (x_sz h)) :: st) (x_nO h ci N)) : x_E G M D h0 pc lv st h :=
  x_liftN (n := N) rfl rfl (fun p e R s m args below meth c H ls locs cells slots Q hC hl hH hq hc1 hs1 kk => by
    obtain ⟨h1, h2, h3, h4, h5, h6, h7, ty, h8, h9⟩ := hw
    have hts := hC.2.2.2.2.2.1
    have hKn := hC.2.2.2.2.2.2.2.1.1.1 ci _ h1
    refine W.newcK hC.1 hC.2.1 hC.2.2.2.2.1 (hts _ h5) (hts _ h6) (hts _ h7) rfl hd hc1 hs1 hKn.2.1 hH.1 fun H1 kC hkC e1 z1 o1 => ?_
    refine kk H1 (hH.new (by rw [hH.1]; exact z1) (fun q hq => o1 q (by rw [← hH.1]; exact hq)) rfl (fun b hb => by show va_up _ _ _ b = _; simp [va_up, hb]) (fun b hb => ?_) ?_)
    · have hv : ∀ i : Nat, x_val (x_nO h ci N) i b = x_val h i b := by
        intro i
        unfold x_val
        show (if x_ft i = 0 then Value.int (x_ud (x_fi h) (x_sz h) 0 i b) else if x_ft i = 1 then va_rf (x_ud (x_fr h) (x_sz h) none i b) else Value.long (x_ud (x_fl h) (x_sz h) 0 i b)) = _
        simp [x_ud, hb]
      have hf : ∀ kk : Nat, x_fs (x_nO h ci N) kk b = x_fs h kk b := by
        intro kk
        unfold x_fs
        exact List.map_congr_left fun i _ => hv _
      have hkd : x_kd (x_nO h ci N) b = x_kd h b := by show va_up _ _ _ b = _; simp [va_up, hb]
      unfold x_obj
      rw [hkd, hf]
      rfl
    · have hkd : x_kd (x_nO h ci N) (x_sz h) = ci := by show va_up _ _ _ _ = _; simp [va_up]
      unfold x_obj
      rw [hkd, if_pos h2]
      refine ⟨_, h1, (u_born ty hts h4 hKn hkC e1 h8).to fun j hj => ?_⟩
      rw [h9 j hj, x_fs_at (by rw [h3]; exact hj)]
      unfold x_val
      show _ = (if x_ft (100 * ci + j) = 0 then Value.int (x_ud (x_fi h) (x_sz h) 0 _ _) else if x_ft (100 * ci + j) = 1 then va_rf (x_ud (x_fr h) (x_sz h) none _ _) else Value.long (x_ud (x_fl h) (x_sz h) 0 _ _))
      simp [x_ud, va_rf]) hle k
theorem x_newa_i {n : Int32} {N : Nat} (hd : decode (x_cc M) pc = .ok (.newarray .int, 2)) (hw : Cond.arrayClass .int ∈ x_ws M) (hn : ¬ n < 0) (hN : n.toNatClampNeg = N) (hb : N ≤ 3000) (hle : x_sz h0 ≤ x_sz h ∧ x_us h0 ≤ x_us h) (k : x_E G M D h0 (pc + 2) lv (x_r (some (x_sz h)) :: st) (x_nA h 20 N)) : x_E G M D h0 pc lv (x_i n :: st) h :=
  x_liftN (n := N) rfl rfl (fun p e R s m args below meth c H ls locs cells slots Q hC hl hH hq hc1 hs1 kk => by
    have hK := hC.2.2.2.2.2.2.2.1.1
    refine va_newaK hC.1 hC.2.1 (atype := .int) (hC.2.2.2.2.2.1 _ hw) rfl hd rfl hn hN (by show N * componentBytes .int ≤ _; simp only [componentBytes]; omega) hc1 hs1 hH.1 fun H1 cA e1 z1 o1 hAr hNm => ?_
    have hcA : cA = G.2.2.1 20 := by
      have h1 := (hK.2 0 _ rfl).2
      exact Option.some.inj (hNm.symm.trans h1)
    subst hcA
    refine kk H1 (hH.new (by rw [hH.1]; exact z1) (fun q hq => o1 q (by rw [← hH.1]; exact hq)) rfl (fun b hb => by show va_up _ _ _ b = _; simp [va_up, hb]) (fun b hb => ?_) ?_)
    · have hkd : x_kd (x_nA h 20 N) b = x_kd h b := by show va_up _ _ _ b = _; simp [va_up, hb]
      have hln : x_ln (x_nA h 20 N) b = x_ln h b := by show va_up _ _ _ b = _; simp [va_up, hb]
      have hrw : x_rw (x_nA h 20 N) b = x_rw h b := by show va_up _ _ _ b = _; simp [va_up, hb]
      have hrl : x_rl (x_nA h 20 N) b = x_rl h b := by show va_up _ _ _ b = _; simp [va_up, hb]
      unfold x_obj
      rw [hkd, hln, hrw, hrl]
      rfl
    · have hkd : x_kd (x_nA h 20 N) (x_sz h) = 20 := by show va_up _ _ _ _ = _; simp [va_up]
      have hln : x_ln (x_nA h 20 N) (x_sz h) = N := by show va_up _ _ _ _ = _; simp [va_up]
      have hrw : x_rw (x_nA h 20 N) (x_sz h) = fun _ => 0 := by show va_up _ _ _ _ = _; simp [va_up]
      have hrl : x_rl (x_nA h 20 N) (x_sz h) = fun _ => 0 := by show va_up _ _ _ _ = _; simp [va_up]
      unfold x_obj
      rw [hkd, hln, hrw, hrl]
      rw [if_neg (by omega), if_neg (by omega)]
      exact e1) hle k
theorem x_newa_b {n : Int32} {N : Nat} (hd : decode (x_cc M) pc = .ok (.newarray .byte, 2)) (hw : Cond.arrayClass .byte ∈ x_ws M) (hn : ¬ n < 0) (hN : n.toNatClampNeg = N) (hb : N ≤ 3000) (hle : x_sz h0 ≤ x_sz h ∧ x_us h0 ≤ x_us h) (k : x_E G M D h0 (pc + 2) lv (x_r (some (x_sz h)) :: st) (x_nA h 21 N)) : x_E G M D h0 pc lv (x_i n :: st) h :=
  x_liftN (n := N) rfl rfl (fun p e R s m args below meth c H ls locs cells slots Q hC hl hH hq hc1 hs1 kk => by
    have hK := hC.2.2.2.2.2.2.2.1.1
    refine va_newaK hC.1 hC.2.1 (atype := .byte) (hC.2.2.2.2.2.1 _ hw) rfl hd rfl hn hN (by show N * componentBytes .byte ≤ _; simp only [componentBytes]; omega) hc1 hs1 hH.1 fun H1 cA e1 z1 o1 hAr hNm => ?_
    have hcA : cA = G.2.2.1 21 := by
      have h1 := (hK.2 1 _ rfl).2
      exact Option.some.inj (hNm.symm.trans h1)
    subst hcA
    refine kk H1 (hH.new (by rw [hH.1]; exact z1) (fun q hq => o1 q (by rw [← hH.1]; exact hq)) rfl (fun b hb => by show va_up _ _ _ b = _; simp [va_up, hb]) (fun b hb => ?_) ?_)
    · have hkd : x_kd (x_nA h 21 N) b = x_kd h b := by show va_up _ _ _ b = _; simp [va_up, hb]
      have hln : x_ln (x_nA h 21 N) b = x_ln h b := by show va_up _ _ _ b = _; simp [va_up, hb]
      have hrw : x_rw (x_nA h 21 N) b = x_rw h b := by show va_up _ _ _ b = _; simp [va_up, hb]
      have hrl : x_rl (x_nA h 21 N) b = x_rl h b := by show va_up _ _ _ b = _; simp [va_up, hb]
      unfold x_obj
      rw [hkd, hln, hrw, hrl]
      rfl
    · have hkd : x_kd (x_nA h 21 N) (x_sz h) = 21 := by show va_up _ _ _ _ = _; simp [va_up]
      have hln : x_ln (x_nA h 21 N) (x_sz h) = N := by show va_up _ _ _ _ = _; simp [va_up]
      have hrw : x_rw (x_nA h 21 N) (x_sz h) = fun _ => 0 := by show va_up _ _ _ _ = _; simp [va_up]
      have hrl : x_rl (x_nA h 21 N) (x_sz h) = fun _ => 0 := by show va_up _ _ _ _ = _; simp [va_up]
      unfold x_obj
      rw [hkd, hln, hrw, hrl]
      rw [if_neg (by omega), if_neg (by omega)]
      exact e1) hle k
theorem x_newa_z {n : Int32} {N : Nat} (hd : decode (x_cc M) pc = .ok (.newarray .boolean, 2)) (hw : Cond.arrayClass .boolean ∈ x_ws M) (hn : ¬ n < 0) (hN : n.toNatClampNeg = N) (hb : N ≤ 3000) (hle : x_sz h0 ≤ x_sz h ∧ x_us h0 ≤ x_us h) (k : x_E G M D h0 (pc + 2) lv (x_r (some (x_sz h)) :: st) (x_nA h 22 N)) : x_E G M D h0 pc lv (x_i n :: st) h :=
  x_liftN (n := N) rfl rfl (fun p e R s m args below meth c H ls locs cells slots Q hC hl hH hq hc1 hs1 kk => by
    have hK := hC.2.2.2.2.2.2.2.1.1
    refine va_newaK hC.1 hC.2.1 (atype := .boolean) (hC.2.2.2.2.2.1 _ hw) rfl hd rfl hn hN (by show N * componentBytes .boolean ≤ _; simp only [componentBytes]; omega) hc1 hs1 hH.1 fun H1 cA e1 z1 o1 hAr hNm => ?_
    have hcA : cA = G.2.2.1 22 := by
      have h1 := (hK.2 2 _ rfl).2
      exact Option.some.inj (hNm.symm.trans h1)
    subst hcA
    refine kk H1 (hH.new (by rw [hH.1]; exact z1) (fun q hq => o1 q (by rw [← hH.1]; exact hq)) rfl (fun b hb => by show va_up _ _ _ b = _; simp [va_up, hb]) (fun b hb => ?_) ?_)
    · have hkd : x_kd (x_nA h 22 N) b = x_kd h b := by show va_up _ _ _ b = _; simp [va_up, hb]
      have hln : x_ln (x_nA h 22 N) b = x_ln h b := by show va_up _ _ _ b = _; simp [va_up, hb]
      have hrw : x_rw (x_nA h 22 N) b = x_rw h b := by show va_up _ _ _ b = _; simp [va_up, hb]
      have hrl : x_rl (x_nA h 22 N) b = x_rl h b := by show va_up _ _ _ b = _; simp [va_up, hb]
      unfold x_obj
      rw [hkd, hln, hrw, hrl]
      rfl
    · have hkd : x_kd (x_nA h 22 N) (x_sz h) = 22 := by show va_up _ _ _ _ = _; simp [va_up]
      have hln : x_ln (x_nA h 22 N) (x_sz h) = N := by show va_up _ _ _ _ = _; simp [va_up]
      have hrw : x_rw (x_nA h 22 N) (x_sz h) = fun _ => 0 := by show va_up _ _ _ _ = _; simp [va_up]
      have hrl : x_rl (x_nA h 22 N) (x_sz h) = fun _ => 0 := by show va_up _ _ _ _ = _; simp [va_up]
      unfold x_obj
      rw [hkd, hln, hrw, hrl]
      rw [if_neg (by omega), if_neg (by omega)]
      exact e1) hle k
theorem x_newa_j {n : Int32} {N : Nat} (hd : decode (x_cc M) pc = .ok (.newarray .long, 2)) (hw : Cond.arrayClass .long ∈ x_ws M) (hn : ¬ n < 0) (hN : n.toNatClampNeg = N) (hb : N ≤ 3000) (hle : x_sz h0 ≤ x_sz h ∧ x_us h0 ≤ x_us h) (k : x_E G M D h0 (pc + 2) lv (x_r (some (x_sz h)) :: st) (x_nA h 23 N)) : x_E G M D h0 pc lv (x_i n :: st) h :=
  x_liftN (n := N) rfl rfl (fun p e R s m args below meth c H ls locs cells slots Q hC hl hH hq hc1 hs1 kk => by
    have hK := hC.2.2.2.2.2.2.2.1.1
    refine va_newaK hC.1 hC.2.1 (atype := .long) (hC.2.2.2.2.2.1 _ hw) rfl hd rfl hn hN (by show N * componentBytes .long ≤ _; simp only [componentBytes]; omega) hc1 hs1 hH.1 fun H1 cA e1 z1 o1 hAr hNm => ?_
    have hcA : cA = G.2.2.1 23 := by
      have h1 := (hK.2 3 _ rfl).2
      exact Option.some.inj (hNm.symm.trans h1)
    subst hcA
    refine kk H1 (hH.new (by rw [hH.1]; exact z1) (fun q hq => o1 q (by rw [← hH.1]; exact hq)) rfl (fun b hb => by show va_up _ _ _ b = _; simp [va_up, hb]) (fun b hb => ?_) ?_)
    · have hkd : x_kd (x_nA h 23 N) b = x_kd h b := by show va_up _ _ _ b = _; simp [va_up, hb]
      have hln : x_ln (x_nA h 23 N) b = x_ln h b := by show va_up _ _ _ b = _; simp [va_up, hb]
      have hrw : x_rw (x_nA h 23 N) b = x_rw h b := by show va_up _ _ _ b = _; simp [va_up, hb]
      have hrl : x_rl (x_nA h 23 N) b = x_rl h b := by show va_up _ _ _ b = _; simp [va_up, hb]
      unfold x_obj
      rw [hkd, hln, hrw, hrl]
      rfl
    · have hkd : x_kd (x_nA h 23 N) (x_sz h) = 23 := by show va_up _ _ _ _ = _; simp [va_up]
      have hln : x_ln (x_nA h 23 N) (x_sz h) = N := by show va_up _ _ _ _ = _; simp [va_up]
      have hrw : x_rw (x_nA h 23 N) (x_sz h) = fun _ => 0 := by show va_up _ _ _ _ = _; simp [va_up]
      have hrl : x_rl (x_nA h 23 N) (x_sz h) = fun _ => 0 := by show va_up _ _ _ _ = _; simp [va_up]
      unfold x_obj
      rw [hkd, hln, hrw, hrl]
      rw [if_neg (by omega), if_pos rfl]
      exact e1) hle k
/-! calls -/
def x_nw2 : List x_V → Nat
  | [] => 0
  | v :: vs => (if x_c2 v = true then 2 else 1) + x_nw2 vs
theorem x_cat_eq : ∀ vs : List x_V, ((vs.map x_v).map fun v => v.category).sum = x_nw2 vs
  | [] => rfl
  | v :: vs => by
    show (x_v v).category + ((vs.map x_v).map fun v => v.category).sum = (if x_c2 v = true then 2 else 1) + x_nw2 vs
    rw [x_cat_eq vs]
    cases hc : x_c2 v with
    | true => rw [x_c2_t hc, if_pos rfl]
    | false => rw [x_c2_f hc, if_neg (by decide)]
/-- from these arguments and this heap the method returns r, and leaves that heap -/
def x_Call (G : x_G) (M : x_M) (h : x_H) (av : List x_V) (r : Option x_V) (h1 : x_H) : Prop :=
  (x_sz h ≤ x_sz h1 ∧ x_us h ≤ x_us h1) ∧ Met G.1 (x_y M) (x_ws M) ({ frames := x_fm M, cells := x_sz h1 - x_sz h, slots := x_us h1 - x_us h, locals := x_lo M } : Room) (x_Pc G (av.map x_v) h) (x_Qc G (r.map x_v) h1) (x_sz h1 - x_sz h) (x_us h1 - x_us h) (fun q => x_Gb G ≤ q)
/-- the same with what is known of the end -/
def x_Ex (G : x_G) (M : x_M) (h : x_H) (av : List x_V) (Q : Option x_V → x_H → Prop) : Prop := ∃ r h1, Q r h1 ∧ x_Call G M h av r h1
theorem x_liftC {h1 : x_H} {M' : x_M} {av : List x_V} {r : Option x_V} {rest : List x_V} (hc : x_Call G M' h av r h1)
    (f : ∀ (p : Program) (e : Env) (R : Room) (s : State) (m : MethodId) (args : Array Value) (below : List Frame) (meth : Method) (c : Code) (H : Heap) (ls : Array Slot) (locs : List Loc) (cells slots : Nat), R.frames = x_fm M ∧ R.locals = x_lo M → x_C G M p s m args meth c → lv_has ls (x_mL M) (x_ll lv) → x_HR G h H → cells + (x_sz h1 - x_sz h) ≤ R.cells ∧ slots + (x_us h1 - x_us h) ≤ R.slots →
      va_Run p G.1 e R s m args below meth c H locs cells slots (x_sz h1 - x_sz h) (x_us h1 - x_us h) (F0 m pc ls (st.map x_v)) (rest.map x_v) (x_Qc G (r.map x_v) h1 (av.map x_v).toArray) (fun q => x_Gb G ≤ q))
    (hle : x_sz h0 ≤ x_sz h ∧ x_us h0 ≤ x_us h) (k : x_E G M D h0 (pc + 3) lv (r.toList ++ rest) h1) : x_E G M D h0 pc lv st h := by
  obtain ⟨R, Z, hD, g1, g2, g3⟩ := k
  have hg := hc.1
  refine ⟨R, Z, hD, g1, ⟨hle.1, hle.2, by omega, by omega⟩, fun p e s m args below meth c H ls locs hC hl hH hq T hT X => ?_⟩
  obtain ⟨v, st₀, t, T', L, e0, X', hL, e1, e2, ⟨hv, hR⟩, hst⟩ := f p e R s m args below meth c H ls locs _ _ g1 hC hl hH ⟨by omega, by omega⟩ T hT X
  cases hv
  have k9 := g3 p e s m args below meth c t.heap ls (locs ++ L) hC hl hR (fun q h9 => by
    rcases List.mem_append.mp h9 with h9 | h9
    · exact hq q h9
    · exact hL q h9)
  rw [show x_sz h - x_sz h0 + (x_sz h1 - x_sz h) = x_sz h1 - x_sz h0 by omega, show x_us h - x_us h0 + (x_us h1 - x_us h) = x_us h1 - x_us h0 by omega] at X'
  obtain ⟨t2, a1, b1⟩ := k9 T' e1 X'
  refine ⟨t2, hst t2 ?_, b1⟩
  have e9 : (r.map x_v).toList ++ rest.map x_v = (r.toList ++ rest).map x_v := by cases r <;> rfl
  rw [e9]
  exact a1
/-- the words of an invokevirtual of an own method -/
def x_vw (M M' : x_M) (idx ci n : Nat) : Prop := ∃ (C : String) (T : u_T) (N : Nat) (ws' : List Cond), vwCl[ci]? = some (C, T, N) ∧ ci < 20 ∧ GoodIn (x_ws M) (wsV (x_ow M) idx C (x_y M') (x_ws M')) ∧ x_ws M' = Cond.code (x_y M') (x_cc M') (x_mL M') (x_rt M') :: ws' ∧ ((x_y M').cls = C ∧ (x_y M').cls ≠ "java/lang/invoke/MethodHandle" ∧ (x_y M').cls ≠ "java/lang/invoke/VarHandle" ∧ (parseMethodDescriptor (x_y M').desc).map (fun d => d.parameters.length) = some n) ∧ (x_fm M' + 1 ≤ x_fm M ∧ 8 + (x_mL M' + 11) + x_lo M' ≤ x_lo M)
theorem x_callV {M' : x_M} {idx ci n a : Nat} {av rest : List x_V} {r : Option x_V} {h1 : x_H} (hd : decode (x_cc M) pc = .ok (.invokevirtual idx, 3)) (hw : x_vw M M' idx ci n) (hk : x_kd h a = ci) (hn : av.length = n) (hst : st = av.reverse ++ x_r (some a) :: rest) (hr : x_nw2 rest ≤ 8) (hle : x_sz h0 ≤ x_sz h ∧ x_us h0 ≤ x_us h) (hc : x_Call G M' h (x_r (some a) :: av) r h1) (k : x_E G M D h0 (pc + 3) lv (r.toList ++ rest) h1) : x_E G M D h0 pc lv st h :=
  x_liftC hc (fun p e R s m args below meth c H ls locs cells slots hR hC hl hH hf => by
    obtain ⟨C, T, N, ws', w1, w2, w3, w4, w5, w6⟩ := hw
    have hA := x_at hH w2 hk
    refine va_runV (As := av.map x_v) (b := a) (C := C) ⟨hC.1, hC.2.1, hC.2.2.2.1, hC.2.2.2.2.1, hC.2.2.2.2.2.1⟩ hc.2 (cwV n hC.2.2.2.2.2.1 w3 w4 rfl rfl w5 ⟨by rw [hR.1]; exact w6.1, by rw [hR.2]; exact w6.2⟩) ⟨x_Pc.blind, va_recv hC.2.2.2.2.2.2.2.1.1 (x_P1 hA) (ci := ci) (q0 := 0) w1 rfl, fun U hU hW => ⟨rfl, by rw [hU]; exact hH, hC.2.2.2.2.2.2.2.1.warm hW⟩⟩ rfl (by rw [List.length_map]; exact hn) hl.1 ?_ (lv_room (by rw [x_cat_eq]; exact hr)) hd hf
    rw [hst]
    simp [x_v, va_rf]) hle k
/-- the words of an invokestatic of an own method of the same class -/
def x_tw (M M' : x_M) (idx n : Nat) : Prop := ∃ ws' : List Cond, GoodIn (x_ws M) (va_wsS (x_ow M) idx (x_y M') (x_ws M')) ∧ x_ws M' = Cond.code (x_y M') (x_cc M') (x_mL M') (x_rt M') :: ws' ∧ ((x_y M').cls ≠ "java/lang/invoke/MethodHandle" ∧ (x_y M').cls ≠ "java/lang/invoke/VarHandle" ∧ (parseMethodDescriptor (x_y M').desc).map (fun d => d.parameters.length) = some n) ∧ (x_fm M' + 1 ≤ x_fm M ∧ 8 + (x_mL M' + 11) + x_lo M' ≤ x_lo M)
theorem x_callS {M' : x_M} {idx n : Nat} {av rest : List x_V} {r : Option x_V} {h1 : x_H} (hd : decode (x_cc M) pc = .ok (.invokestatic idx, 3)) (hw : x_tw M M' idx n) (hn : av.length = n) (hst : st = av.reverse ++ rest) (hr : x_nw2 rest ≤ 8) (hle : x_sz h0 ≤ x_sz h ∧ x_us h0 ≤ x_us h) (hc : x_Call G M' h av r h1) (k : x_E G M D h0 (pc + 3) lv (r.toList ++ rest) h1) : x_E G M D h0 pc lv st h :=
  x_liftC hc (fun p e R s m args below meth c H ls locs cells slots hR hC hl hH hf => by
    obtain ⟨ws', w3, w4, w5, w6⟩ := hw
    refine va_runS (As := av.map x_v) ⟨hC.1, hC.2.1, hC.2.2.2.1, hC.2.2.2.2.1, hC.2.2.2.2.2.1⟩ hc.2 (va_cwS n hC.2.2.2.2.2.1 w3 w4 rfl rfl w5 ⟨by rw [hR.1]; exact w6.1, by rw [hR.2]; exact w6.2⟩) ⟨x_Pc.blind, fun U hU hW => ⟨rfl, by rw [hU]; exact hH, hC.2.2.2.2.2.2.2.1.warm hW⟩⟩ rfl (by rw [List.length_map]; exact hn) hl.1 ?_ (lv_room (by rw [x_cat_eq]; exact hr)) hd hf
    rw [hst]
    simp) hle k
/-- the words of a constructor's call -/
def x_iw (M M' : x_M) (idx n : Nat) : Prop := ∃ ws' : List Cond, GoodIn (x_ws M) (x_ws M') ∧ x_ws M' = Cond.code (x_y M') (x_cc M') (x_mL M') none :: ws' ∧ Cond.initialized (x_y M').cls ∈ x_ws M ∧ Cond.methodLink (x_ow M) idx (x_y M') ∈ x_ws M ∧ Cond.instanceMethod (x_y M') ∈ x_ws M ∧ (x_y M').name = "<init>" ∧ ((x_y M').cls ≠ "java/lang/invoke/MethodHandle" ∧ (x_y M').cls ≠ "java/lang/invoke/VarHandle" ∧ (parseMethodDescriptor (x_y M').desc).map (fun d => d.parameters.length) = some n) ∧ (x_fm M' + 1 ≤ x_fm M ∧ 8 + (x_mL M' + 11) + x_lo M' ≤ x_lo M)
theorem x_callI {M' : x_M} {idx n a : Nat} {av rest : List x_V} {r : Option x_V} {h1 : x_H} (hd : decode (x_cc M) pc = .ok (.invokespecial idx, 3)) (hw : x_iw M M' idx n) (hn : av.length = n) (hst : st = av.reverse ++ x_r (some a) :: rest) (hr : x_nw2 rest ≤ 8) (hle : x_sz h0 ≤ x_sz h ∧ x_us h0 ≤ x_us h) (hc : x_Call G M' h (x_r (some a) :: av) r h1) (k : x_E G M D h0 (pc + 3) lv (r.toList ++ rest) h1) : x_E G M D h0 pc lv st h :=
  x_liftC hc (fun p e R s m args below meth c H ls locs cells slots hR hC hl hH hf => by
    obtain ⟨ws', w3, w4, w7, w8, w9, w10, w5, w6⟩ := hw
    have hts := hC.2.2.2.2.2.1
    refine va_runI (As := av.map x_v) (b := a) ⟨hC.1, hC.2.1, hC.2.2.2.1, hC.2.2.2.2.1, hC.2.2.2.2.2.1⟩ hc.2 (cwI n hC.2.2.2.2.2.1 w3 w4 rfl rfl (hts _ w7) (hts _ w8) (hts _ w9) w10 w5 ⟨by rw [hR.1]; exact w6.1, by rw [hR.2]; exact w6.2⟩) ⟨x_Pc.blind, fun U hU hW => ⟨rfl, by rw [hU]; exact hH, hC.2.2.2.2.2.2.2.1.warm hW⟩⟩ rfl (by rw [List.length_map]; exact hn) hl.1 ?_ (lv_room (by rw [x_cat_eq]; exact hr)) hd hf
    rw [hst]
    simp [x_v, va_rf]) hle k
/-- Object's constructor -/
def x_ow0 (M : x_M) (idx : Nat) : Prop := Cond.methodLink (x_ow M) idx objectInit ∈ x_ws M ∧ Cond.instanceMethod objectInit ∈ x_ws M ∧ Cond.code objectInit ⟨#[0xb1]⟩ 1 none ∈ x_ws M ∧ 1 ≤ x_fm M ∧ 20 ≤ x_lo M
theorem x_objInit {idx a : Nat} (hd : decode (x_cc M) pc = .ok (.invokespecial idx, 3)) (hw : x_ow0 M idx) (hle : x_nw2 st ≤ 8) (k : x_E G M D h0 (pc + 3) lv st h) : x_E G M D h0 pc lv (x_r (some a) :: st) h := by
  obtain ⟨R, Z, hD, g1, g2, g3⟩ := k
  refine ⟨R, Z, hD, g1, g2, fun p e s m args below meth c H ls locs hC hl hH hq => ?_⟩
  have hts := hC.2.2.2.2.2.1
  exact W.objInit hC.1 hC.2.1 hC.2.2.2.2.1 (hts _ hw.1) (hts _ hw.2.1) (hts _ hw.2.2.1) rfl (by rw [hC.2.2.2.1]; exact hl.1) rfl hd (by rw [g1.1]; exact hw.2.2.2.1) (by
    have h9 := lv_room (m := m) (pc := pc) (ls := ls) (rest := x_v (x_r (some a)) :: st.map x_v) (st := st.map x_v) (by rw [x_cat_eq]; exact hle)
    rw [g1.2]
    have := hw.2.2.2.2
    simp only [List.map_cons] at h9 ⊢
    omega) (g3 p e s m args below meth c H ls locs hC hl hH hq)
/-! leaving -/
def x_D (G : x_G) (M : x_M) (h0 : x_H) (Q : Option x_V → x_H → Prop) : Room → x_Z → Prop := fun R Z => ∃ r h1, Q r h1 ∧ (x_sz h0 ≤ x_sz h1 ∧ x_us h0 ≤ x_us h1) ∧ R = ({ frames := x_fm M, cells := x_sz h1 - x_sz h0, slots := x_us h1 - x_us h0, locals := x_lo M } : Room) ∧ Z = fun below args s => MQ below (x_Qc G (r.map x_v) h1) args s (x_sz h1 - x_sz h0) (x_us h1 - x_us h0) (fun q => x_Gb G ≤ q)
theorem x_leave {Q : Option x_V → x_H → Prop} {r : Option x_V} (hq : Q r h) (hle : x_sz h0 ≤ x_sz h ∧ x_us h0 ≤ x_us h) (f : ∀ (p : Program) (e : Env) (R : Room) (s : State) (m : MethodId) (args : Array Value) (below : List Frame) (meth : Method) (c : Code) (H : Heap) (ls : Array Slot) (locs : List Loc) (cells slots : Nat), x_C G M p s m args meth c → x_HR G h H → (∀ q ∈ locs, x_Gb G ≤ q.base) →
      W p G.1 e R s m args below meth c H locs cells slots (MQ below (x_Qc G (r.map x_v) h) args s cells slots (fun q => x_Gb G ≤ q)) (F0 m pc ls (st.map x_v))) : x_E G M (x_D G M h0 Q) h0 pc lv st h :=
  ⟨_, _, ⟨r, h, hq, hle, rfl, rfl⟩, ⟨rfl, rfl⟩, ⟨hle.1, hle.2, Nat.le_refl _, Nat.le_refl _⟩, fun p e s m args below meth c H ls locs hC _ hH hq => f p e _ s m args below meth c H ls locs _ _ hC hH hq⟩
theorem x_ireturn {Q : Option x_V → x_H → Prop} {v : Int32} {ty : FieldType} (hd : decode (x_cc M) pc = .ok (.ireturn, 1)) (ht : x_rt M = some ty) (hn : narrow ty (.int v) = .int v) (hle : x_sz h0 ≤ x_sz h ∧ x_us h0 ≤ x_us h) (hq : Q (some (x_i v)) h) : x_E G M (x_D G M h0 Q) h0 pc lv [x_i v] h :=
  x_leave hq hle (fun p e R s m args below meth c H ls locs cells slots hC hH hq => W.zret hC.1 hC.2.1 (hC.2.2.1.trans ht) hn (fun t ht hW => ⟨rfl, by rw [ht]; exact hH⟩) hq hd hC.2.2.2.2.2.2.1)
theorem x_lreturn {Q : Option x_V → x_H → Prop} {v : Int64} (hd : decode (x_cc M) pc = .ok (.lreturn, 1)) (ht : x_rt M = some .long) (hle : x_sz h0 ≤ x_sz h ∧ x_us h0 ≤ x_us h) (hq : Q (some (x_l v)) h) : x_E G M (x_D G M h0 Q) h0 pc lv [x_l v] h :=
  x_leave hq hle (fun p e R s m args below meth c H ls locs cells slots hC hH hq => W.lret hC.1 hC.2.1 (hC.2.2.1.trans ht) (fun t ht hW => ⟨rfl, by rw [ht]; exact hH⟩) hq hd hC.2.2.2.2.2.2.1)
theorem x_areturn {Q : Option x_V → x_H → Prop} {v : Option Nat} {n : String} (hd : decode (x_cc M) pc = .ok (.areturn, 1)) (ht : x_rt M = some (.object n)) (hle : x_sz h0 ≤ x_sz h ∧ x_us h0 ≤ x_us h) (hq : Q (some (x_r v)) h) : x_E G M (x_D G M h0 Q) h0 pc lv [x_r v] h :=
  x_leave hq hle (fun p e R s m args below meth c H ls locs cells slots hC hH hq => W.aret hC.1 hC.2.1 (hC.2.2.1.trans ht) (Or.inl ⟨n, rfl⟩) (by cases v with | none => exact Or.inl rfl | some a => exact Or.inr ⟨a, rfl⟩) (fun t ht hW => ⟨rfl, by rw [ht]; exact hH⟩) hq hd hC.2.2.2.2.2.2.1)
theorem x_return {Q : Option x_V → x_H → Prop} (hd : decode (x_cc M) pc = .ok (.return_, 1)) (ht : x_rt M = none) (hle : x_sz h0 ≤ x_sz h ∧ x_us h0 ≤ x_us h) (hq : Q none h) : x_E G M (x_D G M h0 Q) h0 pc lv [] h :=
  x_leave hq hle (fun p e R s m args below meth c H ls locs cells slots hC hH hq => W.vret hC.1 hC.2.1 (hC.2.2.1.trans ht) (fun t ht hW => ⟨rfl, by rw [ht]; exact hH⟩) hq hd hC.2.2.2.2.2.2.1)
end XW
/-! coming in -/
def x_args : Nat → List x_V → x_L
  | _, [] => []
  | i, v :: vs => (i, v) :: x_args (if x_c2 v = true then i + 2 else i + 1) vs
theorem x_args_eq : ∀ (vs : List x_V) (i : Nat), x_ll (x_args i vs) = lv_args i (vs.map x_v)
  | [], _ => rfl
  | v :: vs, i => by
    show (i, x_v v) :: x_ll (x_args _ vs) = (i, x_v v) :: lv_args _ (vs.map x_v)
    rw [x_args_eq vs]
    cases hc : x_c2 v with
    | true => rw [if_pos rfl, if_pos (x_c2_t hc)]
    | false => rw [if_neg (by decide), if_neg (by rw [x_c2_f hc]; decide)]
theorem x_nw2_eq : ∀ vs : List x_V, (lg_sl (vs.map x_v)).length = x_nw2 vs
  | [] => rfl
  | v :: vs => by
    have h := x_nw2_eq vs
    unfold lg_sl at h ⊢
    rw [List.map_cons, List.flatMap_cons, List.length_append, h]
    show _ = (if x_c2 v = true then 2 else 1) + x_nw2 vs
    cases hc : x_c2 v with
    | true => rw [if_pos (x_c2_t hc), if_pos rfl]; rfl
    | false => rw [if_neg (by rw [x_c2_f hc]; decide), if_neg (by decide)]; rfl
/-- the words of a method itself -/
def x_mw (M : x_M) : Prop := plainName (x_y M).cls = true ∧ (∃ ws', x_ws M = Cond.code (x_y M) (x_cc M) (x_mL M) (x_rt M) :: ws') ∧ (x_y M).cls = x_ow M
theorem x_enter {G : x_G} {M : x_M} {h : x_H} {av : List x_V} {Q : Option x_V → x_H → Prop} (hm : x_mw M) (hn : x_nw2 av ≤ x_mL M) (k : x_E G M (x_D G M h Q) h 0 (x_args 0 av) [] h) : x_Ex G M h av Q := by
  obtain ⟨R, Z, ⟨r, h1, hq, hle, rfl, rfl⟩, g1, g2, g3⟩ := k
  obtain ⟨m1, ⟨ws', m2⟩, m3⟩ := hm
  refine ⟨r, h1, hq, hle, Met.ofW (cc := x_cc M) (maxL := x_mL M) (ret := x_rt M) m1 m2 ?_⟩
  intro p e s m args below meth c s₁ B hml hv
  obtain ⟨rfl, hH, hT⟩ := hv
  have hl := lv_entry (av.map x_v) (n := x_mL M) (by rw [x_nw2_eq]; exact hn)
  rw [lg_entry_eq]
  rw [← x_args_eq] at hl
  have k9 := g3 p e s m (av.map x_v).toArray below meth c s.heap _ [] ⟨B.exec, B.bytes, B.returns, hml, by rw [← m3]; exact findClass_of_methodNamed B.named, atoms_spec (ws := x_ws M) B.pre, B.notSynchronized, hT, (name_of_methodNamed B.named B.method).1⟩ hl hH (fun q h9 => by cases h9)
  rw [Nat.sub_self, Nat.sub_self] at k9
  exact k9
