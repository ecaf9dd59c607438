/-! THE REFERENCE: read -/
def m_RdF (h h' : x_H) (m : Nat) : Prop := x_F h h' (fun i a => a = m ∧ (i = 1001 ∨ i = 1008 ∨ i = 1024 ∨ i = 1025)) (fun a => a = m + 5 ∨ a = m + 6) ∧ x_fi h' 1001 m = 0 ∧ x_fi h' 1024 m = 0
/-- rules' places and editions, days -/
def m_B (h : x_H) (m : Nat) (R : List (Nat × Nat)) (D : List Int32) : Prop := x_fi h 1011 m = nI R.length ∧ x_fi h 1013 m = nI D.length ∧ (∀ (j : Nat) (q : Nat × Nat), R[j]? = some q → x_rw h (m + 7) j = nI q.1 ∧ x_rw h (m + 8) j = nI q.2) ∧ ∀ (j : Nat) (d : Int32), D[j]? = some d → x_rw h (m + 9) j = d
def m_RdT (h h' : x_H) (m : Nat) (l : List (Nat × Nat)) (C : Nat → Int32) : Prop := x_F h h' (fun i a => a = m ∧ (i = 1001 ∨ i = 1005 ∨ i = 1008 ∨ i = 1011 ∨ i = 1013 ∨ i = 1019 ∨ i = 1023 ∨ i = 1024 ∨ i = 1025)) (fun a => (m + 2 ≤ a ∧ a ≤ m + 9) ∨ a = m + 14) ∧ x_fi h' 1001 m = 0 ∧ x_fi h' 1024 m = 0 ∧ m_K h' m l C ∧ m_B h' m (z_sc C l.length).1 (z_sc C l.length).2 ∧ x_fi h' 1019 m = -1 ∧ x_fi h' 1023 m = 0 ∧ ∀ j, j < 60 → x_rw h' (m + 14) j = 0
/-- how a text is read: by its words' codes -/
def z_rd (C : Nat → Int32) (n : Nat) : Bool × Nat := q_all C 1501 n (n + 1) 0 0 0 0
set_option maxHeartbeats 4000000 in
set_option maxRecDepth 100000 in
theorem c_readM (G : x_G) {h : x_H} {m n : Nat} (hp : mP h m) (hn : x_fi h 1001 m = nI n) (hn2 : n ≤ 3000) (hb1 : ∀ i, (x_rw h (m + 1) i).toInt8.toInt32 = x_rw h (m + 1) i) (hb2 : ∀ i, (x_rw h (m + 2) i).toInt8.toInt32 = x_rw h (m + 2) i) : x_Ex G mX10_read h [x_r (some m)] (fun r h' =>
      ((z_rd (m_C (x_rw h (m + 1)) (z_words (x_rw h (m + 1)) n)) (z_words (x_rw h (m + 1)) n).length).1 = false ∧ r = some (x_i (-1 - nI (z_rd (m_C (x_rw h (m + 1)) (z_words (x_rw h (m + 1)) n)) (z_words (x_rw h (m + 1)) n).length).2)) ∧ m_RdF h h' m) ∨
      ((z_rd (m_C (x_rw h (m + 1)) (z_words (x_rw h (m + 1)) n)) (z_words (x_rw h (m + 1)) n).length).1 = true ∧ r = some (x_i (nI (z_sc (m_C (x_rw h (m + 1)) (z_words (x_rw h (m + 1)) n)) (z_words (x_rw h (m + 1)) n).length).1.length)) ∧ m_RdT h h' m (z_words (x_rw h (m + 1)) n) (m_C (x_rw h (m + 1)) (z_words (x_rw h (m + 1)) n)) ∧ ∀ j, j < n → x_rw h' (m + 2) j = x_rw h (m + 1) j)) := by
  refine x_enter mwX10_read (Nat.le_of_ble_eq_true rfl) ?_
  show x_E _ _ _ _ _ [(0, x_r (some m))] _ _
  refine x_aload_n (i := 0) (o := some m) dX10_read_0 rfl rfl ?_
  refine x_iconst (v := 0) dX10_read_1 (by decide) ?_
  refine x_putI (i := 1024) dX10_read_2 pX10_read_68 rfl rfl (mPk_0 hp) (rfl) (by rfl) ?_
  refine x_aload_n (i := 0) (o := some m) dX10_read_5 rfl rfl ?_
  obtain ⟨_, hb, ⟨rfl, hS⟩, hcs⟩ := c_split G (h := x_sI h 1024 m 0) (m := m) hp (show x_fi (x_sI h 1024 m 0) 1001 m = nI n by rw [x_fi_sI, if_neg (by omega)]; exact hn) hn2
  have hp0 : mP (x_sI h 1024 m 0) m := hp
  have hpO := hp
  have hsz : x_fi hb 1001 m = nI n := (hS.1.fi (by omega)).trans (by rw [x_fi_sI, if_neg (by omega)]; exact hn)
  have hrow : x_rw hb (m + 1) = x_rw h (m + 1) := hS.1.rw (by omega)
  generalize hl : z_words (x_rw (x_sI h 1024 m 0) (m + 1)) n = l at hS
  have hl' : z_words (x_rw h (m + 1)) n = l := hl
  rw [hl']
  have hll : l.length ≤ 1500 := by have := hS.2.2.1; omega
  have hwl : ∀ (k : Nat) (q : Nat × Nat), l[k]? = some q → q.2 ≤ n := fun k q hq => (hS.2.2.2.2 k q hq).2.2.2
  generalize hC : m_C (x_rw h (m + 1)) l = C
  have hr : m_R hb m l C := ⟨hS.1.pm hp0, ⟨fun i => by rw [hrow]; exact hb1 i, hll, fun k q hq => ⟨(hS.2.2.2.2 k q hq).1, (hS.2.2.2.2 k q hq).2.1, (hS.2.2.2.2 k q hq).2.2.1, by have := hwl k q hq; omega⟩⟩, hS.2.1, by rw [hrow, hC]⟩
  refine x_callV (a := m) (av := []) (rest := []) (r := none) (h1 := hb) dX10_read_6 sX10_read_153 (mPk_0 hp) rfl rfl (Nat.le_of_ble_eq_true rfl) ⟨Nat.le_refl _, Nat.le_refl _⟩ (hcs) ?_
  show x_E _ _ _ _ 9 _ [] _
  have hp : mP hb m := hS.1.pm hp0
  refine x_aload_n (i := 0) (o := some m) dX10_read_9 rfl rfl ?_
  refine x_iconst (v := 0) dX10_read_10 (by decide) ?_
  refine x_putI (i := 1025) dX10_read_11 pX10_read_83 rfl rfl (mPk_0 hp) (rfl) (by rfl) ?_
  rw [show x_sI hb 1025 m 0 = m_A hb m 0 from rfl]
  refine x_aload_n (i := 0) (o := some m) dX10_read_14 rfl rfl ?_
  rcases hq : q_all C 1501 l.length (l.length + 1) 0 0 0 0 with ⟨_ | _, b⟩
  · skip
    refine x_callV (a := m) (av := []) (rest := []) (r := (some (x_i 0))) (h1 := m_A hb m b) dX10_read_15 sX10_read_156 (mPk_0 hp) rfl rfl (Nat.le_of_ble_eq_true rfl) hS.1.le (by have k := c_eatsAll G hr (F := 1501) (by omega); rw [hq] at k; exact k) ?_
    show x_E _ _ _ _ 18 _ [x_i 0] _
    refine x_istore_n (i := 1) (lv' := [(0, x_r (some m)), (1, x_i 0)]) dX10_read_18 rfl (by decide) rfl ?_
    refine x_aload_n (i := 0) (o := some m) dX10_read_19 rfl rfl ?_
    refine x_getIv (v := nI b) dX10_read_20 fX10_read_83 (i := 1025) rfl rfl (mPk_0 hp) (m_A_at hb m b) ?_
    refine x_istore_n (i := 2) (lv' := [(0, x_r (some m)), (1, x_i 0), (2, x_i (nI b))]) dX10_read_23 rfl (by decide) rfl ?_
    refine x_aload_n (i := 0) (o := some m) dX10_read_24 rfl rfl ?_
    refine x_getIv (v := nI n) dX10_read_25 fX10_read_71 (i := 1001) rfl rfl (mPk_0 hp) (by rw [show x_fi (m_A hb m b) 1001 m = x_fi hb 1001 m by show x_u2 (x_fi hb) 1025 m (nI b) 1001 m = _; exact x_u2_ne _ _ (Or.inl (by decide))]; exact hsz) ?_
    refine x_istore_n (i := 3) (lv' := [(0, x_r (some m)), (1, x_i 0), (2, x_i (nI b)), (3, x_i (nI n))]) dX10_read_28 rfl (by decide) rfl ?_
    refine x_aload_n (i := 0) (o := some m) dX10_read_29 rfl rfl ?_
    refine x_iconst (v := 0) dX10_read_30 (by decide) ?_
    refine x_putI (i := 1001) dX10_read_31 pX10_read_71 rfl rfl (mPk_0 hp) (rfl) (by rfl) ?_
    refine x_iload_n (i := 1) (x := 0) dX10_read_34 rfl rfl ?_
    refine x_if_ne (tgt := 42) dX10_read_35 (by decide) (fun c => absurd c (by decide)) (fun _ => ?_)
    refine x_iconst (v := (-1)) dX10_read_38 (by decide) ?_
    refine x_iload_n (i := 2) (x := nI b) dX10_read_39 rfl rfl ?_
    refine x_isub dX10_read_40 ?_
    refine x_ireturn dX10_read_41 rfl (rfl) hS.1.le ?_
    refine Or.inl ⟨by unfold z_rd; rw [hq], by unfold z_rd; rw [hq], ?_, ?_, ?_⟩
    · exact ((hS.1.mono (P := fun i a => a = m ∧ (i = 1001 ∨ i = 1008 ∨ i = 1024 ∨ i = 1025)) (R := fun a => a = m + 5 ∨ a = m + 6) (fun i a z => ⟨z.2, Or.inr (Or.inl z.1)⟩) (fun a z => z)).I ⟨rfl, Or.inr (Or.inr (Or.inr rfl))⟩ |>.I ⟨rfl, Or.inl rfl⟩) |> fun k => (((x_F.rf : x_F h h _ _).I ⟨rfl, Or.inr (Or.inr (Or.inl rfl))⟩).tr k (fun _ _ z => z) (fun _ _ z => z) (fun _ z => z) (fun _ z => z))
    · rw [x_fi_sI, if_pos ⟨rfl, rfl⟩]
    · rw [x_fi_sI, if_neg (by omega)]
      show x_fi (x_sI hb 1025 m (nI b)) 1024 m = 0
      rw [x_fi_sI, if_neg (by omega), hS.1.fi (by omega), x_fi_sI, if_pos ⟨rfl, rfl⟩]
  · skip
    refine x_callV (a := m) (av := []) (rest := []) (r := (some (x_i 1))) (h1 := m_A hb m b) dX10_read_15 sX10_read_156 (mPk_0 hp) rfl rfl (Nat.le_of_ble_eq_true rfl) hS.1.le (by have k := c_eatsAll G hr (F := 1501) (by omega); rw [hq] at k; exact k) ?_
    show x_E _ _ _ _ 18 _ [x_i 1] _
    refine x_istore_n (i := 1) (lv' := [(0, x_r (some m)), (1, x_i 1)]) dX10_read_18 rfl (by decide) rfl ?_
    refine x_aload_n (i := 0) (o := some m) dX10_read_19 rfl rfl ?_
    refine x_getIv (v := nI b) dX10_read_20 fX10_read_83 (i := 1025) rfl rfl (mPk_0 hp) (m_A_at hb m b) ?_
    refine x_istore_n (i := 2) (lv' := [(0, x_r (some m)), (1, x_i 1), (2, x_i (nI b))]) dX10_read_23 rfl (by decide) rfl ?_
    refine x_aload_n (i := 0) (o := some m) dX10_read_24 rfl rfl ?_
    refine x_getIv (v := nI n) dX10_read_25 fX10_read_71 (i := 1001) rfl rfl (mPk_0 hp) (by rw [show x_fi (m_A hb m b) 1001 m = x_fi hb 1001 m by show x_u2 (x_fi hb) 1025 m (nI b) 1001 m = _; exact x_u2_ne _ _ (Or.inl (by decide))]; exact hsz) ?_
    refine x_istore_n (i := 3) (lv' := [(0, x_r (some m)), (1, x_i 1), (2, x_i (nI b)), (3, x_i (nI n))]) dX10_read_28 rfl (by decide) rfl ?_
    refine x_aload_n (i := 0) (o := some m) dX10_read_29 rfl rfl ?_
    refine x_iconst (v := 0) dX10_read_30 (by decide) ?_
    refine x_putI (i := 1001) dX10_read_31 pX10_read_71 rfl rfl (mPk_0 hp) (rfl) (by rfl) ?_
    refine x_iload_n (i := 1) (x := 1) dX10_read_34 rfl rfl ?_
    refine x_if_ne (tgt := 42) dX10_read_35 (by decide) (fun _ => ?_) (fun c => absurd c (by decide))
    refine x_iconst (v := 0) dX10_read_42 (by decide) ?_
    refine x_istore (i := 4) (lv' := [(0, x_r (some m)), (1, x_i 1), (2, x_i (nI b)), (3, x_i (nI n)), (4, x_i 0)]) dX10_read_43 (by decide) rfl ?_
    show x_E _ _ _ _ 45 _ _ _
    have hF0 : x_F h (x_sI (m_A hb m b) 1001 m 0) (fun i a => a = m ∧ (i = 1001 ∨ i = 1008 ∨ i = 1024 ∨ i = 1025)) (fun a => a = m + 5 ∨ a = m + 6) := ((hS.1.mono (P := fun i a => a = m ∧ (i = 1001 ∨ i = 1008 ∨ i = 1024 ∨ i = 1025)) (R := fun a => a = m + 5 ∨ a = m + 6) (fun i a z => ⟨z.2, Or.inr (Or.inl z.1)⟩) (fun a z => z)).I ⟨rfl, Or.inr (Or.inr (Or.inr rfl))⟩ |>.I ⟨rfl, Or.inl rfl⟩) |> fun k => (((x_F.rf : x_F h h _ _).I ⟨rfl, Or.inr (Or.inr (Or.inl rfl))⟩).tr k (fun _ _ z => z) (fun _ _ z => z) (fun _ z => z) (fun _ z => z))
    have hs0 : x_fi (x_sI (m_A hb m b) 1001 m 0) 1001 m = 0 := by rw [x_fi_sI, if_pos ⟨rfl, rfl⟩]
    have hn0 : x_fi (x_sI (m_A hb m b) 1001 m 0) 1008 m = nI l.length := by
      rw [x_fi_sI, if_neg (by omega)]
      show x_fi (x_sI hb 1025 m (nI b)) 1008 m = _
      rw [x_fi_sI, if_neg (by omega)]
      exact hS.2.1
    have ht0 : x_fi (x_sI (m_A hb m b) 1001 m 0) 1024 m = 0 := by
      rw [x_fi_sI, if_neg (by omega)]
      show x_fi (x_sI hb 1025 m (nI b)) 1024 m = 0
      rw [x_fi_sI, if_neg (by omega), hS.1.fi (by omega), x_fi_sI, if_pos ⟨rfl, rfl⟩]
    have hw0 : ∀ (j : Nat) (q : Nat × Nat), l[j]? = some q → x_rw (x_sI (m_A hb m b) 1001 m 0) (m + 5) j = nI q.1 ∧ x_rw (x_sI (m_A hb m b) 1001 m 0) (m + 6) j = nI q.2 ∧ q.1 < q.2 ∧ q.2 ≤ n := hS.2.2.2.2
    have hr0 : x_rw (x_sI (m_A hb m b) 1001 m 0) (m + 1) = x_rw h (m + 1) := hrow
    have hz0 := hF0.le
    have hpc : mP (x_sI (m_A hb m b) 1001 m 0) m := hF0.pm hpO
    have hN := hr.N
    obtain ⟨e1, hfit, h60, h00⟩ := q_all_fit hN _ _ _ _ _ _ (Nat.zero_le _) (by omega) hq
    generalize x_sI (m_A hb m b) 1001 m 0 = hc at hF0 hs0 hn0 ht0 hw0 hr0 hz0 hpc ⊢
    refine l_read1 G hpc hz0 (nI b) _ hn2 (fun i => by rw [hr0]; exact hb1 i) (fun h1 hI1 => ?_) n _ 0 (Nat.zero_le _) (by omega) ⟨x_F.rf, fun j => by rw [if_neg (by omega)]⟩
    have hp1 := hI1.1.pm hpc
    have hn1 : x_fi h1 1008 m = nI l.length := (hI1.1.fi (fun z => z)).trans hn0
    refine x_aload_n (i := 0) (o := some m) dX10_read_71 rfl rfl ?_
    refine x_aload_n (i := 0) (o := some m) dX10_read_72 rfl rfl ?_
    refine x_getIv (v := nI l.length) dX10_read_73 fX10_read_74 (i := 1008) rfl rfl (mPk_0 hp1) (hn1) ?_
    refine x_putI (i := 1005) dX10_read_76 pX10_read_159 rfl rfl (mPk_0 hp1) (rfl) (by rfl) ?_
    refine x_aload_n (i := 0) (o := some m) dX10_read_79 rfl rfl ?_
    refine x_iconst (v := 0) dX10_read_80 (by decide) ?_
    refine x_putI (i := 1011) dX10_read_81 pX10_read_162 rfl rfl (mPk_0 hp1) (rfl) (by rfl) ?_
    refine x_aload_n (i := 0) (o := some m) dX10_read_84 rfl rfl ?_
    refine x_iconst (v := 0) dX10_read_85 (by decide) ?_
    refine x_putI (i := 1013) dX10_read_86 pX10_read_165 rfl rfl (mPk_0 hp1) (rfl) (by rfl) ?_
    refine x_iconst (v := 0) dX10_read_89 (by decide) ?_
    refine x_istore (i := 4) (lv' := [(0, x_r (some m)), (1, x_i 1), (2, x_i (nI b)), (3, x_i (nI n)), (4, x_i 0)]) dX10_read_90 (by decide) rfl ?_
    show x_E _ _ _ _ 92 _ _ _
    have hF2 : x_F hc (x_sI (x_sI (x_sI h1 1005 m (nI l.length)) 1011 m 0) 1013 m 0) (fun i a => a = m ∧ (i = 1005 ∨ i = 1011 ∨ i = 1013)) (fun a => a = m + 2) := (((hI1.1.mono (P := fun i a => a = m ∧ (i = 1005 ∨ i = 1011 ∨ i = 1013)) (fun _ _ z => z.elim) (fun _ z => z)).I ⟨rfl, Or.inl rfl⟩).I ⟨rfl, Or.inr (Or.inl rfl)⟩).I ⟨rfl, Or.inr (Or.inr rfl)⟩
    have hw2 : x_fi (x_sI (x_sI (x_sI h1 1005 m (nI l.length)) 1011 m 0) 1013 m 0) 1005 m = nI l.length := by rw [x_fi_sI, if_neg (by omega), x_fi_sI, if_neg (by omega), x_fi_sI, if_pos ⟨rfl, rfl⟩]
    have hu2 : x_fi (x_sI (x_sI (x_sI h1 1005 m (nI l.length)) 1011 m 0) 1013 m 0) 1011 m = 0 := by rw [x_fi_sI, if_neg (by omega), x_fi_sI, if_pos ⟨rfl, rfl⟩]
    have he2 : x_fi (x_sI (x_sI (x_sI h1 1005 m (nI l.length)) 1011 m 0) 1013 m 0) 1013 m = 0 := by rw [x_fi_sI, if_pos ⟨rfl, rfl⟩]
    have hk2 : ∀ j, x_rw (x_sI (x_sI (x_sI h1 1005 m (nI l.length)) 1011 m 0) 1013 m 0) (m + 2) j = if j < n then x_rw hc (m + 1) j else x_rw hc (m + 2) j := hI1.2
    generalize x_sI (x_sI (x_sI h1 1005 m (nI l.length)) 1011 m 0) 1013 m 0 = h2 at hF2 hw2 hu2 he2 hk2 ⊢
    refine l_read2 G (hF2.pm hpc) ⟨Nat.le_trans hz0.1 hF2.le.1, Nat.le_trans hz0.2 hF2.le.2⟩ (nI b) _ (nI n) hll hw2 (fun h3 hI2 => ?_) l.length _ 0 (Nat.zero_le _) (by omega) ⟨x_F.rf, fun j hj => by omega⟩
    have hF3 : x_F hc h3 (fun i a => a = m ∧ (i = 1005 ∨ i = 1011 ∨ i = 1013)) (fun a => a = m + 2 ∨ a = m + 3 ∨ a = m + 4) := hF2.tr hI2.1 (fun _ _ z => z) (fun _ _ z => z.elim) (fun _ z => Or.inl z) (fun _ z => Or.inr z)
    have hrow3 : ∀ j, x_rw h3 (m + 2) j = if j < n then x_rw hc (m + 1) j else x_rw hc (m + 2) j := fun j => by rw [hI2.1.rw (by omega)]; exact hk2 j
    have hC3 : C = m_C (x_rw h3 (m + 2)) l := by
      rw [← hC]
      refine m_C_congr (n := n) (fun i hi => ?_) hwl
      rw [hrow3 i, if_pos hi, hr0]
    have hK3 : m_K h3 m l C := by
      refine ⟨hF3.pm hpc, ⟨fun i => ?_, hll, fun k q hq => ?_⟩, (hI2.1.fi (fun z => z)).trans hw2, hC3⟩
      · rw [hrow3 i]
        split
        · rw [hr0]; exact hb1 i
        · rw [hF0.rw (by omega)]; exact hb2 i
      · have hkl := (List.getElem?_eq_some_iff.mp hq).1
        obtain ⟨y1, y2, y3, y4⟩ := hw0 k q hq
        obtain ⟨y5, y6⟩ := hI2.2 k hkl
        exact ⟨by rw [y5, hF2.rw (by omega)]; exact y1, by rw [y6, hF2.rw (by omega)]; exact y2, y3, by omega⟩
    have hI0 : m_I3 h3 h3 m C 0 := ⟨x_F.rf, by rw [hI2.1.fi (fun z => z), hu2]; rfl, by rw [hI2.1.fi (fun z => z), he2]; rfl, fun j q hj => by simp [z_sc] at hj, fun j d hj => by simp [z_sc] at hj⟩
    have hz3 : x_sz h ≤ x_sz h3 ∧ x_us h ≤ x_us h3 := ⟨Nat.le_trans hz0.1 hF3.le.1, Nat.le_trans hz0.2 hF3.le.2⟩
    refine x_iconst (v := 0) dX10_read_135 (by decide) ?_
    refine x_istore (i := 4) (lv' := [(0, x_r (some m)), (1, x_i 1), (2, x_i (nI b)), (3, x_i (nI n)), (4, x_i 0)]) dX10_read_136 (by decide) rfl ?_
    show x_E _ _ _ _ 138 _ _ _
    refine l_read3 G hK3 hz3 (nI b) (nI n) _ (F := 1501) hfit (by have y : (z_sc C 0).1.length = 0 := rfl; omega) (fun z => h00 rfl z) (fun h4 hI4 => ?_) l.length h3 0 (Nat.zero_le _) (by omega) hI0
    obtain ⟨_, h5, ⟨rfl, hg⟩, hcf⟩ := c_forget G (hI4.1.pm hK3.1)
    have hz4 : x_sz h ≤ x_sz h4 ∧ x_us h ≤ x_us h4 := ⟨Nat.le_trans hz3.1 hI4.1.le.1, Nat.le_trans hz3.2 hI4.1.le.2⟩
    have hz5 : x_sz h ≤ x_sz h5 ∧ x_us h ≤ x_us h5 := ⟨Nat.le_trans hz4.1 hg.1.le.1, Nat.le_trans hz4.2 hg.1.le.2⟩
    have hru : x_fi h5 1011 m = nI (z_sc C l.length).1.length := (hg.1.fi (by omega)).trans hI4.2.1
    refine x_aload_n (i := 0) (o := some m) dX10_read_240 rfl rfl ?_
    refine x_callV (a := m) (av := []) (rest := []) (r := none) (h1 := h5) dX10_read_241 sX10_read_176 (by first | exact mPk_0 (hI4.1.pm hK3.1) | exact mPk_0 (hg.1.pm (hI4.1.pm hK3.1))) rfl rfl (Nat.le_of_ble_eq_true rfl) hz4 (hcf) ?_
    show x_E _ _ _ _ 244 _ [] _
    refine x_aload_n (i := 0) (o := some m) dX10_read_244 rfl rfl ?_
    refine x_getIv (v := nI (z_sc C l.length).1.length) dX10_read_245 fX10_read_162 (i := 1011) rfl rfl (by first | exact mPk_0 (hI4.1.pm hK3.1) | exact mPk_0 (hg.1.pm (hI4.1.pm hK3.1))) (hru) ?_
    refine x_ireturn dX10_read_248 rfl (rfl) hz5 ?_
    have hF5 : x_F h h5 (fun i a => a = m ∧ (i = 1001 ∨ i = 1005 ∨ i = 1008 ∨ i = 1011 ∨ i = 1013 ∨ i = 1019 ∨ i = 1023 ∨ i = 1024 ∨ i = 1025)) (fun a => (m + 2 ≤ a ∧ a ≤ m + 9) ∨ a = m + 14) := by
      refine x_F.tr (x_F.tr (x_F.tr hF0 hF3 (P := fun i a => a = m ∧ (i = 1001 ∨ i = 1005 ∨ i = 1008 ∨ i = 1011 ∨ i = 1013 ∨ i = 1019 ∨ i = 1023 ∨ i = 1024 ∨ i = 1025)) (R := fun a => (m + 2 ≤ a ∧ a ≤ m + 9) ∨ a = m + 14) ?_ ?_ ?_ ?_) hI4.1 (P := fun i a => a = m ∧ (i = 1001 ∨ i = 1005 ∨ i = 1008 ∨ i = 1011 ∨ i = 1013 ∨ i = 1019 ∨ i = 1023 ∨ i = 1024 ∨ i = 1025)) (R := fun a => (m + 2 ≤ a ∧ a ≤ m + 9) ∨ a = m + 14) ?_ ?_ ?_ ?_) hg.1 ?_ ?_ ?_ ?_
      all_goals first | (intro i a z; omega) | (intro a z; omega)
    refine Or.inr ⟨by unfold z_rd; rw [hq], rfl, ⟨hF5, ?_, ?_, ?_, ?_, hg.2.1, hg.2.2.1, hg.2.2.2⟩, fun j hj => by rw [hg.1.rw (by omega), hI4.1.rw (by omega), hrow3 j, if_pos hj, hr0]⟩
    · rw [hg.1.fi (by omega), hI4.1.fi (by omega), hF3.fi (by omega)]; exact hs0
    · rw [hg.1.fi (by omega), hI4.1.fi (by omega), hF3.fi (by omega)]; exact ht0
    · exact (hK3.F hI4.1 (by omega) (by omega) (by omega) (by omega)).F hg.1 (by omega) (by omega) (by omega) (by omega)
    · refine ⟨hru, (hg.1.fi (by omega)).trans hI4.2.2.1, fun j q hj => ?_, fun j d hj => ?_⟩
      · rw [hg.1.rw (by omega), hg.1.rw (by omega)]; exact hI4.2.2.2.1 j q hj
      · rw [hg.1.rw (by omega)]; exact hI4.2.2.2.2 j d hj
