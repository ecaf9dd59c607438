/-! THE REFERENCE'S OBJECT: its arrays lie behind it in order -/
def mP (h : x_H) (m : Nat) : Prop := x_kd h m = 10 ∧ (x_fr h 1000 m = some (m + 1) ∧ x_kd h (m + 1) = 21 ∧ x_ln h (m + 1) = 3000) ∧ (x_fr h 1002 m = some (m + 2) ∧ x_kd h (m + 2) = 21 ∧ x_ln h (m + 2) = 3000) ∧ (x_fr h 1003 m = some (m + 3) ∧ x_kd h (m + 3) = 20 ∧ x_ln h (m + 3) = 1501) ∧ (x_fr h 1004 m = some (m + 4) ∧ x_kd h (m + 4) = 20 ∧ x_ln h (m + 4) = 1501) ∧ (x_fr h 1006 m = some (m + 5) ∧ x_kd h (m + 5) = 20 ∧ x_ln h (m + 5) = 1501) ∧ (x_fr h 1007 m = some (m + 6) ∧ x_kd h (m + 6) = 20 ∧ x_ln h (m + 6) = 1501) ∧ (x_fr h 1009 m = some (m + 7) ∧ x_kd h (m + 7) = 20 ∧ x_ln h (m + 7) = 60) ∧ (x_fr h 1010 m = some (m + 8) ∧ x_kd h (m + 8) = 20 ∧ x_ln h (m + 8) = 60) ∧ (x_fr h 1012 m = some (m + 9) ∧ x_kd h (m + 9) = 20 ∧ x_ln h (m + 9) = 1500) ∧ (x_fr h 1014 m = some (m + 10) ∧ x_kd h (m + 10) = 20 ∧ x_ln h (m + 10) = 16) ∧ (x_fr h 1015 m = some (m + 11) ∧ x_kd h (m + 11) = 20 ∧ x_ln h (m + 11) = 16) ∧ (x_fr h 1016 m = some (m + 12) ∧ x_kd h (m + 12) = 22 ∧ x_ln h (m + 12) = 16) ∧ (x_fr h 1017 m = some (m + 13) ∧ x_kd h (m + 13) = 20 ∧ x_ln h (m + 13) = 8) ∧ (x_fr h 1020 m = some (m + 14) ∧ x_kd h (m + 14) = 20 ∧ x_ln h (m + 14) = 60) ∧ (x_fr h 1021 m = some (m + 15) ∧ x_kd h (m + 15) = 20 ∧ x_ln h (m + 15) = 60) ∧ (x_fr h 1022 m = some (m + 16) ∧ x_kd h (m + 16) = 20 ∧ x_ln h (m + 16) = 20)
theorem mPk_0 {h : x_H} {m : Nat} (hp : mP h m) : x_kd h m = 10 := hp.1
theorem mPr_1000 {h : x_H} {m : Nat} (hp : mP h m) : x_fr h 1000 m = some (m + 1) := hp.2.1.1
theorem mPk_1 {h : x_H} {m : Nat} (hp : mP h m) : x_kd h (m + 1) = 21 := hp.2.1.2.1
theorem mPl_1 {h : x_H} {m : Nat} (hp : mP h m) : x_ln h (m + 1) = 3000 := hp.2.1.2.2
theorem mPr_1002 {h : x_H} {m : Nat} (hp : mP h m) : x_fr h 1002 m = some (m + 2) := hp.2.2.1.1
theorem mPk_2 {h : x_H} {m : Nat} (hp : mP h m) : x_kd h (m + 2) = 21 := hp.2.2.1.2.1
theorem mPl_2 {h : x_H} {m : Nat} (hp : mP h m) : x_ln h (m + 2) = 3000 := hp.2.2.1.2.2
theorem mPr_1003 {h : x_H} {m : Nat} (hp : mP h m) : x_fr h 1003 m = some (m + 3) := hp.2.2.2.1.1
theorem mPk_3 {h : x_H} {m : Nat} (hp : mP h m) : x_kd h (m + 3) = 20 := hp.2.2.2.1.2.1
theorem mPl_3 {h : x_H} {m : Nat} (hp : mP h m) : x_ln h (m + 3) = 1501 := hp.2.2.2.1.2.2
theorem mPr_1004 {h : x_H} {m : Nat} (hp : mP h m) : x_fr h 1004 m = some (m + 4) := hp.2.2.2.2.1.1
theorem mPk_4 {h : x_H} {m : Nat} (hp : mP h m) : x_kd h (m + 4) = 20 := hp.2.2.2.2.1.2.1
theorem mPl_4 {h : x_H} {m : Nat} (hp : mP h m) : x_ln h (m + 4) = 1501 := hp.2.2.2.2.1.2.2
theorem mPr_1006 {h : x_H} {m : Nat} (hp : mP h m) : x_fr h 1006 m = some (m + 5) := hp.2.2.2.2.2.1.1
theorem mPk_5 {h : x_H} {m : Nat} (hp : mP h m) : x_kd h (m + 5) = 20 := hp.2.2.2.2.2.1.2.1
theorem mPl_5 {h : x_H} {m : Nat} (hp : mP h m) : x_ln h (m + 5) = 1501 := hp.2.2.2.2.2.1.2.2
theorem mPr_1007 {h : x_H} {m : Nat} (hp : mP h m) : x_fr h 1007 m = some (m + 6) := hp.2.2.2.2.2.2.1.1
theorem mPk_6 {h : x_H} {m : Nat} (hp : mP h m) : x_kd h (m + 6) = 20 := hp.2.2.2.2.2.2.1.2.1
theorem mPl_6 {h : x_H} {m : Nat} (hp : mP h m) : x_ln h (m + 6) = 1501 := hp.2.2.2.2.2.2.1.2.2
theorem mPr_1009 {h : x_H} {m : Nat} (hp : mP h m) : x_fr h 1009 m = some (m + 7) := hp.2.2.2.2.2.2.2.1.1
theorem mPk_7 {h : x_H} {m : Nat} (hp : mP h m) : x_kd h (m + 7) = 20 := hp.2.2.2.2.2.2.2.1.2.1
theorem mPl_7 {h : x_H} {m : Nat} (hp : mP h m) : x_ln h (m + 7) = 60 := hp.2.2.2.2.2.2.2.1.2.2
theorem mPr_1010 {h : x_H} {m : Nat} (hp : mP h m) : x_fr h 1010 m = some (m + 8) := hp.2.2.2.2.2.2.2.2.1.1
theorem mPk_8 {h : x_H} {m : Nat} (hp : mP h m) : x_kd h (m + 8) = 20 := hp.2.2.2.2.2.2.2.2.1.2.1
theorem mPl_8 {h : x_H} {m : Nat} (hp : mP h m) : x_ln h (m + 8) = 60 := hp.2.2.2.2.2.2.2.2.1.2.2
theorem mPr_1012 {h : x_H} {m : Nat} (hp : mP h m) : x_fr h 1012 m = some (m + 9) := hp.2.2.2.2.2.2.2.2.2.1.1
theorem mPk_9 {h : x_H} {m : Nat} (hp : mP h m) : x_kd h (m + 9) = 20 := hp.2.2.2.2.2.2.2.2.2.1.2.1
theorem mPl_9 {h : x_H} {m : Nat} (hp : mP h m) : x_ln h (m + 9) = 1500 := hp.2.2.2.2.2.2.2.2.2.1.2.2
theorem mPr_1014 {h : x_H} {m : Nat} (hp : mP h m) : x_fr h 1014 m = some (m + 10) := hp.2.2.2.2.2.2.2.2.2.2.1.1
theorem mPk_10 {h : x_H} {m : Nat} (hp : mP h m) : x_kd h (m + 10) = 20 := hp.2.2.2.2.2.2.2.2.2.2.1.2.1
theorem mPl_10 {h : x_H} {m : Nat} (hp : mP h m) : x_ln h (m + 10) = 16 := hp.2.2.2.2.2.2.2.2.2.2.1.2.2
theorem mPr_1015 {h : x_H} {m : Nat} (hp : mP h m) : x_fr h 1015 m = some (m + 11) := hp.2.2.2.2.2.2.2.2.2.2.2.1.1
theorem mPk_11 {h : x_H} {m : Nat} (hp : mP h m) : x_kd h (m + 11) = 20 := hp.2.2.2.2.2.2.2.2.2.2.2.1.2.1
theorem mPl_11 {h : x_H} {m : Nat} (hp : mP h m) : x_ln h (m + 11) = 16 := hp.2.2.2.2.2.2.2.2.2.2.2.1.2.2
theorem mPr_1016 {h : x_H} {m : Nat} (hp : mP h m) : x_fr h 1016 m = some (m + 12) := hp.2.2.2.2.2.2.2.2.2.2.2.2.1.1
theorem mPk_12 {h : x_H} {m : Nat} (hp : mP h m) : x_kd h (m + 12) = 22 := hp.2.2.2.2.2.2.2.2.2.2.2.2.1.2.1
theorem mPl_12 {h : x_H} {m : Nat} (hp : mP h m) : x_ln h (m + 12) = 16 := hp.2.2.2.2.2.2.2.2.2.2.2.2.1.2.2
theorem mPr_1017 {h : x_H} {m : Nat} (hp : mP h m) : x_fr h 1017 m = some (m + 13) := hp.2.2.2.2.2.2.2.2.2.2.2.2.2.1.1
theorem mPk_13 {h : x_H} {m : Nat} (hp : mP h m) : x_kd h (m + 13) = 20 := hp.2.2.2.2.2.2.2.2.2.2.2.2.2.1.2.1
theorem mPl_13 {h : x_H} {m : Nat} (hp : mP h m) : x_ln h (m + 13) = 8 := hp.2.2.2.2.2.2.2.2.2.2.2.2.2.1.2.2
theorem mPr_1020 {h : x_H} {m : Nat} (hp : mP h m) : x_fr h 1020 m = some (m + 14) := hp.2.2.2.2.2.2.2.2.2.2.2.2.2.2.1.1
theorem mPk_14 {h : x_H} {m : Nat} (hp : mP h m) : x_kd h (m + 14) = 20 := hp.2.2.2.2.2.2.2.2.2.2.2.2.2.2.1.2.1
theorem mPl_14 {h : x_H} {m : Nat} (hp : mP h m) : x_ln h (m + 14) = 60 := hp.2.2.2.2.2.2.2.2.2.2.2.2.2.2.1.2.2
theorem mPr_1021 {h : x_H} {m : Nat} (hp : mP h m) : x_fr h 1021 m = some (m + 15) := hp.2.2.2.2.2.2.2.2.2.2.2.2.2.2.2.1.1
theorem mPk_15 {h : x_H} {m : Nat} (hp : mP h m) : x_kd h (m + 15) = 20 := hp.2.2.2.2.2.2.2.2.2.2.2.2.2.2.2.1.2.1
theorem mPl_15 {h : x_H} {m : Nat} (hp : mP h m) : x_ln h (m + 15) = 60 := hp.2.2.2.2.2.2.2.2.2.2.2.2.2.2.2.1.2.2
theorem mPr_1022 {h : x_H} {m : Nat} (hp : mP h m) : x_fr h 1022 m = some (m + 16) := hp.2.2.2.2.2.2.2.2.2.2.2.2.2.2.2.2.1
theorem mPk_16 {h : x_H} {m : Nat} (hp : mP h m) : x_kd h (m + 16) = 20 := hp.2.2.2.2.2.2.2.2.2.2.2.2.2.2.2.2.2.1
theorem mPl_16 {h : x_H} {m : Nat} (hp : mP h m) : x_ln h (m + 16) = 20 := hp.2.2.2.2.2.2.2.2.2.2.2.2.2.2.2.2.2.2
/-- words of a row: where they begin and stop stands in two arrays -/
def m_W (h : x_H) (r s t : Nat) (l : List (Nat × Nat)) : Prop := (∀ i, (x_rw h r i).toInt8.toInt32 = x_rw h r i) ∧ l.length ≤ 1500 ∧ ∀ (k : Nat) (q : Nat × Nat), l[k]? = some q → x_rw h s k = nI q.1 ∧ x_rw h t k = nI q.2 ∧ q.1 < q.2 ∧ q.2 ≤ 3000
/-- the code of word k -/
def m_C (T : Nat → Int32) (l : List (Nat × Nat)) (k : Nat) : Int32 := match l[k]? with
  | some q => z_code (z_sl T q.1 q.2)
  | none => -1
theorem z_b8_by {b : Int32} (h : b.toInt8.toInt32 = b) : -128 ≤ b ∧ b ≤ 127 := by
  rw [← h]
  have h1 := Int8.le_toInt b.toInt8
  have h2 := Int8.toInt_lt b.toInt8
  rw [Int32.le_iff_toInt_le, Int32.le_iff_toInt_le, Int8.toInt_toInt32]
  have h3 : (-128 : Int32).toInt = -128 := by decide
  have h4 : (127 : Int32).toInt = 127 := by decide
  rw [h3, h4]
  omega
theorem z_sl_b8 {T : Nat → Int32} (h : ∀ i, (T i).toInt8.toInt32 = T i) (s e : Nat) : z_b8 (z_sl T s e) := by
  intro b hb
  obtain ⟨i, -, rfl⟩ := List.mem_map.mp hb
  exact h i
theorem z_K_ne {K : Int64} {c : Int32} (h : z_K K c) : ¬ c = -1 := by
  obtain ⟨q, h1, -, rfl⟩ := h
  have h2 : ∀ q ∈ z_kws, ¬ q.2 = -1 := by decide
  exact h2 q h1
theorem lg_cmp_0 (x y : Int64) : lg_cmp x y = 0 ↔ x = y := by
  unfold lg_cmp
  constructor
  · intro h
    split at h
    · exact absurd h (by decide)
    · split at h
      · assumption
      · exact absurd h (by decide)
  · rintro rfl
    simp
def m_A (h : x_H) (m a : Nat) : x_H := x_sI h 1025 m (nI a)
theorem x_sI_sI (h : x_H) (i a : Nat) (v w : Int32) : x_sI (x_sI h i a v) i a w = x_sI h i a w := by
  have e : x_u2 (x_u2 (x_fi h) i a v) i a w = x_u2 (x_fi h) i a w := by
    funext j b
    unfold x_u2
    split <;> simp_all
  show (x_sz h, x_us h, x_kd h, x_u2 (x_u2 (x_fi h) i a v) i a w, x_fr h, x_fl h, x_ln h, x_rw h, x_rl h) = _
  rw [e]
  rfl
theorem m_A_A (h : x_H) (m a : Nat) (v : Int32) : x_sI (m_A h m a) 1025 m v = x_sI h 1025 m v := x_sI_sI _ _ _ _ _
theorem m_A_at (h : x_H) (m a : Nat) : x_fi (m_A h m a) 1025 m = nI a := x_u2_eq _ _ _ _
theorem m_A_nw (h : x_H) (m a : Nat) : x_fi (m_A h m a) 1008 m = x_fi h 1008 m := by
  show x_u2 (x_fi h) 1025 m (nI a) 1008 m = _
  exact x_u2_ne _ _ (Or.inl (by decide))
theorem m_C_out {T : Nat → Int32} {l : List (Nat × Nat)} {k : Nat} (h : l.length ≤ k) : m_C T l k = -1 := by
  unfold m_C
  rw [List.getElem?_eq_none h]
theorem m_C_in {T : Nat → Int32} {l : List (Nat × Nat)} {k : Nat} {q : Nat × Nat} (h : l[k]? = some q) : m_C T l k = z_code (z_sl T q.1 q.2) := by
  unfold m_C
  rw [h]
set_option maxHeartbeats 4000000 in
set_option maxRecDepth 100000 in
theorem c_sees (G : x_G) {h : x_H} {m : Nat} (hp : mP h m) {l : List (Nat × Nat)} (hw : m_W h (m + 1) (m + 5) (m + 6) l) (hn : x_fi h 1008 m = nI l.length) {a : Nat} (ha2 : a < 2 ^ 30) (ha : x_fi h 1025 m = nI a) {K : Int64} {c : Int32} (hK : z_K K c) : x_Call G mX10_sees h [x_r (some m), x_l K] (some (x_i (if m_C (x_rw h (m + 1)) l a = c then 1 else 0))) h := by
  have hll := hw.2.1
  refine x_Ex.call (x_enter mwX10_sees (Nat.le_of_ble_eq_true rfl) ?_)
  show x_E _ _ _ _ _ [(0, x_r (some m)), (1, x_l K)] _ _
  refine x_aload_n (i := 0) (o := some m) dX10_sees_0 rfl rfl ?_
  refine x_getIv (v := nI a) dX10_sees_1 fX10_sees_83 (i := 1025) rfl rfl (mPk_0 hp) (ha) ?_
  refine x_aload_n (i := 0) (o := some m) dX10_sees_4 rfl rfl ?_
  refine x_getIv (v := nI l.length) dX10_sees_5 fX10_sees_74 (i := 1008) rfl rfl (mPk_0 hp) (hn) ?_
  refine x_icmp_ge (tgt := 39) dX10_sees_8 (by decide) (fun c8 => ?_) (fun c8 => ?_)
  · skip
    have q0 := (nI_leI (by omega) (by omega)).mp c8
    have h9 : ¬ m_C (x_rw h (m + 1)) l a = c := by rw [m_C_out q0]; exact fun z => z_K_ne hK z.symm
    rw [if_neg h9]
    refine x_iconst (v := 0) dX10_sees_39 (by decide) ?_
    refine x_ireturn dX10_sees_40 rfl (rfl) ⟨Nat.le_refl _, Nat.le_refl _⟩ ?_
    exact ⟨rfl, rfl⟩
  · skip
    have q0 : a < l.length := Nat.lt_of_not_le fun z => c8 (nI_le z (by omega))
    obtain ⟨q, hq⟩ : ∃ q, l[a]? = some q := ⟨_, List.getElem?_eq_getElem q0⟩
    obtain ⟨w1, w2, w3, w4⟩ := hw.2.2 a q hq
    have h9 : z_dg (z_sl (x_rw h (m + 1)) q.1 q.2) = K ↔ m_C (x_rw h (m + 1)) l a = c := by rw [m_C_in hq]; exact z_K_code (z_sl_b8 hw.1 _ _) hK
    refine x_aload_n (i := 0) (o := some m) dX10_sees_11 rfl rfl ?_
    refine x_getRv (v := some (m + 1)) dX10_sees_12 fX10_sees_7 (i := 1000) rfl rfl (mPk_0 hp) (mPr_1000 hp) ?_
    refine x_aload_n (i := 0) (o := some m) dX10_sees_15 rfl rfl ?_
    refine x_getRv (v := some (m + 5)) dX10_sees_16 fX10_sees_23 (i := 1006) rfl rfl (mPk_0 hp) (mPr_1006 hp) ?_
    refine x_aload_n (i := 0) (o := some m) dX10_sees_19 rfl rfl ?_
    refine x_getRv (v := some (m + 6)) dX10_sees_20 fX10_sees_26 (i := 1007) rfl rfl (mPk_0 hp) (mPr_1007 hp) ?_
    refine x_aload_n (i := 0) (o := some m) dX10_sees_23 rfl rfl ?_
    refine x_getIv (v := nI a) dX10_sees_24 fX10_sees_83 (i := 1025) rfl rfl (mPk_0 hp) (ha) ?_
    refine x_callS (av := [x_r (some (m + 1)), x_r (some (m + 5)), x_r (some (m + 6)), x_i (nI a)]) (rest := []) (r := (some (x_l (z_dg (z_sl (x_rw h (m + 1)) q.1 q.2))))) (h1 := h) dX10_sees_27 sX10_sees_86 rfl rfl (Nat.le_of_ble_eq_true rfl) ⟨Nat.le_refl _, Nat.le_refl _⟩ (c_wordOf G h (m + 1) (m + 5) (m + 6) a q.1 q.2 (mPk_1 hp) (mPk_5 hp) (mPk_6 hp) (by rw [mPl_5 hp]; omega) (by rw [mPl_6 hp]; omega) (by rw [mPl_5 hp]; omega) (by rw [mPl_6 hp]; omega) (by rw [mPl_1 hp]; omega) w1 w2 (by omega) (by rw [mPl_1 hp]; omega)) ?_
    show x_E _ _ _ _ 30 _ [x_l (z_dg (z_sl (x_rw h (m + 1)) q.1 q.2))] _
    refine x_lload_n (i := 1) (x := K) dX10_sees_30 rfl rfl ?_
    refine x_lcmp dX10_sees_31 ?_
    refine x_if_ne (tgt := 39) dX10_sees_32 (by decide) (fun c32 => ?_) (fun c32 => ?_)
    · skip
      rw [if_neg (fun z => c32 ((lg_cmp_0 _ _).mpr (h9.mpr z)))]
      refine x_iconst (v := 0) dX10_sees_39 (by decide) ?_
      refine x_ireturn dX10_sees_40 rfl (rfl) ⟨Nat.le_refl _, Nat.le_refl _⟩ ?_
      exact ⟨rfl, rfl⟩
    · skip
      rw [if_pos (h9.mp ((lg_cmp_0 _ _).mp c32))]
      refine x_iconst (v := 1) dX10_sees_35 (by decide) ?_
      refine x_goto (tgt := 40) dX10_sees_36 (by decide) ?_
      refine x_ireturn dX10_sees_40 rfl (rfl) ⟨Nat.le_refl _, Nat.le_refl _⟩ ?_
      exact ⟨rfl, rfl⟩
set_option maxHeartbeats 4000000 in
set_option maxRecDepth 100000 in
theorem c_has (G : x_G) {h : x_H} {m : Nat} (hp : mP h m) {l : List (Nat × Nat)} (hw : m_W h (m + 2) (m + 3) (m + 4) l) (hn : x_fi h 1005 m = nI l.length) {a : Nat} (ha2 : a < 2 ^ 30)  {K : Int64} {c : Int32} (hK : z_K K c) : x_Call G mX10_has h [x_r (some m), x_i (nI a), x_l K] (some (x_i (if m_C (x_rw h (m + 2)) l a = c then 1 else 0))) h := by
  have hll := hw.2.1
  refine x_Ex.call (x_enter mwX10_has (Nat.le_of_ble_eq_true rfl) ?_)
  show x_E _ _ _ _ _ [(0, x_r (some m)), (1, x_i (nI a)), (2, x_l K)] _ _
  refine x_iload_n (i := 1) (x := nI a) dX10_has_0 rfl rfl ?_
  refine x_aload_n (i := 0) (o := some m) dX10_has_1 rfl rfl ?_
  refine x_getIv (v := nI l.length) dX10_has_2 fX10_has_159 (i := 1005) rfl rfl (mPk_0 hp) (hn) ?_
  refine x_icmp_ge (tgt := 33) dX10_has_5 (by decide) (fun c5 => ?_) (fun c5 => ?_)
  · skip
    have q0 := (nI_leI (by omega) (by omega)).mp c5
    have h9 : ¬ m_C (x_rw h (m + 2)) l a = c := by rw [m_C_out q0]; exact fun z => z_K_ne hK z.symm
    rw [if_neg h9]
    refine x_iconst (v := 0) dX10_has_33 (by decide) ?_
    refine x_ireturn dX10_has_34 rfl (rfl) ⟨Nat.le_refl _, Nat.le_refl _⟩ ?_
    exact ⟨rfl, rfl⟩
  · skip
    have q0 : a < l.length := Nat.lt_of_not_le fun z => c5 (nI_le z (by omega))
    obtain ⟨q, hq⟩ : ∃ q, l[a]? = some q := ⟨_, List.getElem?_eq_getElem q0⟩
    obtain ⟨w1, w2, w3, w4⟩ := hw.2.2 a q hq
    have h9 : z_dg (z_sl (x_rw h (m + 2)) q.1 q.2) = K ↔ m_C (x_rw h (m + 2)) l a = c := by rw [m_C_in hq]; exact z_K_code (z_sl_b8 hw.1 _ _) hK
    refine x_aload_n (i := 0) (o := some m) dX10_has_8 rfl rfl ?_
    refine x_getRv (v := some (m + 2)) dX10_has_9 fX10_has_13 (i := 1002) rfl rfl (mPk_0 hp) (mPr_1002 hp) ?_
    refine x_aload_n (i := 0) (o := some m) dX10_has_12 rfl rfl ?_
    refine x_getRv (v := some (m + 3)) dX10_has_13 fX10_has_16 (i := 1003) rfl rfl (mPk_0 hp) (mPr_1003 hp) ?_
    refine x_aload_n (i := 0) (o := some m) dX10_has_16 rfl rfl ?_
    refine x_getRv (v := some (m + 4)) dX10_has_17 fX10_has_20 (i := 1004) rfl rfl (mPk_0 hp) (mPr_1004 hp) ?_
    refine x_iload_n (i := 1) (x := nI a) dX10_has_20 rfl rfl ?_
    refine x_callS (av := [x_r (some (m + 2)), x_r (some (m + 3)), x_r (some (m + 4)), x_i (nI a)]) (rest := []) (r := (some (x_l (z_dg (z_sl (x_rw h (m + 2)) q.1 q.2))))) (h1 := h) dX10_has_21 sX10_has_86 rfl rfl (Nat.le_of_ble_eq_true rfl) ⟨Nat.le_refl _, Nat.le_refl _⟩ (c_wordOf G h (m + 2) (m + 3) (m + 4) a q.1 q.2 (mPk_2 hp) (mPk_3 hp) (mPk_4 hp) (by rw [mPl_3 hp]; omega) (by rw [mPl_4 hp]; omega) (by rw [mPl_3 hp]; omega) (by rw [mPl_4 hp]; omega) (by rw [mPl_2 hp]; omega) w1 w2 (by omega) (by rw [mPl_2 hp]; omega)) ?_
    show x_E _ _ _ _ 24 _ [x_l (z_dg (z_sl (x_rw h (m + 2)) q.1 q.2))] _
    refine x_lload_n (i := 2) (x := K) dX10_has_24 rfl rfl ?_
    refine x_lcmp dX10_has_25 ?_
    refine x_if_ne (tgt := 33) dX10_has_26 (by decide) (fun c26 => ?_) (fun c26 => ?_)
    · skip
      rw [if_neg (fun z => c26 ((lg_cmp_0 _ _).mpr (h9.mpr z)))]
      refine x_iconst (v := 0) dX10_has_33 (by decide) ?_
      refine x_ireturn dX10_has_34 rfl (rfl) ⟨Nat.le_refl _, Nat.le_refl _⟩ ?_
      exact ⟨rfl, rfl⟩
    · skip
      rw [if_pos (h9.mp ((lg_cmp_0 _ _).mp c26))]
      refine x_iconst (v := 1) dX10_has_29 (by decide) ?_
      refine x_goto (tgt := 34) dX10_has_30 (by decide) ?_
      refine x_ireturn dX10_has_34 rfl (rfl) ⟨Nat.le_refl _, Nat.le_refl _⟩ ?_
      exact ⟨rfl, rfl⟩
set_option maxHeartbeats 4000000 in
set_option maxRecDepth 100000 in
theorem c_number (G : x_G) {h : x_H} {m : Nat} (hp : mP h m) {l : List (Nat × Nat)} (hw : m_W h (m + 2) (m + 3) (m + 4) l) {a : Nat} (ha : a < l.length) : x_Call G mX10_number h [x_r (some m), x_i (nI a)] (some (x_i (if 0 ≤ m_C (x_rw h (m + 2)) l a then m_C (x_rw h (m + 2)) l a else -1))) h := by
  have hll := hw.2.1
  obtain ⟨q, hq⟩ : ∃ q, l[a]? = some q := ⟨_, List.getElem?_eq_getElem ha⟩
  obtain ⟨w1, w2, w3, w4⟩ := hw.2.2 a q hq
  refine x_Ex.call (x_enter mwX10_number (Nat.le_of_ble_eq_true rfl) ?_)
  show x_E _ _ _ _ _ [(0, x_r (some m)), (1, x_i (nI a))] _ _
  refine x_aload_n (i := 0) (o := some m) dX10_number_0 rfl rfl ?_
  refine x_getRv (v := some (m + 2)) dX10_number_1 fX10_number_13 (i := 1002) rfl rfl (mPk_0 hp) (mPr_1002 hp) ?_
  refine x_aload_n (i := 0) (o := some m) dX10_number_4 rfl rfl ?_
  refine x_getRv (v := some (m + 3)) dX10_number_5 fX10_number_16 (i := 1003) rfl rfl (mPk_0 hp) (mPr_1003 hp) ?_
  refine x_aload_n (i := 0) (o := some m) dX10_number_8 rfl rfl ?_
  refine x_getRv (v := some (m + 4)) dX10_number_9 fX10_number_20 (i := 1004) rfl rfl (mPk_0 hp) (mPr_1004 hp) ?_
  refine x_iload_n (i := 1) (x := nI a) dX10_number_12 rfl rfl ?_
  refine x_callS (av := [x_r (some (m + 2)), x_r (some (m + 3)), x_r (some (m + 4)), x_i (nI a)]) (rest := []) (r := (some (x_i (z_ni (z_num (z_sl (x_rw h (m + 2)) q.1 q.2)))))) (h1 := h) dX10_number_13 sX10_number_94 rfl rfl (Nat.le_of_ble_eq_true rfl) ⟨Nat.le_refl _, Nat.le_refl _⟩ (c_numberOf G h (m + 2) (m + 3) (m + 4) a q.1 q.2 (mPk_2 hp) (mPk_3 hp) (mPk_4 hp) (by rw [mPl_3 hp]; omega) (by rw [mPl_4 hp]; omega) (by rw [mPl_3 hp]; omega) (by rw [mPl_4 hp]; omega) (by rw [mPl_2 hp]; omega) w1 w2 (by omega) (by rw [mPl_2 hp]; omega) (fun i => z_b8_by (hw.1 i))) ?_
  show x_E _ _ _ _ 16 _ [x_i (z_ni (z_num (z_sl (x_rw h (m + 2)) q.1 q.2)))] _
  refine x_ireturn dX10_number_16 rfl (rfl) ⟨Nat.le_refl _, Nat.le_refl _⟩ ?_
  exact ⟨by rw [m_C_in hq, z_code_num], rfl⟩
set_option maxHeartbeats 4000000 in
set_option maxRecDepth 100000 in
theorem c_sees_t (G : x_G) {h : x_H} {m : Nat} (hp : mP h m) {l : List (Nat × Nat)} (hw : m_W h (m + 1) (m + 5) (m + 6) l) (hn : x_fi h 1008 m = nI l.length) {a : Nat} (ha2 : a < 2 ^ 30) {K : Int64} {c : Int32} (hK : z_K K c) (hc : m_C (x_rw h (m + 1)) l a = c) : x_Call G mX10_sees (m_A h m a) [x_r (some m), x_l K] (some (x_i 1)) (m_A h m a) := by
  have k := c_sees G (h := m_A h m a) (m := m) hp (l := l) hw (by rw [m_A_nw]; exact hn) ha2 (m_A_at h m a) hK
  rw [show (if m_C (x_rw (m_A h m a) (m + 1)) l a = c then (1 : Int32) else 0) = 1 from if_pos hc] at k
  exact k
set_option maxHeartbeats 4000000 in
set_option maxRecDepth 100000 in
theorem c_eats_t (G : x_G) {h : x_H} {m : Nat} (hp : mP h m) {l : List (Nat × Nat)} (hw : m_W h (m + 1) (m + 5) (m + 6) l) (hn : x_fi h 1008 m = nI l.length) {a : Nat} (ha2 : a < 2 ^ 30) {K : Int64} {c : Int32} (hK : z_K K c) (hc : m_C (x_rw h (m + 1)) l a = c) : x_Call G mX10_eats (m_A h m a) [x_r (some m), x_l K] (some (x_i 1)) (m_A h m (a + 1)) := by
  refine x_Ex.call (x_enter mwX10_eats (Nat.le_of_ble_eq_true rfl) ?_)
  show x_E _ _ _ _ _ [(0, x_r (some m)), (1, x_l K)] _ _
  refine x_aload_n (i := 0) (o := some m) dX10_eats_0 rfl rfl ?_
  refine x_lload_n (i := 1) (x := K) dX10_eats_1 rfl rfl ?_
  refine x_callV (a := m) (av := [x_l K]) (rest := []) (r := (some (x_i 1))) (h1 := m_A h m a) dX10_eats_2 sX10_eats_90 (mPk_0 hp) rfl rfl (Nat.le_of_ble_eq_true rfl) ⟨Nat.le_refl _, Nat.le_refl _⟩ (c_sees_t G hp hw hn ha2 hK hc) ?_
  show x_E _ _ _ _ 5 _ [x_i 1] _
  refine x_istore_n (i := 3) (lv' := [(0, x_r (some m)), (1, x_l K), (3, x_i 1)]) dX10_eats_5 rfl (by decide) rfl ?_
  refine x_aload_n (i := 0) (o := some m) dX10_eats_6 rfl rfl ?_
  refine x_iload_n (i := 3) (x := 1) dX10_eats_7 rfl rfl ?_
  refine x_if_eq (tgt := 20) dX10_eats_8 (by decide) (fun c => absurd c (by decide)) (fun _ => ?_)
  refine x_aload_n (i := 0) (o := some m) dX10_eats_11 rfl rfl ?_
  refine x_getIv (v := nI a) dX10_eats_12 fX10_eats_83 (i := 1025) rfl rfl (mPk_0 hp) (m_A_at h m a) ?_
  refine x_iconst (v := 1) dX10_eats_15 (by decide) ?_
  refine x_iadd dX10_eats_16 ?_
  rw [show (nI a) + 1 = nI (a + 1) from nI_1 a]
  refine x_goto (tgt := 24) dX10_eats_17 (by decide) ?_
  refine x_putI (i := 1025) dX10_eats_24 pX10_eats_83 rfl rfl (mPk_0 hp) (rfl) (by rfl) ?_
  rw [show x_sI (m_A h m a) 1025 m (nI (a + 1)) = m_A h m (a + 1) from m_A_A h m a _]
  refine x_iload_n (i := 3) (x := 1) dX10_eats_27 rfl rfl ?_
  refine x_ireturn dX10_eats_28 rfl (rfl) ⟨Nat.le_refl _, Nat.le_refl _⟩ ?_
  exact ⟨rfl, rfl⟩
set_option maxHeartbeats 4000000 in
set_option maxRecDepth 100000 in
theorem c_sees_f (G : x_G) {h : x_H} {m : Nat} (hp : mP h m) {l : List (Nat × Nat)} (hw : m_W h (m + 1) (m + 5) (m + 6) l) (hn : x_fi h 1008 m = nI l.length) {a : Nat} (ha2 : a < 2 ^ 30) {K : Int64} {c : Int32} (hK : z_K K c) (hc : ¬ m_C (x_rw h (m + 1)) l a = c) : x_Call G mX10_sees (m_A h m a) [x_r (some m), x_l K] (some (x_i 0)) (m_A h m a) := by
  have k := c_sees G (h := m_A h m a) (m := m) hp (l := l) hw (by rw [m_A_nw]; exact hn) ha2 (m_A_at h m a) hK
  rw [show (if m_C (x_rw (m_A h m a) (m + 1)) l a = c then (1 : Int32) else 0) = 0 from if_neg hc] at k
  exact k
set_option maxHeartbeats 4000000 in
set_option maxRecDepth 100000 in
theorem c_eats_f (G : x_G) {h : x_H} {m : Nat} (hp : mP h m) {l : List (Nat × Nat)} (hw : m_W h (m + 1) (m + 5) (m + 6) l) (hn : x_fi h 1008 m = nI l.length) {a : Nat} (ha2 : a < 2 ^ 30) {K : Int64} {c : Int32} (hK : z_K K c) (hc : ¬ m_C (x_rw h (m + 1)) l a = c) : x_Call G mX10_eats (m_A h m a) [x_r (some m), x_l K] (some (x_i 0)) (m_A h m a) := by
  refine x_Ex.call (x_enter mwX10_eats (Nat.le_of_ble_eq_true rfl) ?_)
  show x_E _ _ _ _ _ [(0, x_r (some m)), (1, x_l K)] _ _
  refine x_aload_n (i := 0) (o := some m) dX10_eats_0 rfl rfl ?_
  refine x_lload_n (i := 1) (x := K) dX10_eats_1 rfl rfl ?_
  refine x_callV (a := m) (av := [x_l K]) (rest := []) (r := (some (x_i 0))) (h1 := m_A h m a) dX10_eats_2 sX10_eats_90 (mPk_0 hp) rfl rfl (Nat.le_of_ble_eq_true rfl) ⟨Nat.le_refl _, Nat.le_refl _⟩ (c_sees_f G hp hw hn ha2 hK hc) ?_
  show x_E _ _ _ _ 5 _ [x_i 0] _
  refine x_istore_n (i := 3) (lv' := [(0, x_r (some m)), (1, x_l K), (3, x_i 0)]) dX10_eats_5 rfl (by decide) rfl ?_
  refine x_aload_n (i := 0) (o := some m) dX10_eats_6 rfl rfl ?_
  refine x_iload_n (i := 3) (x := 0) dX10_eats_7 rfl rfl ?_
  refine x_if_eq (tgt := 20) dX10_eats_8 (by decide) (fun _ => ?_) (fun c => absurd (by decide) c)
  refine x_aload_n (i := 0) (o := some m) dX10_eats_20 rfl rfl ?_
  refine x_getIv (v := nI a) dX10_eats_21 fX10_eats_83 (i := 1025) rfl rfl (mPk_0 hp) (m_A_at h m a) ?_
  refine x_putI (i := 1025) dX10_eats_24 pX10_eats_83 rfl rfl (mPk_0 hp) (rfl) (by rfl) ?_
  rw [show x_sI (m_A h m a) 1025 m (nI a) = m_A h m a from m_A_A h m a _]
  refine x_iload_n (i := 3) (x := 0) dX10_eats_27 rfl rfl ?_
  refine x_ireturn dX10_eats_28 rfl (rfl) ⟨Nat.le_refl _, Nat.le_refl _⟩ ?_
  exact ⟨rfl, rfl⟩
theorem z_neg1 {x : Int32} (h : 0 ≤ x) : ¬ x = -1 := by
  rintro rfl
  exact absurd h (by decide)
set_option maxHeartbeats 4000000 in
set_option maxRecDepth 100000 in
theorem c_eatsNumber_t (G : x_G) {h : x_H} {m : Nat} (hp : mP h m) {l : List (Nat × Nat)} (hw : m_W h (m + 1) (m + 5) (m + 6) l) (hn : x_fi h 1008 m = nI l.length) {a : Nat} (ha2 : a < 2 ^ 30) {lo hi : Int32} (hc : 0 ≤ m_C (x_rw h (m + 1)) l a ∧ lo ≤ m_C (x_rw h (m + 1)) l a ∧ m_C (x_rw h (m + 1)) l a ≤ hi) : x_Call G mX10_eatsNumber (m_A h m a) [x_r (some m), x_i lo, x_i hi] (some (x_i 1)) (m_A h m (a + 1)) := by
  have hll := hw.2.1
  refine x_Ex.call (x_enter mwX10_eatsNumber (Nat.le_of_ble_eq_true rfl) ?_)
  show x_E _ _ _ _ _ [(0, x_r (some m)), (1, x_i lo), (2, x_i hi)] _ _
  refine x_aload_n (i := 0) (o := some m) dX10_eatsNumber_0 rfl rfl ?_
  refine x_getIv (v := nI a) dX10_eatsNumber_1 fX10_eatsNumber_83 (i := 1025) rfl rfl (mPk_0 hp) (m_A_at h m a) ?_
  refine x_aload_n (i := 0) (o := some m) dX10_eatsNumber_4 rfl rfl ?_
  refine x_getIv (v := nI l.length) dX10_eatsNumber_5 fX10_eatsNumber_74 (i := 1008) rfl rfl (mPk_0 hp) ((m_A_nw h m a).trans hn) ?_
  refine x_icmp_ge (tgt := 33) dX10_eatsNumber_8 (by decide) (fun c8 => ?_) (fun c8 => ?_)
  · skip
    exact absurd (by rw [← m_C_out (T := x_rw h (m + 1)) ((nI_leI (by omega) (by omega)).mp c8)]) (z_neg1 hc.1)
  · skip
    have q0 : a < l.length := Nat.lt_of_not_le fun z => c8 (nI_le z (by omega))
    obtain ⟨q, hq⟩ : ∃ q, l[a]? = some q := ⟨_, List.getElem?_eq_getElem q0⟩
    obtain ⟨w1, w2, w3, w4⟩ := hw.2.2 a q hq
    refine x_aload_n (i := 0) (o := some m) dX10_eatsNumber_11 rfl rfl ?_
    refine x_getRv (v := some (m + 1)) dX10_eatsNumber_12 fX10_eatsNumber_7 (i := 1000) rfl rfl (mPk_0 hp) (mPr_1000 hp) ?_
    refine x_aload_n (i := 0) (o := some m) dX10_eatsNumber_15 rfl rfl ?_
    refine x_getRv (v := some (m + 5)) dX10_eatsNumber_16 fX10_eatsNumber_23 (i := 1006) rfl rfl (mPk_0 hp) (mPr_1006 hp) ?_
    refine x_aload_n (i := 0) (o := some m) dX10_eatsNumber_19 rfl rfl ?_
    refine x_getRv (v := some (m + 6)) dX10_eatsNumber_20 fX10_eatsNumber_26 (i := 1007) rfl rfl (mPk_0 hp) (mPr_1007 hp) ?_
    refine x_aload_n (i := 0) (o := some m) dX10_eatsNumber_23 rfl rfl ?_
    refine x_getIv (v := nI a) dX10_eatsNumber_24 fX10_eatsNumber_83 (i := 1025) rfl rfl (mPk_0 hp) (m_A_at h m a) ?_
    refine x_callS (av := [x_r (some (m + 1)), x_r (some (m + 5)), x_r (some (m + 6)), x_i (nI a)]) (rest := []) (r := (some (x_i (z_ni (z_num (z_sl (x_rw h (m + 1)) q.1 q.2)))))) (h1 := m_A h m a) dX10_eatsNumber_27 sX10_eatsNumber_94 rfl rfl (Nat.le_of_ble_eq_true rfl) ⟨Nat.le_refl _, Nat.le_refl _⟩ (c_numberOf G (m_A h m a) (m + 1) (m + 5) (m + 6) a q.1 q.2 (mPk_1 hp) (mPk_5 hp) (mPk_6 hp) (by rw [show x_ln (m_A h m a) (m + 5) = 1501 from mPl_5 hp]; omega) (by rw [show x_ln (m_A h m a) (m + 6) = 1501 from mPl_6 hp]; omega) (by rw [show x_ln (m_A h m a) (m + 5) = 1501 from mPl_5 hp]; omega) (by rw [show x_ln (m_A h m a) (m + 6) = 1501 from mPl_6 hp]; omega) (by rw [show x_ln (m_A h m a) (m + 1) = 3000 from mPl_1 hp]; omega) w1 w2 (by omega) (by rw [show x_ln (m_A h m a) (m + 1) = 3000 from mPl_1 hp]; omega) (fun i => z_b8_by (hw.1 i))) ?_
    show x_E _ _ _ _ 30 _ [x_i (z_ni (z_num (z_sl (x_rw h (m + 1)) q.1 q.2)))] _
    rw [z_code_num, ← m_C_in hq]
    rw [if_pos hc.1]
    refine x_goto (tgt := 34) dX10_eatsNumber_30 (by decide) ?_
    refine x_istore_n (i := 3) (lv' := [(0, x_r (some m)), (1, x_i lo), (2, x_i hi), (3, x_i (m_C (x_rw h (m + 1)) l a))]) dX10_eatsNumber_34 rfl (by decide) rfl ?_
    refine x_iload_n (i := 3) (x := m_C (x_rw h (m + 1)) l a) dX10_eatsNumber_35 rfl rfl ?_
    refine x_if_lt (tgt := 53) dX10_eatsNumber_36 (by decide) (fun c36 => ?_) (fun c36 => ?_)
    · skip
      exact absurd hc.1 (Int32.not_le.mpr c36)
    · skip
      refine x_iload_n (i := 3) (x := m_C (x_rw h (m + 1)) l a) dX10_eatsNumber_39 rfl rfl ?_
      refine x_iload_n (i := 1) (x := lo) dX10_eatsNumber_40 rfl rfl ?_
      refine x_icmp_lt (tgt := 53) dX10_eatsNumber_41 (by decide) (fun c41 => ?_) (fun c41 => ?_)
      · skip
        exact absurd hc.2.1 (Int32.not_le.mpr c41)
      · skip
        refine x_iload_n (i := 3) (x := m_C (x_rw h (m + 1)) l a) dX10_eatsNumber_44 rfl rfl ?_
        refine x_iload_n (i := 2) (x := hi) dX10_eatsNumber_45 rfl rfl ?_
        refine x_icmp_gt (tgt := 53) dX10_eatsNumber_46 (by decide) (fun c46 => ?_) (fun c46 => ?_)
        · skip
          exact absurd hc.2.2 (Int32.not_le.mpr c46)
        · skip
          refine x_iconst (v := 1) dX10_eatsNumber_49 (by decide) ?_
          refine x_goto (tgt := 54) dX10_eatsNumber_50 (by decide) ?_
          refine x_istore (i := 4) (lv' := [(0, x_r (some m)), (1, x_i lo), (2, x_i hi), (3, x_i (m_C (x_rw h (m + 1)) l a)), (4, x_i 1)]) dX10_eatsNumber_54 (by decide) rfl ?_
          refine x_aload_n (i := 0) (o := some m) dX10_eatsNumber_56 rfl rfl ?_
          refine x_iload (i := 4) (x := 1) dX10_eatsNumber_57 rfl ?_
          refine x_if_eq (tgt := 71) dX10_eatsNumber_59 (by decide) (fun c => absurd c (by decide)) (fun _ => ?_)
          refine x_aload_n (i := 0) (o := some m) dX10_eatsNumber_62 rfl rfl ?_
          refine x_getIv (v := nI a) dX10_eatsNumber_63 fX10_eatsNumber_83 (i := 1025) rfl rfl (mPk_0 hp) (m_A_at h m a) ?_
          refine x_iconst (v := 1) dX10_eatsNumber_66 (by decide) ?_
          refine x_iadd dX10_eatsNumber_67 ?_
          rw [show (nI a) + 1 = nI (a + 1) from nI_1 a]
          refine x_goto (tgt := 75) dX10_eatsNumber_68 (by decide) ?_
          refine x_putI (i := 1025) dX10_eatsNumber_75 pX10_eatsNumber_83 rfl rfl (mPk_0 hp) (rfl) (by rfl) ?_
          rw [show x_sI (m_A h m a) 1025 m (nI (a + 1)) = m_A h m (a + 1) from m_A_A h m a _]
          refine x_iload (i := 4) (x := 1) dX10_eatsNumber_78 rfl ?_
          refine x_ireturn dX10_eatsNumber_80 rfl (rfl) ⟨Nat.le_refl _, Nat.le_refl _⟩ ?_
          exact ⟨rfl, rfl⟩
set_option maxHeartbeats 4000000 in
set_option maxRecDepth 100000 in
theorem l_eatsNumber (G : x_G) {h : x_H} {m : Nat} (hp : mP h m) {l : List (Nat × Nat)} (hw : m_W h (m + 1) (m + 5) (m + 6) l) (hn : x_fi h 1008 m = nI l.length) {a : Nat} (ha2 : a < 2 ^ 30) {lo hi v : Int32} (hv : ¬ (0 ≤ v ∧ lo ≤ v ∧ v ≤ hi)) : x_E G mX10_eatsNumber (x_D G mX10_eatsNumber (m_A h m a) (fun r h1 => r = some (x_i 0) ∧ h1 = m_A h m a)) (m_A h m a) 34 [(0, x_r (some m)), (1, x_i lo), (2, x_i hi)] [x_i v] (m_A h m a) := by
  refine x_istore_n (i := 3) (lv' := [(0, x_r (some m)), (1, x_i lo), (2, x_i hi), (3, x_i v)]) dX10_eatsNumber_34 rfl (by decide) rfl ?_
  refine x_iload_n (i := 3) (x := v) dX10_eatsNumber_35 rfl rfl ?_
  refine x_if_lt (tgt := 53) dX10_eatsNumber_36 (by decide) (fun c36 => ?_) (fun c36 => ?_)
  · skip
    refine x_iconst (v := 0) dX10_eatsNumber_53 (by decide) ?_
    refine x_istore (i := 4) (lv' := [(0, x_r (some m)), (1, x_i lo), (2, x_i hi), (3, x_i v), (4, x_i 0)]) dX10_eatsNumber_54 (by decide) rfl ?_
    refine x_aload_n (i := 0) (o := some m) dX10_eatsNumber_56 rfl rfl ?_
    refine x_iload (i := 4) (x := 0) dX10_eatsNumber_57 rfl ?_
    refine x_if_eq (tgt := 71) dX10_eatsNumber_59 (by decide) (fun _ => ?_) (fun c => absurd (by decide) c)
    refine x_aload_n (i := 0) (o := some m) dX10_eatsNumber_71 rfl rfl ?_
    refine x_getIv (v := nI a) dX10_eatsNumber_72 fX10_eatsNumber_83 (i := 1025) rfl rfl (mPk_0 hp) (m_A_at h m a) ?_
    refine x_putI (i := 1025) dX10_eatsNumber_75 pX10_eatsNumber_83 rfl rfl (mPk_0 hp) (rfl) (by rfl) ?_
    rw [show x_sI (m_A h m a) 1025 m (nI a) = m_A h m a from m_A_A h m a _]
    refine x_iload (i := 4) (x := 0) dX10_eatsNumber_78 rfl ?_
    refine x_ireturn dX10_eatsNumber_80 rfl (rfl) ⟨Nat.le_refl _, Nat.le_refl _⟩ ?_
    exact ⟨rfl, rfl⟩
  · skip
    refine x_iload_n (i := 3) (x := v) dX10_eatsNumber_39 rfl rfl ?_
    refine x_iload_n (i := 1) (x := lo) dX10_eatsNumber_40 rfl rfl ?_
    refine x_icmp_lt (tgt := 53) dX10_eatsNumber_41 (by decide) (fun c41 => ?_) (fun c41 => ?_)
    · skip
      refine x_iconst (v := 0) dX10_eatsNumber_53 (by decide) ?_
      refine x_istore (i := 4) (lv' := [(0, x_r (some m)), (1, x_i lo), (2, x_i hi), (3, x_i v), (4, x_i 0)]) dX10_eatsNumber_54 (by decide) rfl ?_
      refine x_aload_n (i := 0) (o := some m) dX10_eatsNumber_56 rfl rfl ?_
      refine x_iload (i := 4) (x := 0) dX10_eatsNumber_57 rfl ?_
      refine x_if_eq (tgt := 71) dX10_eatsNumber_59 (by decide) (fun _ => ?_) (fun c => absurd (by decide) c)
      refine x_aload_n (i := 0) (o := some m) dX10_eatsNumber_71 rfl rfl ?_
      refine x_getIv (v := nI a) dX10_eatsNumber_72 fX10_eatsNumber_83 (i := 1025) rfl rfl (mPk_0 hp) (m_A_at h m a) ?_
      refine x_putI (i := 1025) dX10_eatsNumber_75 pX10_eatsNumber_83 rfl rfl (mPk_0 hp) (rfl) (by rfl) ?_
      rw [show x_sI (m_A h m a) 1025 m (nI a) = m_A h m a from m_A_A h m a _]
      refine x_iload (i := 4) (x := 0) dX10_eatsNumber_78 rfl ?_
      refine x_ireturn dX10_eatsNumber_80 rfl (rfl) ⟨Nat.le_refl _, Nat.le_refl _⟩ ?_
      exact ⟨rfl, rfl⟩
    · skip
      refine x_iload_n (i := 3) (x := v) dX10_eatsNumber_44 rfl rfl ?_
      refine x_iload_n (i := 2) (x := hi) dX10_eatsNumber_45 rfl rfl ?_
      refine x_icmp_gt (tgt := 53) dX10_eatsNumber_46 (by decide) (fun c46 => ?_) (fun c46 => ?_)
      · skip
        refine x_iconst (v := 0) dX10_eatsNumber_53 (by decide) ?_
        refine x_istore (i := 4) (lv' := [(0, x_r (some m)), (1, x_i lo), (2, x_i hi), (3, x_i v), (4, x_i 0)]) dX10_eatsNumber_54 (by decide) rfl ?_
        refine x_aload_n (i := 0) (o := some m) dX10_eatsNumber_56 rfl rfl ?_
        refine x_iload (i := 4) (x := 0) dX10_eatsNumber_57 rfl ?_
        refine x_if_eq (tgt := 71) dX10_eatsNumber_59 (by decide) (fun _ => ?_) (fun c => absurd (by decide) c)
        refine x_aload_n (i := 0) (o := some m) dX10_eatsNumber_71 rfl rfl ?_
        refine x_getIv (v := nI a) dX10_eatsNumber_72 fX10_eatsNumber_83 (i := 1025) rfl rfl (mPk_0 hp) (m_A_at h m a) ?_
        refine x_putI (i := 1025) dX10_eatsNumber_75 pX10_eatsNumber_83 rfl rfl (mPk_0 hp) (rfl) (by rfl) ?_
        rw [show x_sI (m_A h m a) 1025 m (nI a) = m_A h m a from m_A_A h m a _]
        refine x_iload (i := 4) (x := 0) dX10_eatsNumber_78 rfl ?_
        refine x_ireturn dX10_eatsNumber_80 rfl (rfl) ⟨Nat.le_refl _, Nat.le_refl _⟩ ?_
        exact ⟨rfl, rfl⟩
      · skip
        exact absurd ⟨Int32.not_lt.mp c36, Int32.not_lt.mp c41, Int32.not_lt.mp c46⟩ hv
set_option maxHeartbeats 4000000 in
set_option maxRecDepth 100000 in
theorem c_eatsNumber_f (G : x_G) {h : x_H} {m : Nat} (hp : mP h m) {l : List (Nat × Nat)} (hw : m_W h (m + 1) (m + 5) (m + 6) l) (hn : x_fi h 1008 m = nI l.length) {a : Nat} (ha2 : a < 2 ^ 30) {lo hi : Int32} (hc : ¬ (0 ≤ m_C (x_rw h (m + 1)) l a ∧ lo ≤ m_C (x_rw h (m + 1)) l a ∧ m_C (x_rw h (m + 1)) l a ≤ hi)) : x_Call G mX10_eatsNumber (m_A h m a) [x_r (some m), x_i lo, x_i hi] (some (x_i 0)) (m_A h m a) := by
  have hll := hw.2.1
  refine x_Ex.call (x_enter mwX10_eatsNumber (Nat.le_of_ble_eq_true rfl) ?_)
  show x_E _ _ _ _ _ [(0, x_r (some m)), (1, x_i lo), (2, x_i hi)] _ _
  refine x_aload_n (i := 0) (o := some m) dX10_eatsNumber_0 rfl rfl ?_
  refine x_getIv (v := nI a) dX10_eatsNumber_1 fX10_eatsNumber_83 (i := 1025) rfl rfl (mPk_0 hp) (m_A_at h m a) ?_
  refine x_aload_n (i := 0) (o := some m) dX10_eatsNumber_4 rfl rfl ?_
  refine x_getIv (v := nI l.length) dX10_eatsNumber_5 fX10_eatsNumber_74 (i := 1008) rfl rfl (mPk_0 hp) ((m_A_nw h m a).trans hn) ?_
  refine x_icmp_ge (tgt := 33) dX10_eatsNumber_8 (by decide) (fun c8 => ?_) (fun c8 => ?_)
  · skip
    refine x_iconst (v := (-1)) dX10_eatsNumber_33 (by decide) ?_
    exact l_eatsNumber G hp hw hn ha2 (fun z => absurd z.1 (by decide))
  · skip
    have q0 : a < l.length := Nat.lt_of_not_le fun z => c8 (nI_le z (by omega))
    obtain ⟨q, hq⟩ : ∃ q, l[a]? = some q := ⟨_, List.getElem?_eq_getElem q0⟩
    obtain ⟨w1, w2, w3, w4⟩ := hw.2.2 a q hq
    refine x_aload_n (i := 0) (o := some m) dX10_eatsNumber_11 rfl rfl ?_
    refine x_getRv (v := some (m + 1)) dX10_eatsNumber_12 fX10_eatsNumber_7 (i := 1000) rfl rfl (mPk_0 hp) (mPr_1000 hp) ?_
    refine x_aload_n (i := 0) (o := some m) dX10_eatsNumber_15 rfl rfl ?_
    refine x_getRv (v := some (m + 5)) dX10_eatsNumber_16 fX10_eatsNumber_23 (i := 1006) rfl rfl (mPk_0 hp) (mPr_1006 hp) ?_
    refine x_aload_n (i := 0) (o := some m) dX10_eatsNumber_19 rfl rfl ?_
    refine x_getRv (v := some (m + 6)) dX10_eatsNumber_20 fX10_eatsNumber_26 (i := 1007) rfl rfl (mPk_0 hp) (mPr_1007 hp) ?_
    refine x_aload_n (i := 0) (o := some m) dX10_eatsNumber_23 rfl rfl ?_
    refine x_getIv (v := nI a) dX10_eatsNumber_24 fX10_eatsNumber_83 (i := 1025) rfl rfl (mPk_0 hp) (m_A_at h m a) ?_
    refine x_callS (av := [x_r (some (m + 1)), x_r (some (m + 5)), x_r (some (m + 6)), x_i (nI a)]) (rest := []) (r := (some (x_i (z_ni (z_num (z_sl (x_rw h (m + 1)) q.1 q.2)))))) (h1 := m_A h m a) dX10_eatsNumber_27 sX10_eatsNumber_94 rfl rfl (Nat.le_of_ble_eq_true rfl) ⟨Nat.le_refl _, Nat.le_refl _⟩ (c_numberOf G (m_A h m a) (m + 1) (m + 5) (m + 6) a q.1 q.2 (mPk_1 hp) (mPk_5 hp) (mPk_6 hp) (by rw [show x_ln (m_A h m a) (m + 5) = 1501 from mPl_5 hp]; omega) (by rw [show x_ln (m_A h m a) (m + 6) = 1501 from mPl_6 hp]; omega) (by rw [show x_ln (m_A h m a) (m + 5) = 1501 from mPl_5 hp]; omega) (by rw [show x_ln (m_A h m a) (m + 6) = 1501 from mPl_6 hp]; omega) (by rw [show x_ln (m_A h m a) (m + 1) = 3000 from mPl_1 hp]; omega) w1 w2 (by omega) (by rw [show x_ln (m_A h m a) (m + 1) = 3000 from mPl_1 hp]; omega) (fun i => z_b8_by (hw.1 i))) ?_
    show x_E _ _ _ _ 30 _ [x_i (z_ni (z_num (z_sl (x_rw h (m + 1)) q.1 q.2)))] _
    refine x_goto (tgt := 34) dX10_eatsNumber_30 (by decide) ?_
    rw [z_code_num, ← m_C_in hq]
    by_cases h0 : 0 ≤ m_C (x_rw h (m + 1)) l a
    · rw [if_pos h0]
      exact l_eatsNumber G hp hw hn ha2 hc
    · rw [if_neg h0]
      exact l_eatsNumber G hp hw hn ha2 (fun z => absurd z.1 (by decide))
