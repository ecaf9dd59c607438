/-! THE REFERENCE: missing, sum, table -/
/-- each once, as it came first -/
def z_dd : List Int32 → List Int32 → List Int32
  | _, [] => []
  | pre, x :: r => if x ∈ pre then z_dd (pre ++ [x]) r else x :: z_dd (pre ++ [x]) r
theorem z_at_i {L : List Nat} {i : Nat} (h : i < 2 ^ 31) (hl : L.length < 2 ^ 31) : (∀ r, L[i]? = some r → z_kt (L.map nI) 0 (nI i) = nI r) ∧ (L.length ≤ i → z_kt (L.map nI) 0 (nI i) = -1) := by
  refine ⟨fun r hr => ?_, fun hi => ?_⟩
  · have := z_kt_get (L.map nI) 0 i (nI r) (by rw [List.getElem?_map, hr]; rfl) (by omega)
    rw [Nat.zero_add] at this
    exact this
  · refine z_kt_out _ _ _ fun j hj z => ?_
    rw [List.length_map] at hj
    have := (nI_eq (by omega) h).mp z
    omega
theorem z_ops_len (C : Nat → Int32) (R : List (Nat × Nat)) (V : Nat → Int32) (O : List Int32) : (z_ops C R V O 0).length ≤ R.length := by
  unfold z_ops
  have h := List.length_filter_le (z_op C R V O) (List.range' 0 (R.length - 0))
  rw [List.length_range'] at h
  omega
set_option maxHeartbeats 4000000 in
set_option maxRecDepth 100000 in
theorem l_missing_i (G : x_G) {h : x_H} {m : Nat} {l : List (Nat × Nat)} {C : Nat → Int32} {R : List (Nat × Nat)} {E : List Int32} (hB : m_Bk h m l C R E) {V : Nat → Int32} (hV : m_V h m V R.length) {O : List Int32} (hO : m_O h m O) (h20 : O.length ≤ 20) (k own : Int32) (s i : Nat) (hi : i < (z_ops C R V O 0).length) (D : Room → x_Z → Prop) : ∀ (n j : Nat) (u : Bool), j ≤ i → i - j = n → u = decide (¬ own ∈ ((z_ops C R V O 0).map V).take j) → x_E G mX10_missing D h 76 [(0, x_r (some m)), (1, x_i k), (2, x_i (nI s)), (3, x_i (nI i)), (4, x_i own), (5, x_i (if decide (¬ own ∈ ((z_ops C R V O 0).map V).take i) = true then 1 else 0)), (6, x_i (nI i))] [] (x_sI h 1024 m 0) → x_E G mX10_missing D h 36 [(0, x_r (some m)), (1, x_i k), (2, x_i (nI s)), (3, x_i (nI i)), (4, x_i own), (5, x_i (if u = true then 1 else 0)), (6, x_i (nI j))] [] (x_sI h 1024 m 0) := by
  have hF : x_F h (x_sI h 1024 m 0) (fun i a => i = 1024 ∧ a = m) (fun _ => False) := x_F.rf.I ⟨rfl, rfl⟩
  have hB1 : m_Bk (x_sI h 1024 m 0) m l C R E := hB.F hF ⟨by omega, by omega, by omega⟩ (fun _ z => z.elim)
  have hV1 : m_V (x_sI h 1024 m 0) m V R.length := hV
  have hO1 : m_O (x_sI h 1024 m 0) m O := ⟨by rw [x_fi_sI, if_neg (by omega)]; exact hO.1, hO.2⟩
  have h60 := hB.2.2.1
  have hlen := z_ops_len C R V O
  intro n
  induction n with
  | zero =>
    intro j u hj hn hu kx
    have ej : j = i := by omega
    subst ej
    rw [hu]
    refine x_iload (i := 6) (x := nI j) dX10_missing_36 rfl ?_
    refine x_iload_n (i := 3) (x := nI j) dX10_missing_38 rfl rfl ?_
    refine x_icmp_ge (tgt := 76) dX10_missing_39 (by decide) (fun c39 => ?_) (fun c39 => ?_)
    · skip
      exact kx
    · skip
      exact absurd (nI_le (by omega) (by omega)) c39
  | succ n ih =>
    intro j u hj hn hu kx
    rcases u with _ | _
    · skip
      refine x_iload (i := 6) (x := nI j) dX10_missing_36 rfl ?_
      refine x_iload_n (i := 3) (x := nI i) dX10_missing_38 rfl rfl ?_
      refine x_icmp_ge (tgt := 76) dX10_missing_39 (by decide) (fun c39 => ?_) (fun c39 => ?_)
      · skip
        exact absurd ((nI_leI (by omega) (by omega)).mp c39) (by omega)
      · skip
        obtain ⟨r, hr⟩ : ∃ r, (z_ops C R V O 0)[j]? = some r := ⟨_, List.getElem?_eq_getElem (by omega)⟩
        obtain ⟨g1, g2, g3⟩ := z_ops_m (List.mem_of_getElem? hr)
        have et : (((z_ops C R V O 0).map V).take (j + 1)) = ((z_ops C R V O 0).map V).take j ++ [V r] := by
          rw [List.take_add_one, List.getElem?_map, hr]
          rfl
        refine x_iload (i := 5) (x := 0) dX10_missing_42 rfl ?_
        refine x_if_eq (tgt := 67) dX10_missing_44 (by decide) (fun _ => ?_) (fun c => absurd (by decide) c)
        refine x_iconst (v := 0) dX10_missing_67 (by decide) ?_
        refine x_istore (i := 5) (lv' := [(0, x_r (some m)), (1, x_i k), (2, x_i (nI s)), (3, x_i (nI i)), (4, x_i own), (5, x_i 0), (6, x_i (nI j))]) dX10_missing_68 (by decide) rfl ?_
        refine x_iinc (i := 6) (x := nI j) (v := nI (j + 1)) (lv' := [(0, x_r (some m)), (1, x_i k), (2, x_i (nI s)), (3, x_i (nI i)), (4, x_i own), (5, x_i 0), (6, x_i (nI (j + 1)))]) dX10_missing_70 rfl (nI_1 j) (by decide) rfl ?_
        refine x_goto (tgt := 36) dX10_missing_73 (by decide) ?_
        show x_E _ _ _ _ 36 _ _ _
        refine ih (j + 1) false (by omega) (by omega) ?_ kx
        rw [et]
        have : own ∈ ((z_ops C R V O 0).map V).take j := by simpa using hu
        simp [this]
    · skip
      refine x_iload (i := 6) (x := nI j) dX10_missing_36 rfl ?_
      refine x_iload_n (i := 3) (x := nI i) dX10_missing_38 rfl rfl ?_
      refine x_icmp_ge (tgt := 76) dX10_missing_39 (by decide) (fun c39 => ?_) (fun c39 => ?_)
      · skip
        exact absurd ((nI_leI (by omega) (by omega)).mp c39) (by omega)
      · skip
        obtain ⟨r, hr⟩ : ∃ r, (z_ops C R V O 0)[j]? = some r := ⟨_, List.getElem?_eq_getElem (by omega)⟩
        obtain ⟨g1, g2, g3⟩ := z_ops_m (List.mem_of_getElem? hr)
        have et : (((z_ops C R V O 0).map V).take (j + 1)) = ((z_ops C R V O 0).map V).take j ++ [V r] := by
          rw [List.take_add_one, List.getElem?_map, hr]
          rfl
        refine x_iload (i := 5) (x := 1) dX10_missing_42 rfl ?_
        refine x_if_eq (tgt := 67) dX10_missing_44 (by decide) (fun c => absurd c (by decide)) (fun _ => ?_)
        refine x_aload_n (i := 0) (o := some m) dX10_missing_47 rfl rfl ?_
        refine x_getRv (v := some (m + 15)) dX10_missing_48 fX10_missing_62 (i := 1021) rfl rfl (mPk_0 hB.1.1) (mPr_1021 hB.1.1) ?_
        refine x_aload_n (i := 0) (o := some m) dX10_missing_51 rfl rfl ?_
        refine x_iload (i := 6) (x := nI j) dX10_missing_52 rfl ?_
        refine x_callV (a := m) (av := [x_i (nI j)]) (rest := [x_r (some (m + 15))]) (r := (some (x_i (nI r)))) (h1 := x_sI h 1024 m 0) dX10_missing_54 sX10_missing_247 (mPk_0 hB.1.1) rfl rfl (Nat.le_of_ble_eq_true rfl) ⟨Nat.le_refl _, Nat.le_refl _⟩ (by have k := c_openRule G hB1 hV1 hO1 h20 (nI j); rw [(z_at_i (by omega) (by omega)).1 r hr] at k; exact k) ?_
        show x_E _ _ _ _ 57 _ [x_i (nI r), x_r (some (m + 15))] _
        refine x_ialoadN (n := r) (v := V r) dX10_missing_57 (mPk_15 hB.1.1) (rfl) (by show _ < x_ln h _; rw [mPl_15 hB.1.1]; omega) (by show x_ln h _ < _; rw [mPl_15 hB.1.1]; omega) ((hV r g1).2 g3) ?_
        refine x_iload (i := 4) (x := own) dX10_missing_58 rfl ?_
        refine x_icmp_eq (tgt := 67) dX10_missing_60 (by decide) (fun c60 => ?_) (fun c60 => ?_)
        · skip
          refine x_iconst (v := 0) dX10_missing_67 (by decide) ?_
          refine x_istore (i := 5) (lv' := [(0, x_r (some m)), (1, x_i k), (2, x_i (nI s)), (3, x_i (nI i)), (4, x_i own), (5, x_i 0), (6, x_i (nI j))]) dX10_missing_68 (by decide) rfl ?_
          refine x_iinc (i := 6) (x := nI j) (v := nI (j + 1)) (lv' := [(0, x_r (some m)), (1, x_i k), (2, x_i (nI s)), (3, x_i (nI i)), (4, x_i own), (5, x_i 0), (6, x_i (nI (j + 1)))]) dX10_missing_70 rfl (nI_1 j) (by decide) rfl ?_
          refine x_goto (tgt := 36) dX10_missing_73 (by decide) ?_
          show x_E _ _ _ _ 36 _ _ _
          refine ih (j + 1) false (by omega) (by omega) ?_ kx
          rw [et]
          simp [c60]
        · skip
          refine x_iconst (v := 1) dX10_missing_63 (by decide) ?_
          refine x_goto (tgt := 68) dX10_missing_64 (by decide) ?_
          refine x_istore (i := 5) (lv' := [(0, x_r (some m)), (1, x_i k), (2, x_i (nI s)), (3, x_i (nI i)), (4, x_i own), (5, x_i 1), (6, x_i (nI j))]) dX10_missing_68 (by decide) rfl ?_
          refine x_iinc (i := 6) (x := nI j) (v := nI (j + 1)) (lv' := [(0, x_r (some m)), (1, x_i k), (2, x_i (nI s)), (3, x_i (nI i)), (4, x_i own), (5, x_i 1), (6, x_i (nI (j + 1)))]) dX10_missing_70 rfl (nI_1 j) (by decide) rfl ?_
          refine x_goto (tgt := 36) dX10_missing_73 (by decide) ?_
          show x_E _ _ _ _ 36 _ _ _
          refine ih (j + 1) true (by omega) (by omega) ?_ kx
          rw [et]
          have : ¬ own ∈ ((z_ops C R V O 0).map V).take j := by simpa using hu
          simp only [List.mem_append, List.mem_singleton, not_or, decide_eq_true_eq, true_eq_decide_iff]
          exact ⟨this, fun z => c60 z.symm⟩
set_option maxHeartbeats 4000000 in
set_option maxRecDepth 100000 in
theorem l_missing (G : x_G) {h : x_H} {m : Nat} {l : List (Nat × Nat)} {C : Nat → Int32} {R : List (Nat × Nat)} {E : List Int32} (hB : m_Bk h m l C R E) {V : Nat → Int32} (hV : m_V h m V R.length) {O : List Int32} (hO : m_O h m O) (h20 : O.length ≤ 20) (k : Int32) (Q : Option x_V → x_H → Prop) : ∀ (n i s : Nat), s ≤ i → i ≤ (z_ops C R V O 0).length → (z_ops C R V O 0).length - i = n → Q (some (x_i (z_kt (z_dd (((z_ops C R V O 0).map V).take i) (((z_ops C R V O 0).map V).drop i)) s k))) (x_sI h 1024 m 0) → x_E G mX10_missing (x_D G mX10_missing h Q) h 9 [(0, x_r (some m)), (1, x_i k), (2, x_i (nI s)), (3, x_i (nI i))] [] (x_sI h 1024 m 0) := by
  have hF : x_F h (x_sI h 1024 m 0) (fun i a => i = 1024 ∧ a = m) (fun _ => False) := x_F.rf.I ⟨rfl, rfl⟩
  have hB1 : m_Bk (x_sI h 1024 m 0) m l C R E := hB.F hF ⟨by omega, by omega, by omega⟩ (fun _ z => z.elim)
  have hV1 : m_V (x_sI h 1024 m 0) m V R.length := hV
  have hO1 : m_O (x_sI h 1024 m 0) m O := ⟨by rw [x_fi_sI, if_neg (by omega)]; exact hO.1, hO.2⟩
  have h60 := hB.2.2.1
  have hlen := z_ops_len C R V O
  intro n
  induction n with
  | zero =>
    intro i s hs hi hn hQ
    have hil : ¬ i < (z_ops C R V O 0).length := by omega
    refine x_aload_n (i := 0) (o := some m) dX10_missing_9 rfl rfl ?_
    refine x_iload_n (i := 3) (x := nI i) dX10_missing_10 rfl rfl ?_
    refine x_callV (a := m) (av := [x_i (nI i)]) (rest := []) (r := (some (x_i ((-1))))) (h1 := x_sI h 1024 m 0) dX10_missing_11 sX10_missing_247 (mPk_0 hB.1.1) rfl rfl (Nat.le_of_ble_eq_true rfl) ⟨Nat.le_refl _, Nat.le_refl _⟩ (by have k := c_openRule G hB1 hV1 hO1 h20 (nI i); rw [(z_at_i (by omega) (by omega)).2 (by omega)] at k; exact k) ?_
    show x_E _ _ _ _ 14 _ [x_i ((-1))] _
    refine x_iconst (v := (-1)) dX10_missing_14 (by decide) ?_
    refine x_icmp_eq (tgt := 98) dX10_missing_15 (by decide) (fun _ => ?_) (fun c => absurd (by decide) c)
    refine x_iconst (v := (-1)) dX10_missing_98 (by decide) ?_
    refine x_ireturn dX10_missing_99 rfl (rfl) ⟨Nat.le_refl _, Nat.le_refl _⟩ ?_
    rw [List.drop_of_length_le (by rw [List.length_map]; omega)] at hQ
    exact hQ
  | succ n ih =>
    intro i s hs hi hn hQ
    refine x_aload_n (i := 0) (o := some m) dX10_missing_9 rfl rfl ?_
    refine x_iload_n (i := 3) (x := nI i) dX10_missing_10 rfl rfl ?_
    by_cases hil : i < (z_ops C R V O 0).length
    rotate_left
    · skip
      refine x_callV (a := m) (av := [x_i (nI i)]) (rest := []) (r := (some (x_i ((-1))))) (h1 := x_sI h 1024 m 0) dX10_missing_11 sX10_missing_247 (mPk_0 hB.1.1) rfl rfl (Nat.le_of_ble_eq_true rfl) ⟨Nat.le_refl _, Nat.le_refl _⟩ (by have k := c_openRule G hB1 hV1 hO1 h20 (nI i); rw [(z_at_i (by omega) (by omega)).2 (by omega)] at k; exact k) ?_
      show x_E _ _ _ _ 14 _ [x_i ((-1))] _
      refine x_iconst (v := (-1)) dX10_missing_14 (by decide) ?_
      refine x_icmp_eq (tgt := 98) dX10_missing_15 (by decide) (fun _ => ?_) (fun c => absurd (by decide) c)
      refine x_iconst (v := (-1)) dX10_missing_98 (by decide) ?_
      refine x_ireturn dX10_missing_99 rfl (rfl) ⟨Nat.le_refl _, Nat.le_refl _⟩ ?_
      rw [List.drop_of_length_le (by rw [List.length_map]; omega)] at hQ
      exact hQ
    · skip
      obtain ⟨r, hr⟩ : ∃ r, (z_ops C R V O 0)[i]? = some r := ⟨_, List.getElem?_eq_getElem hil⟩
      obtain ⟨g1, g2, g3⟩ := z_ops_m (List.mem_of_getElem? hr)
      have hdr : ((z_ops C R V O 0).map V).drop i = V r :: ((z_ops C R V O 0).map V).drop (i + 1) := by
        rw [List.drop_eq_getElem_cons (by rw [List.length_map]; exact hil)]
        congr 1
        rw [List.getElem_map]
        rw [(List.getElem?_eq_some_iff.mp hr).2]
      have hta : ((z_ops C R V O 0).map V).take (i + 1) = ((z_ops C R V O 0).map V).take i ++ [V r] := by
        rw [List.take_add_one, List.getElem?_map, hr]
        rfl
      refine x_callV (a := m) (av := [x_i (nI i)]) (rest := []) (r := (some (x_i (nI r)))) (h1 := x_sI h 1024 m 0) dX10_missing_11 sX10_missing_247 (mPk_0 hB.1.1) rfl rfl (Nat.le_of_ble_eq_true rfl) ⟨Nat.le_refl _, Nat.le_refl _⟩ (by have k := c_openRule G hB1 hV1 hO1 h20 (nI i); rw [(z_at_i (by omega) (by omega)).1 r hr] at k; exact k) ?_
      show x_E _ _ _ _ 14 _ [x_i (nI r)] _
      refine x_iconst (v := (-1)) dX10_missing_14 (by decide) ?_
      refine x_icmp_eq (tgt := 98) dX10_missing_15 (by decide) (fun c15 => ?_) (fun c15 => ?_)
      · skip
        exact absurd c15 (z_neg1 (nI_pos' (by omega)))
      · skip
        refine x_aload_n (i := 0) (o := some m) dX10_missing_18 rfl rfl ?_
        refine x_getRv (v := some (m + 15)) dX10_missing_19 fX10_missing_62 (i := 1021) rfl rfl (mPk_0 hB.1.1) (mPr_1021 hB.1.1) ?_
        refine x_aload_n (i := 0) (o := some m) dX10_missing_22 rfl rfl ?_
        refine x_iload_n (i := 3) (x := nI i) dX10_missing_23 rfl rfl ?_
        refine x_callV (a := m) (av := [x_i (nI i)]) (rest := [x_r (some (m + 15))]) (r := (some (x_i (nI r)))) (h1 := x_sI h 1024 m 0) dX10_missing_24 sX10_missing_247 (mPk_0 hB.1.1) rfl rfl (Nat.le_of_ble_eq_true rfl) ⟨Nat.le_refl _, Nat.le_refl _⟩ (by have k := c_openRule G hB1 hV1 hO1 h20 (nI i); rw [(z_at_i (by omega) (by omega)).1 r hr] at k; exact k) ?_
        show x_E _ _ _ _ 27 _ [x_i (nI r), x_r (some (m + 15))] _
        refine x_ialoadN (n := r) (v := V r) dX10_missing_27 (mPk_15 hB.1.1) (rfl) (by show _ < x_ln h _; rw [mPl_15 hB.1.1]; omega) (by show x_ln h _ < _; rw [mPl_15 hB.1.1]; omega) ((hV r g1).2 g3) ?_
        refine x_istore (i := 4) (lv' := [(0, x_r (some m)), (1, x_i k), (2, x_i (nI s)), (3, x_i (nI i)), (4, x_i (V r))]) dX10_missing_28 (by decide) rfl ?_
        refine x_iconst (v := 1) dX10_missing_30 (by decide) ?_
        refine x_istore (i := 5) (lv' := [(0, x_r (some m)), (1, x_i k), (2, x_i (nI s)), (3, x_i (nI i)), (4, x_i (V r)), (5, x_i 1)]) dX10_missing_31 (by decide) rfl ?_
        refine x_iconst (v := 0) dX10_missing_33 (by decide) ?_
        refine x_istore (i := 6) (lv' := [(0, x_r (some m)), (1, x_i k), (2, x_i (nI s)), (3, x_i (nI i)), (4, x_i (V r)), (5, x_i 1), (6, x_i 0)]) dX10_missing_34 (by decide) rfl ?_
        show x_E _ _ _ _ 36 _ _ _
        refine l_missing_i G hB hV hO h20 k (V r) s i hil _ i 0 true (Nat.zero_le _) rfl (by simp) ?_
        refine x_iload (i := 5) (x := if decide (¬ V r ∈ ((z_ops C R V O 0).map V).take i) = true then 1 else 0) dX10_missing_76 rfl ?_
        refine x_if_eq (tgt := 92) dX10_missing_78 (by decide) (fun c78 => ?_) (fun c78 => ?_)
        · skip
          have e78 : V r ∈ ((z_ops C R V O 0).map V).take i := by
            apply Classical.byContradiction
            intro z
            rw [if_pos (by simpa using z)] at c78
            exact absurd c78 (by decide)
          rw [hdr] at hQ
          rw [show z_dd (((z_ops C R V O 0).map V).take i) (V r :: ((z_ops C R V O 0).map V).drop (i + 1)) = z_dd (((z_ops C R V O 0).map V).take i ++ [V r]) (((z_ops C R V O 0).map V).drop (i + 1)) from if_pos e78, ← hta] at hQ
          refine x_iinc (i := 3) (x := nI i) (v := nI (i + 1)) (lv' := [(0, x_r (some m)), (1, x_i k), (2, x_i (nI s)), (3, x_i (nI (i + 1))), (4, x_i (V r)), (5, x_i (if decide (¬ V r ∈ ((z_ops C R V O 0).map V).take i) = true then 1 else 0)), (6, x_i (nI i))]) dX10_missing_92 rfl (nI_1 i) (by decide) rfl ?_
          refine x_goto (tgt := 9) dX10_missing_95 (by decide) ?_
          show x_E _ _ _ _ 9 _ _ _
          refine x_drop [0, 1, 2, 3] rfl ?_
          exact ih (i + 1) s (by omega) (by omega) (by omega) hQ
        · skip
          have e78 : ¬ V r ∈ ((z_ops C R V O 0).map V).take i := by
            intro z
            rw [if_neg (by simpa using z)] at c78
            exact absurd rfl c78
          rw [hdr] at hQ
          rw [show z_dd (((z_ops C R V O 0).map V).take i) (V r :: ((z_ops C R V O 0).map V).drop (i + 1)) = V r :: z_dd (((z_ops C R V O 0).map V).take i ++ [V r]) (((z_ops C R V O 0).map V).drop (i + 1)) from if_neg e78, ← hta] at hQ
          refine x_iload_n (i := 2) (x := nI s) dX10_missing_81 rfl rfl ?_
          refine x_iload_n (i := 1) (x := k) dX10_missing_82 rfl rfl ?_
          refine x_icmp_ne (tgt := 89) dX10_missing_83 (by decide) (fun c83 => ?_) (fun c83 => ?_)
          · skip
            rw [show z_kt (V r :: z_dd (((z_ops C R V O 0).map V).take (i + 1)) (((z_ops C R V O 0).map V).drop (i + 1))) s k = z_kt (z_dd (((z_ops C R V O 0).map V).take (i + 1)) (((z_ops C R V O 0).map V).drop (i + 1))) (s + 1) k from if_neg c83] at hQ
            refine x_iinc (i := 2) (x := nI s) (v := nI (s + 1)) (lv' := [(0, x_r (some m)), (1, x_i k), (2, x_i (nI (s + 1))), (3, x_i (nI i)), (4, x_i (V r)), (5, x_i (if decide (¬ V r ∈ ((z_ops C R V O 0).map V).take i) = true then 1 else 0)), (6, x_i (nI i))]) dX10_missing_89 rfl (nI_1 s) (by decide) rfl ?_
            refine x_iinc (i := 3) (x := nI i) (v := nI (i + 1)) (lv' := [(0, x_r (some m)), (1, x_i k), (2, x_i (nI (s + 1))), (3, x_i (nI (i + 1))), (4, x_i (V r)), (5, x_i (if decide (¬ V r ∈ ((z_ops C R V O 0).map V).take i) = true then 1 else 0)), (6, x_i (nI i))]) dX10_missing_92 rfl (nI_1 i) (by decide) rfl ?_
            refine x_goto (tgt := 9) dX10_missing_95 (by decide) ?_
            show x_E _ _ _ _ 9 _ _ _
            refine x_drop [0, 1, 2, 3] rfl ?_
            exact ih (i + 1) (s + 1) (by omega) (by omega) (by omega) hQ
          · skip
            rw [show z_kt (V r :: z_dd (((z_ops C R V O 0).map V).take (i + 1)) (((z_ops C R V O 0).map V).drop (i + 1))) s k = V r from if_pos c83] at hQ
            refine x_iload (i := 4) (x := V r) dX10_missing_86 rfl ?_
            refine x_ireturn dX10_missing_88 rfl (rfl) ⟨Nat.le_refl _, Nat.le_refl _⟩ ?_
            exact hQ
set_option maxHeartbeats 4000000 in
set_option maxRecDepth 100000 in
theorem c_missingM (G : x_G) {h : x_H} {m : Nat} {l : List (Nat × Nat)} {C : Nat → Int32} {R : List (Nat × Nat)} {E : List Int32} (hB : m_Bk h m l C R E) {V : Nat → Int32} (hV : m_V h m V R.length) {O : List Int32} (hO : m_O h m O) (h20 : O.length ≤ 20) (k : Int32) : x_Call G mX10_missing h [x_r (some m), x_i k] (some (x_i (z_kt (z_dd [] ((z_ops C R V O 0).map V)) 0 k))) (x_sI h 1024 m 0) := by
  refine x_Ex.call (x_enter mwX10_missing (Nat.le_of_ble_eq_true rfl) ?_)
  show x_E _ _ _ _ _ [(0, x_r (some m)), (1, x_i k)] _ _
  refine x_aload_n (i := 0) (o := some m) dX10_missing_0 rfl rfl ?_
  refine x_iconst (v := 0) dX10_missing_1 (by decide) ?_
  refine x_putI (i := 1024) dX10_missing_2 pX10_missing_68 rfl rfl (mPk_0 hB.1.1) (rfl) (by rfl) ?_
  refine x_iconst (v := 0) dX10_missing_5 (by decide) ?_
  refine x_istore_n (i := 2) (lv' := [(0, x_r (some m)), (1, x_i k), (2, x_i 0)]) dX10_missing_6 rfl (by decide) rfl ?_
  refine x_iconst (v := 0) dX10_missing_7 (by decide) ?_
  refine x_istore_n (i := 3) (lv' := [(0, x_r (some m)), (1, x_i k), (2, x_i 0), (3, x_i 0)]) dX10_missing_8 rfl (by decide) rfl ?_
  show x_E _ _ _ _ 9 _ _ _
  exact l_missing G hB hV hO h20 k _ _ 0 0 (Nat.le_refl _) (Nat.zero_le _) rfl ⟨by rw [List.take_zero, List.drop_zero], rfl⟩
