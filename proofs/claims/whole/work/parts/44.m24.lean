/-! THE REFERENCE: sum, table -/
def z_sm (X : z_X) (C : Nat → Int32) (high : Bool) (part : Int32) (L : List Nat) : Int64 := match L.find? (fun p => C p == -11) with
  | none => 0
  | some p => if z_lks X C (z_tms C 1501 (p + 1)) (-1) = -1 then z_tot X C high part (z_tms C 1501 (p + 1)) 0 else 0
theorem z_sm_t {X : z_X} {C : Nat → Int32} {high : Bool} {part : Int32} {L : List Nat} {p : Nat} (h : C p = -11) : z_sm X C high part (p :: L) = if z_lks X C (z_tms C 1501 (p + 1)) (-1) = -1 then z_tot X C high part (z_tms C 1501 (p + 1)) 0 else 0 := by
  unfold z_sm
  rw [List.find?_cons_of_pos (by simpa using h)]
theorem z_sm_f {X : z_X} {C : Nat → Int32} {high : Bool} {part : Int32} {L : List Nat} {p : Nat} (h : ¬ C p = -11) : z_sm X C high part (p :: L) = z_sm X C high part L := by
  unfold z_sm
  rw [List.find?_cons_of_neg (by simpa using h)]
def z_su (X : z_X) (C : Nat → Int32) (R : List (Nat × Nat)) (rule e part : Int32) : Int64 := if 0 ≤ rule ∧ (e = 0 ∨ e = 1) ∧ -1 ≤ part ∧ part ≤ 15 then (match R[rule.toNatClampNeg]? with
    | none => 0
    | some q => z_sm X C (e == 1) part (z_its C q)) else 0
set_option maxHeartbeats 4000000 in
set_option maxRecDepth 100000 in
theorem l_sumM (G : x_G) {h : x_H} {m : Nat} {l : List (Nat × Nat)} {C : Nat → Int32} (hK : m_K h m l C) {X : z_X} (hX : m_X h m X) (h0 : x_H) (hz : x_sz h0 ≤ x_sz h ∧ x_us h0 ≤ x_us h) (r e part : Int32) {en : Nat} (Q : Option x_V → x_H → Prop) : ∀ (f p : Nat), p < 2000 → q_items C 1501 f p = (true, en) → (∀ h', x_F h h' (fun i a => a = m ∧ (i = 1026 ∨ i = 1027 ∨ i = 1028)) (fun _ => False) → Q (some (x_l (z_sm X C (e == 1) part (q_its C 1501 f p)))) h') → x_E G mX10_sum (x_D G mX10_sum h0 Q) h0 46 [(0, x_r (some m)), (1, x_i r), (2, x_i e), (3, x_i part), (4, x_i (nI p))] [] h := by
  have hll := hK.ll
  intro f
  induction f using Nat.strongRecOn with
  | _ f ih =>
    intro p hp hq hQ
    obtain ⟨g, b, rfl, hqi, hcc⟩ := q_its_c hq
    have hbn : b < 1600 := by
      have := q_item_lt hK.N hqi
      have y := (q_item_st (F := 1501) hK.N (a := p) (by omega)).2.1
      rw [hqi] at y
      dsimp only at y
      omega
    refine x_iload (i := 4) (x := nI p) dX10_sum_46 rfl ?_
    refine x_iconst (v := (-1)) dX10_sum_48 (by decide) ?_
    refine x_icmp_eq (tgt := 109) dX10_sum_49 (by decide) (fun c49 => ?_) (fun c49 => ?_)
    · skip
      exact absurd c49 (z_neg1 (nI_pos' (by omega)))
    · skip
      refine x_aload_n (i := 0) (o := some m) dX10_sum_52 rfl rfl ?_
      refine x_iload (i := 4) (x := nI p) dX10_sum_53 rfl ?_
      refine x_ldc2 (v := 24343917) dX10_sum_55 kX10_sum_132 ?_
      by_cases q11 : C p = -11
      · skip
        have hqs : q_sum C 1501 (p + 1) = (true, b) := by
          rcases q_item_c hqi with z | z | z
          · rw [z.1] at q11; exact absurd q11 (by decide)
          · rw [z.2.1] at q11; exact absurd q11 (by decide)
          · exact z.2.2.2
        have hi : ∃ L2, q_its C 1501 (g + 1) p = p :: L2 := by
          rcases hcc with ⟨_, _, hi⟩ | ⟨_, _, hi⟩
          · exact ⟨_, hi⟩
          · exact ⟨_, hi⟩
        obtain ⟨L2, hi⟩ := hi
        refine x_callV (a := m) (av := [x_i (nI p), x_l 24343917]) (rest := []) (r := (some (x_i 1))) (h1 := h) dX10_sum_58 sX10_sum_168 (by first | exact mPk_0 hK.1 | exact mPk_0 (hF1.pm hK.1)) rfl rfl (Nat.le_of_ble_eq_true rfl) hz (k_has_t G hK (a := p) (by omega) z_K_sum q11) ?_
        show x_E _ _ _ _ 61 _ [x_i 1] _
        refine x_if_eq (tgt := 98) dX10_sum_61 (by decide) (fun c => absurd c (by decide)) (fun _ => ?_)
        refine x_aload_n (i := 0) (o := some m) dX10_sum_64 rfl rfl ?_
        refine x_iload (i := 4) (x := nI p) dX10_sum_65 rfl ?_
        refine x_iload_n (i := 2) (x := e) dX10_sum_67 rfl rfl ?_
        refine x_iconst (v := 1) dX10_sum_68 (by decide) ?_
        refine x_icmp_ne (tgt := 76) dX10_sum_69 (by decide) (fun c69 => ?_) (fun c69 => ?_)
        · skip
          have e69 : (e == 1) = false := by simpa using c69
          obtain ⟨_, h1, ⟨rfl, hF1, ht1, hl1, hc1⟩, hca⟩ := c_addF G hK hX part false hqs
          refine x_iconst (v := 0) dX10_sum_76 (by decide) ?_
          refine x_iload_n (i := 3) (x := part) dX10_sum_77 rfl rfl ?_
          refine x_callV (a := m) (av := [x_i (nI p), x_i 0, x_i part]) (rest := []) (r := none) (h1 := h1) dX10_sum_78 sX10_sum_194 (by first | exact mPk_0 hK.1 | exact mPk_0 (hF1.pm hK.1)) rfl rfl (Nat.le_of_ble_eq_true rfl) hz (hca) ?_
          show x_E _ _ _ _ 81 _ [] _
          refine x_aload_n (i := 0) (o := some m) dX10_sum_81 rfl rfl ?_
          refine x_getIv (v := z_lks X C (z_tms C 1501 (p + 1)) (-1)) dX10_sum_82 fX10_sum_188 (i := 1027) rfl rfl (by first | exact mPk_0 hK.1 | exact mPk_0 (hF1.pm hK.1)) (hl1) ?_
          refine x_iconst (v := (-1)) dX10_sum_85 (by decide) ?_
          refine x_icmp_ne (tgt := 96) dX10_sum_86 (by decide) (fun c86 => ?_) (fun c86 => ?_)
          · skip
            refine x_lconst (v := 0) dX10_sum_96 (by decide) ?_
            refine x_lreturn dX10_sum_97 rfl ⟨Nat.le_trans hz.1 hF1.le.1, Nat.le_trans hz.2 hF1.le.2⟩ ?_
            rw [show (e == 1) = false from e69, hi, z_sm_t q11, if_neg c86] at hQ
            first | exact hQ _ hF1 | (rw [← ht1] at hQ; exact hQ _ hF1)
          · skip
            refine x_aload_n (i := 0) (o := some m) dX10_sum_89 rfl rfl ?_
            refine x_getLv (v := x_fl h1 1026 m) dX10_sum_90 fX10_sum_184 (i := 1026) rfl rfl (by first | exact mPk_0 hK.1 | exact mPk_0 (hF1.pm hK.1)) (rfl) ?_
            refine x_goto (tgt := 97) dX10_sum_93 (by decide) ?_
            refine x_lreturn dX10_sum_97 rfl ⟨Nat.le_trans hz.1 hF1.le.1, Nat.le_trans hz.2 hF1.le.2⟩ ?_
            rw [show (e == 1) = false from e69, hi, z_sm_t q11, if_pos c86] at hQ
            first | exact hQ _ hF1 | (rw [← ht1] at hQ; exact hQ _ hF1)
        · skip
          have e69 : (e == 1) = true := by simpa using c69
          obtain ⟨_, h1, ⟨rfl, hF1, ht1, hl1, hc1⟩, hca⟩ := c_addF G hK hX part true hqs
          refine x_iconst (v := 1) dX10_sum_72 (by decide) ?_
          refine x_goto (tgt := 77) dX10_sum_73 (by decide) ?_
          refine x_iload_n (i := 3) (x := part) dX10_sum_77 rfl rfl ?_
          refine x_callV (a := m) (av := [x_i (nI p), x_i 1, x_i part]) (rest := []) (r := none) (h1 := h1) dX10_sum_78 sX10_sum_194 (by first | exact mPk_0 hK.1 | exact mPk_0 (hF1.pm hK.1)) rfl rfl (Nat.le_of_ble_eq_true rfl) hz (hca) ?_
          show x_E _ _ _ _ 81 _ [] _
          refine x_aload_n (i := 0) (o := some m) dX10_sum_81 rfl rfl ?_
          refine x_getIv (v := z_lks X C (z_tms C 1501 (p + 1)) (-1)) dX10_sum_82 fX10_sum_188 (i := 1027) rfl rfl (by first | exact mPk_0 hK.1 | exact mPk_0 (hF1.pm hK.1)) (hl1) ?_
          refine x_iconst (v := (-1)) dX10_sum_85 (by decide) ?_
          refine x_icmp_ne (tgt := 96) dX10_sum_86 (by decide) (fun c86 => ?_) (fun c86 => ?_)
          · skip
            refine x_lconst (v := 0) dX10_sum_96 (by decide) ?_
            refine x_lreturn dX10_sum_97 rfl ⟨Nat.le_trans hz.1 hF1.le.1, Nat.le_trans hz.2 hF1.le.2⟩ ?_
            rw [show (e == 1) = true from e69, hi, z_sm_t q11, if_neg c86] at hQ
            first | exact hQ _ hF1 | (rw [← ht1] at hQ; exact hQ _ hF1)
          · skip
            refine x_aload_n (i := 0) (o := some m) dX10_sum_89 rfl rfl ?_
            refine x_getLv (v := x_fl h1 1026 m) dX10_sum_90 fX10_sum_184 (i := 1026) rfl rfl (by first | exact mPk_0 hK.1 | exact mPk_0 (hF1.pm hK.1)) (rfl) ?_
            refine x_goto (tgt := 97) dX10_sum_93 (by decide) ?_
            refine x_lreturn dX10_sum_97 rfl ⟨Nat.le_trans hz.1 hF1.le.1, Nat.le_trans hz.2 hF1.le.2⟩ ?_
            rw [show (e == 1) = true from e69, hi, z_sm_t q11, if_pos c86] at hQ
            first | exact hQ _ hF1 | (rw [← ht1] at hQ; exact hQ _ hF1)
      · skip
        refine x_callV (a := m) (av := [x_i (nI p), x_l 24343917]) (rest := []) (r := (some (x_i 0))) (h1 := h) dX10_sum_58 sX10_sum_168 (by first | exact mPk_0 hK.1 | exact mPk_0 (hF1.pm hK.1)) rfl rfl (Nat.le_of_ble_eq_true rfl) hz (k_has_f G hK (a := p) (by omega) z_K_sum q11) ?_
        show x_E _ _ _ _ 61 _ [x_i 0] _
        refine x_if_eq (tgt := 98) dX10_sum_61 (by decide) (fun _ => ?_) (fun c => absurd (by decide) c)
        refine x_aload_n (i := 0) (o := some m) dX10_sum_98 rfl rfl ?_
        refine x_iload (i := 4) (x := nI p) dX10_sum_99 rfl ?_
        rcases hcc with ⟨h5, hq2, hi⟩ | ⟨h5, h6, hi⟩
        · skip
          refine x_callV (a := m) (av := [x_i (nI p)]) (rest := []) (r := (some (x_i (nI (b + 1))))) (h1 := h) dX10_sum_101 sX10_sum_204 (by first | exact mPk_0 hK.1 | exact mPk_0 (hF1.pm hK.1)) rfl rfl (Nat.le_of_ble_eq_true rfl) hz (by have k := c_nextItem G hK hqi (Or.inl h5); rw [if_pos h5] at k; exact k) ?_
          show x_E _ _ _ _ 104 _ [x_i (nI (b + 1))] _
          refine x_istore (i := 4) (lv' := [(0, x_r (some m)), (1, x_i r), (2, x_i e), (3, x_i part), (4, x_i (nI (b + 1)))]) dX10_sum_104 (by decide) rfl ?_
          refine x_goto (tgt := 46) dX10_sum_106 (by decide) ?_
          show x_E _ _ _ _ 46 _ _ _
          rw [hi, z_sm_f q11] at hQ
          exact ih g (by omega) (b + 1) (by omega) hq2 hQ
        · skip
          refine x_callV (a := m) (av := [x_i (nI p)]) (rest := []) (r := (some (x_i ((-1))))) (h1 := h) dX10_sum_101 sX10_sum_204 (by first | exact mPk_0 hK.1 | exact mPk_0 (hF1.pm hK.1)) rfl rfl (Nat.le_of_ble_eq_true rfl) hz (by have k := c_nextItem G hK hqi (Or.inr h6); rw [if_neg h5] at k; exact k) ?_
          show x_E _ _ _ _ 104 _ [x_i ((-1))] _
          refine x_istore (i := 4) (lv' := [(0, x_r (some m)), (1, x_i r), (2, x_i e), (3, x_i part), (4, x_i ((-1)))]) dX10_sum_104 (by decide) rfl ?_
          refine x_goto (tgt := 46) dX10_sum_106 (by decide) ?_
          refine x_iload (i := 4) (x := (-1)) dX10_sum_46 rfl ?_
          refine x_iconst (v := (-1)) dX10_sum_48 (by decide) ?_
          refine x_icmp_eq (tgt := 109) dX10_sum_49 (by decide) (fun _ => ?_) (fun c => absurd (by decide) c)
          refine x_lconst (v := 0) dX10_sum_109 (by decide) ?_
          refine x_lreturn dX10_sum_110 rfl hz ?_
          rw [hi, z_sm_f q11] at hQ
          exact hQ _ x_F.rf
set_option maxHeartbeats 4000000 in
set_option maxRecDepth 100000 in
theorem c_sumM (G : x_G) {h : x_H} {m : Nat} {l : List (Nat × Nat)} {C : Nat → Int32} {R : List (Nat × Nat)} {E : List Int32} (hB : m_Bk h m l C R E) {X : z_X} (hX : m_X h m X) (r e part : Int32) : x_Ex G mX10_sum h [x_r (some m), x_i r, x_i e, x_i part] (fun rr h' => rr = some (x_l (z_su X C R r e part)) ∧ x_F h h' (fun i a => a = m ∧ (i = 1024 ∨ i = 1026 ∨ i = 1027 ∨ i = 1028)) (fun _ => False)) := by
  have hFh : x_F h (x_sI h 1024 m 0) (fun i a => a = m ∧ (i = 1024 ∨ i = 1026 ∨ i = 1027 ∨ i = 1028)) (fun _ => False) := x_F.rf.I ⟨rfl, Or.inl rfl⟩
  have hB1 : m_Bk (x_sI h 1024 m 0) m l C R E := hB.F hFh ⟨by omega, by omega, by omega⟩ (fun _ z => z.elim)
  have hX1 : m_X (x_sI h 1024 m 0) m X := hX.F hFh (by omega) (fun _ z => z.elim)
  have h60 := hB.2.2.1
  refine x_enter mwX10_sum (Nat.le_of_ble_eq_true rfl) ?_
  show x_E _ _ _ _ _ [(0, x_r (some m)), (1, x_i r), (2, x_i e), (3, x_i part)] _ _
  refine x_aload_n (i := 0) (o := some m) dX10_sum_0 rfl rfl ?_
  refine x_iconst (v := 0) dX10_sum_1 (by decide) ?_
  refine x_putI (i := 1024) dX10_sum_2 pX10_sum_68 rfl rfl (mPk_0 hB.1.1) (rfl) (by rfl) ?_
  refine x_iload_n (i := 1) (x := r) dX10_sum_5 rfl rfl ?_
  refine x_if_lt (tgt := 37) dX10_sum_6 (by decide) (fun c6 => ?_) (fun c6 => ?_)
  · skip
    have es : z_su X C R r e part = 0 := if_neg (fun z => absurd z.1 (Int32.not_le.mpr c6))
    refine x_lconst (v := 0) dX10_sum_37 (by decide) ?_
    refine x_lreturn dX10_sum_38 rfl ⟨Nat.le_refl _, Nat.le_refl _⟩ ?_
    exact ⟨by rw [es], hFh⟩
  · skip
    obtain ⟨j, hj, rfl⟩ := nI_of c6
    refine x_iload_n (i := 1) (x := nI j) dX10_sum_9 rfl rfl ?_
    refine x_aload_n (i := 0) (o := some m) dX10_sum_10 rfl rfl ?_
    refine x_getIv (v := nI R.length) dX10_sum_11 fX10_sum_162 (i := 1011) rfl rfl (mPk_0 hB.1.1) ((by rw [x_fi_sI, if_neg (by omega)]; exact hB.2.1.1)) ?_
    refine x_icmp_ge (tgt := 37) dX10_sum_14 (by decide) (fun c14 => ?_) (fun c14 => ?_)
    · skip
      have es : z_su X C R (nI j) e part = 0 := by
        unfold z_su
        rw [nI_clamp hj, List.getElem?_eq_none ((nI_leI (by omega) hj).mp c14)]
        split <;> rfl
      refine x_lconst (v := 0) dX10_sum_37 (by decide) ?_
      refine x_lreturn dX10_sum_38 rfl ⟨Nat.le_refl _, Nat.le_refl _⟩ ?_
      exact ⟨by rw [es], hFh⟩
    · skip
      have q14 : j < R.length := Nat.lt_of_not_le fun z => c14 (nI_le z hj)
      obtain ⟨q, hr⟩ : ∃ q, R[j]? = some q := ⟨_, List.getElem?_eq_getElem q14⟩
      obtain ⟨h7, h8, hr6, hq1, hq2, hc, en, hqs⟩ := hB.at hr
      refine x_iload_n (i := 2) (x := e) dX10_sum_17 rfl rfl ?_
      refine x_if_lt (tgt := 37) dX10_sum_18 (by decide) (fun c18 => ?_) (fun c18 => ?_)
      · skip
        have es : z_su X C R (nI j) e part = 0 := if_neg (fun z => by rcases z.2.1 with rfl | rfl <;> exact absurd c18 (by decide))
        refine x_lconst (v := 0) dX10_sum_37 (by decide) ?_
        refine x_lreturn dX10_sum_38 rfl ⟨Nat.le_refl _, Nat.le_refl _⟩ ?_
        exact ⟨by rw [es], hFh⟩
      · skip
        refine x_iload_n (i := 2) (x := e) dX10_sum_21 rfl rfl ?_
        refine x_iconst (v := 1) dX10_sum_22 (by decide) ?_
        refine x_icmp_gt (tgt := 37) dX10_sum_23 (by decide) (fun c23 => ?_) (fun c23 => ?_)
        · skip
          have es : z_su X C R (nI j) e part = 0 := if_neg (fun z => by rcases z.2.1 with rfl | rfl <;> exact absurd c23 (by decide))
          refine x_lconst (v := 0) dX10_sum_37 (by decide) ?_
          refine x_lreturn dX10_sum_38 rfl ⟨Nat.le_refl _, Nat.le_refl _⟩ ?_
          exact ⟨by rw [es], hFh⟩
        · skip
          have he : e = 0 ∨ e = 1 := by
            obtain ⟨k, hk, rfl⟩ := nI_of c18
            have : k ≤ 1 := Nat.le_of_not_lt fun z => c23 (nI_lt (a := 1) z hk)
            rcases Nat.le_one_iff_eq_zero_or_eq_one.mp this with rfl | rfl
            · exact Or.inl rfl
            · exact Or.inr rfl
          refine x_iload_n (i := 3) (x := part) dX10_sum_26 rfl rfl ?_
          refine x_iconst (v := (-1)) dX10_sum_27 (by decide) ?_
          refine x_icmp_lt (tgt := 37) dX10_sum_28 (by decide) (fun c28 => ?_) (fun c28 => ?_)
          · skip
            have es : z_su X C R (nI j) e part = 0 := if_neg (fun z => absurd z.2.2.1 (Int32.not_le.mpr c28))
            refine x_lconst (v := 0) dX10_sum_37 (by decide) ?_
            refine x_lreturn dX10_sum_38 rfl ⟨Nat.le_refl _, Nat.le_refl _⟩ ?_
            exact ⟨by rw [es], hFh⟩
          · skip
            refine x_iload_n (i := 3) (x := part) dX10_sum_31 rfl rfl ?_
            refine x_bipush (v := 15) dX10_sum_32 (by decide) ?_
            refine x_icmp_le (tgt := 39) dX10_sum_34 (by decide) (fun c34 => ?_) (fun c34 => ?_)
            · skip
              have es : z_su X C R (nI j) e part = z_sm X C (e == 1) part (z_its C q) := by
                unfold z_su
                rw [if_pos ⟨nI_pos' hj, he, Int32.not_lt.mp c28, c34⟩, nI_clamp hj, hr]
              refine x_aload_n (i := 0) (o := some m) dX10_sum_39 rfl rfl ?_
              refine x_iload_n (i := 1) (x := nI j) dX10_sum_40 rfl rfl ?_
              refine x_callV (a := m) (av := [x_i (nI j)]) (rest := []) (r := (some (x_i (nI (q.1 + 3))))) (h1 := x_sI h 1024 m 0) dX10_sum_41 sX10_sum_201 (mPk_0 hB.1.1) rfl rfl (Nat.le_of_ble_eq_true rfl) ⟨Nat.le_refl _, Nat.le_refl _⟩ (c_firstItem G hB1 hr) ?_
              show x_E _ _ _ _ 44 _ [x_i (nI (q.1 + 3))] _
              refine x_istore (i := 4) (lv' := [(0, x_r (some m)), (1, x_i (nI j)), (2, x_i e), (3, x_i part), (4, x_i (nI (q.1 + 3)))]) dX10_sum_44 (by decide) rfl ?_
              show x_E _ _ _ _ 46 _ _ _
              refine l_sumM G hB1.1 hX1 h ⟨Nat.le_refl _, Nat.le_refl _⟩ (nI j) e part _ 1501 (q.1 + 3) (by omega) hqs (fun h2 z => ⟨by rw [es]; rfl, (hFh.tr z (fun _ _ y => y) (fun _ _ y => ⟨y.1, Or.inr y.2⟩) (fun _ y => y) (fun _ y => y))⟩)
            · skip
              have es : z_su X C R (nI j) e part = 0 := if_neg (fun z => c34 z.2.2.2)
              refine x_lconst (v := 0) dX10_sum_37 (by decide) ?_
              refine x_lreturn dX10_sum_38 rfl ⟨Nat.le_refl _, Nat.le_refl _⟩ ?_
              exact ⟨by rw [es], hFh⟩
def z_ik (C : Nat → Int32) (p : Nat) : Int32 := if C p = -7 then 0 else if C p = -10 then 1 else 2
def z_tb (C : Nat → Int32) (R : List (Nat × Nat)) (t k : Int32) : Int32 := if 0 ≤ t then (match R[t.toNatClampNeg]? with
    | none => -1
    | some q => z_kt ((z_its C q).map (z_ik C)) 0 k) else -1
theorem z_ik_n (C : Nat → Int32) (p : Nat) : ¬ z_ik C p = -1 := by
  unfold z_ik
  split
  · decide
  · split <;> decide
set_option maxHeartbeats 4000000 in
set_option maxRecDepth 100000 in
theorem l_table (G : x_G) {h : x_H} {m : Nat} {l : List (Nat × Nat)} {C : Nat → Int32} (hK : m_K h m l C) (h0 : x_H) (hz : x_sz h0 ≤ x_sz h ∧ x_us h0 ≤ x_us h) (r k : Int32) {en : Nat} (Q : Option x_V → x_H → Prop) : ∀ (f p s : Nat), p < 2000 → q_items C 1501 f p = (true, en) → Q (some (x_i (if z_kt ((q_its C 1501 f p).map (z_ik C)) s k = -1 then 0 else z_kt ((q_its C 1501 f p).map (z_ik C)) s k))) (if z_kt ((q_its C 1501 f p).map (z_ik C)) s k = -1 then x_sI h 1024 m 1 else h) → x_E G mX10_table (x_D G mX10_table h0 Q) h0 26 [(0, x_r (some m)), (1, x_i r), (2, x_i k), (3, x_i (nI s)), (4, x_i (nI p))] [] h := by
  have hll := hK.ll
  intro f
  induction f using Nat.strongRecOn with
  | _ f ih =>
    intro p s hp hq hQ
    obtain ⟨g, b, rfl, hqi, hcc⟩ := q_its_c hq
    have hbn : b < 1600 := by
      have := q_item_lt hK.N hqi
      have y := (q_item_st (F := 1501) hK.N (a := p) (by omega)).2.1
      rw [hqi] at y
      dsimp only at y
      omega
    refine x_iload (i := 4) (x := nI p) dX10_table_26 rfl ?_
    refine x_iconst (v := (-1)) dX10_table_28 (by decide) ?_
    refine x_icmp_eq (tgt := 85) dX10_table_29 (by decide) (fun c29 => ?_) (fun c29 => ?_)
    · skip
      exact absurd c29 (z_neg1 (nI_pos' (by omega)))
    · skip
      refine x_iload_n (i := 3) (x := nI s) dX10_table_32 rfl rfl ?_
      refine x_iload_n (i := 2) (x := k) dX10_table_33 rfl rfl ?_
      refine x_icmp_ne (tgt := 71) dX10_table_34 (by decide) (fun c34 => ?_) (fun c34 => ?_)
      · skip
        refine x_iinc (i := 3) (x := nI s) (v := nI (s + 1)) (lv' := [(0, x_r (some m)), (1, x_i r), (2, x_i k), (3, x_i (nI (s + 1))), (4, x_i (nI p))]) dX10_table_71 rfl (nI_1 s) (by decide) rfl ?_
        refine x_aload_n (i := 0) (o := some m) dX10_table_74 rfl rfl ?_
        refine x_iload (i := 4) (x := nI p) dX10_table_75 rfl ?_
        rcases hcc with ⟨h5, hq2, hi⟩ | ⟨h5, h6, hi⟩
        · skip
          refine x_callV (a := m) (av := [x_i (nI p)]) (rest := []) (r := (some (x_i (nI (b + 1))))) (h1 := h) dX10_table_77 sX10_table_204 (mPk_0 hK.1) rfl rfl (Nat.le_of_ble_eq_true rfl) hz (by have k := c_nextItem G hK hqi (Or.inl h5); rw [if_pos h5] at k; exact k) ?_
          show x_E _ _ _ _ 80 _ [x_i (nI (b + 1))] _
          refine x_istore (i := 4) (lv' := [(0, x_r (some m)), (1, x_i r), (2, x_i k), (3, x_i (nI (s + 1))), (4, x_i (nI (b + 1)))]) dX10_table_80 (by decide) rfl ?_
          refine x_goto (tgt := 26) dX10_table_82 (by decide) ?_
          show x_E _ _ _ _ 26 _ _ _
          rw [hi, List.map_cons, show z_kt (z_ik C p :: (q_its C 1501 g (b + 1)).map (z_ik C)) s k = z_kt ((q_its C 1501 g (b + 1)).map (z_ik C)) (s + 1) k from if_neg c34] at hQ
          exact ih g (by omega) (b + 1) (s + 1) (by omega) hq2 hQ
        · skip
          refine x_callV (a := m) (av := [x_i (nI p)]) (rest := []) (r := (some (x_i ((-1))))) (h1 := h) dX10_table_77 sX10_table_204 (mPk_0 hK.1) rfl rfl (Nat.le_of_ble_eq_true rfl) hz (by have k := c_nextItem G hK hqi (Or.inr h6); rw [if_neg h5] at k; exact k) ?_
          show x_E _ _ _ _ 80 _ [x_i ((-1))] _
          refine x_istore (i := 4) (lv' := [(0, x_r (some m)), (1, x_i r), (2, x_i k), (3, x_i (nI (s + 1))), (4, x_i ((-1)))]) dX10_table_80 (by decide) rfl ?_
          refine x_goto (tgt := 26) dX10_table_82 (by decide) ?_
          refine x_iload (i := 4) (x := (-1)) dX10_table_26 rfl ?_
          refine x_iconst (v := (-1)) dX10_table_28 (by decide) ?_
          refine x_icmp_eq (tgt := 85) dX10_table_29 (by decide) (fun _ => ?_) (fun c => absurd (by decide) c)
          refine x_aload_n (i := 0) (o := some m) dX10_table_85 rfl rfl ?_
          refine x_iconst (v := 1) dX10_table_86 (by decide) ?_
          refine x_putI (i := 1024) dX10_table_87 pX10_table_68 rfl rfl (mPk_0 hK.1) (rfl) (by rfl) ?_
          refine x_iconst (v := 0) dX10_table_90 (by decide) ?_
          refine x_ireturn dX10_table_91 rfl (rfl) hz ?_
          rw [hi, List.map_cons, List.map_nil, show z_kt [z_ik C p] s k = -1 from if_neg c34] at hQ
          exact hQ
      · skip
        refine x_aload_n (i := 0) (o := some m) dX10_table_37 rfl rfl ?_
        refine x_iload (i := 4) (x := nI p) dX10_table_38 rfl ?_
        refine x_ldc2 (v := 6247773044) dX10_table_40 kX10_table_124 ?_
        by_cases q7 : C p = -7
        · skip
          refine x_callV (a := m) (av := [x_i (nI p), x_l 6247773044]) (rest := []) (r := (some (x_i 1))) (h1 := h) dX10_table_43 sX10_table_168 (mPk_0 hK.1) rfl rfl (Nat.le_of_ble_eq_true rfl) hz (k_has_t G hK (a := p) (by omega) z_K_test q7) ?_
          show x_E _ _ _ _ 46 _ [x_i 1] _
          refine x_if_eq (tgt := 53) dX10_table_46 (by decide) (fun c => absurd c (by decide)) (fun _ => ?_)
          refine x_iconst (v := 0) dX10_table_49 (by decide) ?_
          refine x_goto (tgt := 70) dX10_table_50 (by decide) ?_
          refine x_ireturn dX10_table_70 rfl (rfl) hz ?_
          have hi : ∃ L2, q_its C 1501 (g + 1) p = p :: L2 := by
            rcases hcc with ⟨_, _, hi⟩ | ⟨_, _, hi⟩
            · exact ⟨_, hi⟩
            · exact ⟨_, hi⟩
          obtain ⟨L2, hi⟩ := hi
          rw [hi, List.map_cons, show z_kt (z_ik C p :: L2.map (z_ik C)) s k = z_ik C p from if_pos c34, show z_ik C p = 0 from by unfold z_ik; rw [if_pos q7]] at hQ
          exact hQ
        · skip
          refine x_callV (a := m) (av := [x_i (nI p), x_l 6247773044]) (rest := []) (r := (some (x_i 0))) (h1 := h) dX10_table_43 sX10_table_168 (mPk_0 hK.1) rfl rfl (Nat.le_of_ble_eq_true rfl) hz (k_has_f G hK (a := p) (by omega) z_K_test q7) ?_
          show x_E _ _ _ _ 46 _ [x_i 0] _
          refine x_if_eq (tgt := 53) dX10_table_46 (by decide) (fun _ => ?_) (fun c => absurd (by decide) c)
          refine x_aload_n (i := 0) (o := some m) dX10_table_53 rfl rfl ?_
          refine x_iload (i := 4) (x := nI p) dX10_table_54 rfl ?_
          refine x_ldc2 (v := 1548057601139) dX10_table_56 kX10_table_130 ?_
          by_cases q10 : C p = -10
          · skip
            refine x_callV (a := m) (av := [x_i (nI p), x_l 1548057601139]) (rest := []) (r := (some (x_i 1))) (h1 := h) dX10_table_59 sX10_table_168 (mPk_0 hK.1) rfl rfl (Nat.le_of_ble_eq_true rfl) hz (k_has_t G hK (a := p) (by omega) z_K_holds q10) ?_
            show x_E _ _ _ _ 62 _ [x_i 1] _
            refine x_if_eq (tgt := 69) dX10_table_62 (by decide) (fun c => absurd c (by decide)) (fun _ => ?_)
            refine x_iconst (v := 1) dX10_table_65 (by decide) ?_
            refine x_goto (tgt := 70) dX10_table_66 (by decide) ?_
            refine x_ireturn dX10_table_70 rfl (rfl) hz ?_
            have hi : ∃ L2, q_its C 1501 (g + 1) p = p :: L2 := by
              rcases hcc with ⟨_, _, hi⟩ | ⟨_, _, hi⟩
              · exact ⟨_, hi⟩
              · exact ⟨_, hi⟩
            obtain ⟨L2, hi⟩ := hi
            rw [hi, List.map_cons, show z_kt (z_ik C p :: L2.map (z_ik C)) s k = z_ik C p from if_pos c34, show z_ik C p = 1 from by unfold z_ik; rw [if_neg q7, if_pos q10]] at hQ
            exact hQ
          · skip
            refine x_callV (a := m) (av := [x_i (nI p), x_l 1548057601139]) (rest := []) (r := (some (x_i 0))) (h1 := h) dX10_table_59 sX10_table_168 (mPk_0 hK.1) rfl rfl (Nat.le_of_ble_eq_true rfl) hz (k_has_f G hK (a := p) (by omega) z_K_holds q10) ?_
            show x_E _ _ _ _ 62 _ [x_i 0] _
            refine x_if_eq (tgt := 69) dX10_table_62 (by decide) (fun _ => ?_) (fun c => absurd (by decide) c)
            refine x_iconst (v := 2) dX10_table_69 (by decide) ?_
            refine x_ireturn dX10_table_70 rfl (rfl) hz ?_
            have hi : ∃ L2, q_its C 1501 (g + 1) p = p :: L2 := by
              rcases hcc with ⟨_, _, hi⟩ | ⟨_, _, hi⟩
              · exact ⟨_, hi⟩
              · exact ⟨_, hi⟩
            obtain ⟨L2, hi⟩ := hi
            rw [hi, List.map_cons, show z_kt (z_ik C p :: L2.map (z_ik C)) s k = z_ik C p from if_pos c34, show z_ik C p = 2 from by unfold z_ik; rw [if_neg q7, if_neg q10]] at hQ
            exact hQ
set_option maxHeartbeats 4000000 in
set_option maxRecDepth 100000 in
theorem c_tableM (G : x_G) {h : x_H} {m : Nat} {l : List (Nat × Nat)} {C : Nat → Int32} {R : List (Nat × Nat)} {E : List Int32} (hB : m_Bk h m l C R E) (r k : Int32) : x_Call G mX10_table h [x_r (some m), x_i r, x_i k] (some (x_i (if z_tb C R r k = -1 then 0 else z_tb C R r k))) (x_sI h 1024 m (if z_tb C R r k = -1 then 1 else 0)) := by
  have hFh : x_F h (x_sI h 1024 m 0) (fun i a => i = 1024 ∧ a = m) (fun _ => False) := x_F.rf.I ⟨rfl, rfl⟩
  have hB1 : m_Bk (x_sI h 1024 m 0) m l C R E := hB.F hFh ⟨by omega, by omega, by omega⟩ (fun _ z => z.elim)
  have h60 := hB.2.2.1
  refine x_Ex.call (x_enter mwX10_table (Nat.le_of_ble_eq_true rfl) ?_)
  show x_E _ _ _ _ _ [(0, x_r (some m)), (1, x_i r), (2, x_i k)] _ _
  refine x_aload_n (i := 0) (o := some m) dX10_table_0 rfl rfl ?_
  refine x_iconst (v := 0) dX10_table_1 (by decide) ?_
  refine x_putI (i := 1024) dX10_table_2 pX10_table_68 rfl rfl (mPk_0 hB.1.1) (rfl) (by rfl) ?_
  refine x_iconst (v := 0) dX10_table_5 (by decide) ?_
  refine x_istore_n (i := 3) (lv' := [(0, x_r (some m)), (1, x_i r), (2, x_i k), (3, x_i 0)]) dX10_table_6 rfl (by decide) rfl ?_
  refine x_iload_n (i := 1) (x := r) dX10_table_7 rfl rfl ?_
  refine x_if_lt (tgt := 85) dX10_table_8 (by decide) (fun c8 => ?_) (fun c8 => ?_)
  · skip
    have es : z_tb C R r k = -1 := if_neg (Int32.not_le.mpr c8)
    refine x_aload_n (i := 0) (o := some m) dX10_table_85 rfl rfl ?_
    refine x_iconst (v := 1) dX10_table_86 (by decide) ?_
    refine x_putI (i := 1024) dX10_table_87 pX10_table_68 rfl rfl (mPk_0 hB.1.1) (rfl) (by rfl) ?_
    refine x_iconst (v := 0) dX10_table_90 (by decide) ?_
    refine x_ireturn dX10_table_91 rfl (rfl) ⟨Nat.le_refl _, Nat.le_refl _⟩ ?_
    exact ⟨by rw [es, if_pos rfl], by rw [es, if_pos rfl, x_sI_sI]⟩
  · skip
    obtain ⟨j, hj, rfl⟩ := nI_of c8
    refine x_iload_n (i := 1) (x := nI j) dX10_table_11 rfl rfl ?_
    refine x_aload_n (i := 0) (o := some m) dX10_table_12 rfl rfl ?_
    refine x_getIv (v := nI R.length) dX10_table_13 fX10_table_162 (i := 1011) rfl rfl (mPk_0 hB.1.1) ((by rw [x_fi_sI, if_neg (by omega)]; exact hB.2.1.1)) ?_
    refine x_icmp_ge (tgt := 85) dX10_table_16 (by decide) (fun c16 => ?_) (fun c16 => ?_)
    · skip
      have es : z_tb C R (nI j) k = -1 := by
        unfold z_tb
        rw [nI_clamp hj, List.getElem?_eq_none ((nI_leI (by omega) hj).mp c16)]
        split <;> rfl
      refine x_aload_n (i := 0) (o := some m) dX10_table_85 rfl rfl ?_
      refine x_iconst (v := 1) dX10_table_86 (by decide) ?_
      refine x_putI (i := 1024) dX10_table_87 pX10_table_68 rfl rfl (mPk_0 hB.1.1) (rfl) (by rfl) ?_
      refine x_iconst (v := 0) dX10_table_90 (by decide) ?_
      refine x_ireturn dX10_table_91 rfl (rfl) ⟨Nat.le_refl _, Nat.le_refl _⟩ ?_
      exact ⟨by rw [es, if_pos rfl], by rw [es, if_pos rfl, x_sI_sI]⟩
    · skip
      have q14 : j < R.length := Nat.lt_of_not_le fun z => c16 (nI_le z hj)
      obtain ⟨q, hr⟩ : ∃ q, R[j]? = some q := ⟨_, List.getElem?_eq_getElem q14⟩
      obtain ⟨h7, h8, hr6, hq1, hq2, hc, en, hqs⟩ := hB.at hr
      have es : z_tb C R (nI j) k = z_kt ((z_its C q).map (z_ik C)) 0 k := by
        unfold z_tb
        rw [if_pos (nI_pos' hj), nI_clamp hj, hr]
      refine x_aload_n (i := 0) (o := some m) dX10_table_19 rfl rfl ?_
      refine x_iload_n (i := 1) (x := nI j) dX10_table_20 rfl rfl ?_
      refine x_callV (a := m) (av := [x_i (nI j)]) (rest := []) (r := (some (x_i (nI (q.1 + 3))))) (h1 := x_sI h 1024 m 0) dX10_table_21 sX10_table_201 (mPk_0 hB.1.1) rfl rfl (Nat.le_of_ble_eq_true rfl) ⟨Nat.le_refl _, Nat.le_refl _⟩ (c_firstItem G hB1 hr) ?_
      show x_E _ _ _ _ 24 _ [x_i (nI (q.1 + 3))] _
      refine x_istore (i := 4) (lv' := [(0, x_r (some m)), (1, x_i (nI j)), (2, x_i k), (3, x_i 0), (4, x_i (nI (q.1 + 3)))]) dX10_table_24 (by decide) rfl ?_
      show x_E _ _ _ _ 26 _ _ _
      refine l_table G hB1.1 h ⟨Nat.le_refl _, Nat.le_refl _⟩ (nI j) k _ 1501 (q.1 + 3) 0 (by omega) hqs ?_
      rw [es]
      refine ⟨rfl, ?_⟩
      show (if z_kt ((z_its C q).map (z_ik C)) 0 k = -1 then _ else _) = _
      split
      · rw [x_sI_sI]
      · rfl
