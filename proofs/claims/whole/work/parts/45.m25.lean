/-! THE REFERENCE: limit -/
def z_l1 (C : Nat → Int32) (p : Nat) : Int32 := if C p = -11 ∧ C (z_cp C 1501 (p + 1)) = -12 then C (z_cp C 1501 (p + 1) + 1) else -1
def z_lm (v : Int64) (n : Int32) : Int64 := if 0 ≤ n ∧ (v < 0 ∨ n.toInt64 < v) then n.toInt64 else v
def z_lis (C : Nat → Int32) : List Nat → Int64 → Int64
  | [], v => v
  | p :: L, v => z_lis C L (z_lm v (z_l1 C p))
def z_lrs (C : Nat → Int32) (act c : Int32) : List (Nat × Nat) → Int64 → Int64
  | [], v => v
  | q :: L, v => z_lrs C act c L (if nI q.2 = act ∧ C (q.1 + 1) = c then z_lis C (z_its C q) v else v)
theorem z_lm_n (v : Int64) : z_lm v (-1) = v := if_neg (fun z => absurd z.1 (by decide))
theorem z_lrs_none {C : Nat → Int32} {c : Int32} : ∀ {L : List (Nat × Nat)} {v : Int64}, (∀ q ∈ L, q.2 < 1500) → z_lrs C (-1) c L v = v
  | [], _, _ => rfl
  | q :: L, v, h => by
    show z_lrs C (-1) c L _ = v
    rw [if_neg (fun z => z_neg1 (nI_pos' (by have := h q List.mem_cons_self; omega)) z.1)]
    exact z_lrs_none (fun p hp => h p (List.mem_cons_of_mem _ hp))
set_option maxHeartbeats 4000000 in
set_option maxRecDepth 100000 in
theorem l_limI (G : x_G) {h : x_H} {m : Nat} {l : List (Nat × Nat)} {C : Nat → Int32} (hK : m_K h m l C) {X : z_X} (hX : m_X h m X) (h0 : x_H) (hz : x_sz h0 ≤ x_sz h ∧ x_us h0 ≤ x_us h) (c : Int32) (i : Nat) {en : Nat} (D : Room → x_Z → Prop) : ∀ (f p : Nat) (v : Int64) (h1 : x_H), p < 2000 → q_items C 1501 f p = (true, en) → x_F h h1 (fun i a => a = m ∧ (i = 1026 ∨ i = 1027 ∨ i = 1028)) (fun _ => False) → (∀ h3, x_F h h3 (fun i a => a = m ∧ (i = 1026 ∨ i = 1027 ∨ i = 1028)) (fun _ => False) → x_E G mX10_limit D h0 146 [(0, x_r (some m)), (1, x_i c), (2, x_l (z_lis C (q_its C 1501 f p) v)), (4, x_i (nI i))] [] h3) → x_E G mX10_limit D h0 61 [(0, x_r (some m)), (1, x_i c), (2, x_l v), (4, x_i (nI i)), (5, x_i (nI p))] [] h1 := by
  have hll := hK.ll
  intro f
  induction f using Nat.strongRecOn with
  | _ f ih =>
    intro p v h1 hp hq hF1 kx
    obtain ⟨g, b, rfl, hqi, hcc⟩ := q_its_c hq
    have hbn : b < 1600 := by
      have := q_item_lt hK.N hqi
      have y := (q_item_st (F := 1501) hK.N (a := p) (by omega)).2.1
      rw [hqi] at y
      dsimp only at y
      omega
    have hK1 := hK.F hF1 (by omega) (fun z => z) (fun z => z) (fun z => z)
    have hX1 := hX.F hF1 (by omega) (fun _ z => z.elim)
    have hz1 : x_sz h0 ≤ x_sz h1 ∧ x_us h0 ≤ x_us h1 := ⟨Nat.le_trans hz.1 hF1.le.1, Nat.le_trans hz.2 hF1.le.2⟩
    refine x_iload (i := 5) (x := nI p) dX10_limit_61 rfl ?_
    refine x_iconst (v := (-1)) dX10_limit_63 (by decide) ?_
    refine x_icmp_eq (tgt := 146) dX10_limit_64 (by decide) (fun c64 => ?_) (fun c64 => ?_)
    · skip
      exact absurd c64 (z_neg1 (nI_pos' (by omega)))
    · skip
      refine x_aload_n (i := 0) (o := some m) dX10_limit_67 rfl rfl ?_
      refine x_iload (i := 5) (x := nI p) dX10_limit_68 rfl ?_
      refine x_ldc2 (v := 24343917) dX10_limit_70 kX10_limit_132 ?_
      by_cases q11 : C p = -11
      · skip
        have hqs : q_sum C 1501 (p + 1) = (true, b) := by
          rcases q_item_c hqi with z | z | z
          · rw [z.1] at q11; exact absurd q11 (by decide)
          · rw [z.2.1] at q11; exact absurd q11 (by decide)
          · exact z.2.2.2
        have hm := q_sum_more hqs
        obtain ⟨hcc2, hcn⟩ := q_cmp_c (q_cp hm)
        have hcl := hK.N.n hcn
        obtain ⟨_, h2, ⟨rfl, hF2a, -, -, hc2⟩, hca⟩ := c_addF G hK1 hX1 (-1) true hqs
        have hF2 : x_F h h2 (fun i a => a = m ∧ (i = 1026 ∨ i = 1027 ∨ i = 1028)) (fun _ => False) := hF1.tr hF2a (fun _ _ z => z) (fun _ _ z => z) (fun _ z => z) (fun _ z => z)
        have hK2 := hK.F hF2 (by omega) (fun z => z) (fun z => z) (fun z => z)
        have hz2 : x_sz h0 ≤ x_sz h2 ∧ x_us h0 ≤ x_us h2 := ⟨Nat.le_trans hz.1 hF2.le.1, Nat.le_trans hz.2 hF2.le.2⟩
        refine x_callV (a := m) (av := [x_i (nI p), x_l 24343917]) (rest := []) (r := (some (x_i 1))) (h1 := h1) dX10_limit_73 sX10_limit_168 (by first | exact mPk_0 hK1.1 | exact mPk_0 hK2.1) rfl rfl (Nat.le_of_ble_eq_true rfl) hz1 (k_has_t G hK1 (a := p) (by omega) z_K_sum q11) ?_
        show x_E _ _ _ _ 76 _ [x_i 1] _
        refine x_if_eq (tgt := 135) dX10_limit_76 (by decide) (fun c => absurd c (by decide)) (fun _ => ?_)
        refine x_aload_n (i := 0) (o := some m) dX10_limit_79 rfl rfl ?_
        refine x_iload (i := 5) (x := nI p) dX10_limit_80 rfl ?_
        refine x_iconst (v := 1) dX10_limit_82 (by decide) ?_
        refine x_iconst (v := (-1)) dX10_limit_83 (by decide) ?_
        refine x_callV (a := m) (av := [x_i (nI p), x_i 1, x_i ((-1))]) (rest := []) (r := none) (h1 := h2) dX10_limit_84 sX10_limit_194 (by first | exact mPk_0 hK1.1 | exact mPk_0 hK2.1) rfl rfl (Nat.le_of_ble_eq_true rfl) hz1 (hca) ?_
        show x_E _ _ _ _ 87 _ [] _
        refine x_aload_n (i := 0) (o := some m) dX10_limit_87 rfl rfl ?_
        refine x_aload_n (i := 0) (o := some m) dX10_limit_88 rfl rfl ?_
        refine x_getIv (v := nI (z_cp C 1501 (p + 1))) dX10_limit_89 fX10_limit_191 (i := 1028) rfl rfl (by first | exact mPk_0 hK1.1 | exact mPk_0 hK2.1) (hc2) ?_
        refine x_iconst (v := 1) dX10_limit_92 (by decide) ?_
        refine x_iadd dX10_limit_93 ?_
        rw [show (nI (z_cp C 1501 (p + 1))) + 1 = nI (z_cp C 1501 (p + 1) + 1) from nI_1 _]
        refine x_callV (a := m) (av := [x_i (nI (z_cp C 1501 (p + 1) + 1))]) (rest := []) (r := (some (x_i (C (z_cp C 1501 (p + 1) + 1))))) (h1 := h2) dX10_limit_94 sX10_limit_172 (by first | exact mPk_0 hK1.1 | exact mPk_0 hK2.1) rfl rfl (Nat.le_of_ble_eq_true rfl) hz2 (k_num G hK2 hcn.1) ?_
        show x_E _ _ _ _ 97 _ [x_i (C (z_cp C 1501 (p + 1) + 1))] _
        refine x_istore (i := 6) (lv' := [(0, x_r (some m)), (1, x_i c), (2, x_l v), (4, x_i (nI i)), (5, x_i (nI p)), (6, x_i (C (z_cp C 1501 (p + 1) + 1)))]) dX10_limit_97 (by decide) rfl ?_
        refine x_aload_n (i := 0) (o := some m) dX10_limit_99 rfl rfl ?_
        refine x_aload_n (i := 0) (o := some m) dX10_limit_100 rfl rfl ?_
        refine x_getIv (v := nI (z_cp C 1501 (p + 1))) dX10_limit_101 fX10_limit_191 (i := 1028) rfl rfl (by first | exact mPk_0 hK1.1 | exact mPk_0 hK2.1) (hc2) ?_
        refine x_ldc2 (v := 6164997490) dX10_limit_104 kX10_limit_120 ?_
        by_cases q12 : C (z_cp C 1501 (p + 1)) = -12
        · skip
          have e0 : z_l1 C p = C (z_cp C 1501 (p + 1) + 1) := if_pos ⟨q11, q12⟩
          refine x_callV (a := m) (av := [x_i (nI (z_cp C 1501 (p + 1))), x_l 6164997490]) (rest := []) (r := (some (x_i 1))) (h1 := h2) dX10_limit_107 sX10_limit_168 (by first | exact mPk_0 hK1.1 | exact mPk_0 hK2.1) rfl rfl (Nat.le_of_ble_eq_true rfl) hz2 (k_has_t G hK2 (a := z_cp C 1501 (p + 1)) (by omega) z_K_over q12) ?_
          show x_E _ _ _ _ 110 _ [x_i 1] _
          refine x_if_eq (tgt := 133) dX10_limit_110 (by decide) (fun c => absurd c (by decide)) (fun _ => ?_)
          refine x_lload_n (i := 2) (x := v) dX10_limit_113 rfl rfl ?_
          refine x_lconst (v := 0) dX10_limit_114 (by decide) ?_
          refine x_lcmp dX10_limit_115 ?_
          refine x_if_lt (tgt := 127) dX10_limit_116 (by decide) (fun c116 => ?_) (fun c116 => ?_)
          · skip
            have e1 : z_lm v (z_l1 C p) = (C (z_cp C 1501 (p + 1) + 1)).toInt64 := by rw [e0]; exact if_pos ⟨hcn.1, Or.inl ((lg_cmp_lt _ _).mp c116)⟩
            refine x_iload (i := 6) (x := C (z_cp C 1501 (p + 1) + 1)) dX10_limit_127 rfl ?_
            refine x_i2l dX10_limit_129 ?_
            refine x_goto (tgt := 134) dX10_limit_130 (by decide) ?_
            refine x_lstore_n (i := 2) (lv' := [(0, x_r (some m)), (1, x_i c), (2, x_l (Int32.toInt64 (C (z_cp C 1501 (p + 1) + 1)))), (4, x_i (nI i)), (5, x_i (nI p)), (6, x_i (C (z_cp C 1501 (p + 1) + 1)))]) dX10_limit_134 rfl (by decide) rfl ?_
            refine x_aload_n (i := 0) (o := some m) dX10_limit_135 rfl rfl ?_
            refine x_iload (i := 5) (x := nI p) dX10_limit_136 rfl ?_
            rcases hcc with ⟨h5, hq2, hi⟩ | ⟨h5, h6, hi⟩
            · skip
              refine x_callV (a := m) (av := [x_i (nI p)]) (rest := []) (r := (some (x_i (nI (b + 1))))) (h1 := h2) dX10_limit_138 sX10_limit_204 (by first | exact mPk_0 hK1.1 | exact mPk_0 hK2.1) rfl rfl (Nat.le_of_ble_eq_true rfl) hz2 (by have k := c_nextItem G hK2 hqi (Or.inl h5); rw [if_pos h5] at k; exact k) ?_
              show x_E _ _ _ _ 141 _ [x_i (nI (b + 1))] _
              refine x_istore (i := 5) (lv' := [(0, x_r (some m)), (1, x_i c), (2, x_l (Int32.toInt64 (C (z_cp C 1501 (p + 1) + 1)))), (4, x_i (nI i)), (5, x_i (nI (b + 1))), (6, x_i (C (z_cp C 1501 (p + 1) + 1)))]) dX10_limit_141 (by decide) rfl ?_
              refine x_goto (tgt := 61) dX10_limit_143 (by decide) ?_
              show x_E _ _ _ _ 61 _ _ _
              rw [hi, show z_lis C (p :: q_its C 1501 g (b + 1)) v = z_lis C (q_its C 1501 g (b + 1)) (z_lm v (z_l1 C p)) from rfl, e1] at kx
              refine x_drop [0, 1, 2, 3, 4] rfl ?_
              exact ih g (by omega) (b + 1) _ _ (by omega) hq2 hF2 kx
            · skip
              refine x_callV (a := m) (av := [x_i (nI p)]) (rest := []) (r := (some (x_i ((-1))))) (h1 := h2) dX10_limit_138 sX10_limit_204 (by first | exact mPk_0 hK1.1 | exact mPk_0 hK2.1) rfl rfl (Nat.le_of_ble_eq_true rfl) hz2 (by have k := c_nextItem G hK2 hqi (Or.inr h6); rw [if_neg h5] at k; exact k) ?_
              show x_E _ _ _ _ 141 _ [x_i ((-1))] _
              refine x_istore (i := 5) (lv' := [(0, x_r (some m)), (1, x_i c), (2, x_l (Int32.toInt64 (C (z_cp C 1501 (p + 1) + 1)))), (4, x_i (nI i)), (5, x_i ((-1))), (6, x_i (C (z_cp C 1501 (p + 1) + 1)))]) dX10_limit_141 (by decide) rfl ?_
              refine x_goto (tgt := 61) dX10_limit_143 (by decide) ?_
              refine x_iload (i := 5) (x := (-1)) dX10_limit_61 rfl ?_
              refine x_iconst (v := (-1)) dX10_limit_63 (by decide) ?_
              refine x_icmp_eq (tgt := 146) dX10_limit_64 (by decide) (fun _ => ?_) (fun c => absurd (by decide) c)
              show x_E _ _ _ _ 146 _ _ _
              rw [hi, show z_lis C [p] v = z_lm v (z_l1 C p) from rfl, e1] at kx
              refine x_drop [0, 1, 2, 3] rfl ?_
              first | exact kx _ hF2 | exact kx _ hF1
          · skip
            refine x_iload (i := 6) (x := C (z_cp C 1501 (p + 1) + 1)) dX10_limit_119 rfl ?_
            refine x_i2l dX10_limit_121 ?_
            refine x_lload_n (i := 2) (x := v) dX10_limit_122 rfl rfl ?_
            refine x_lcmp dX10_limit_123 ?_
            refine x_if_ge (tgt := 133) dX10_limit_124 (by decide) (fun c124 => ?_) (fun c124 => ?_)
            · skip
              have e1 : z_lm v (z_l1 C p) = v := by
                rw [e0]
                refine if_neg fun z => ?_
                rcases z.2 with z | z
                · exact c116 ((lg_cmp_lt _ _).mpr z)
                · exact absurd z (Int64.not_lt.mpr ((lg_cmp_ge _ _).mp c124))
              refine x_lload_n (i := 2) (x := v) dX10_limit_133 rfl rfl ?_
              refine x_lstore_n (i := 2) (lv' := [(0, x_r (some m)), (1, x_i c), (2, x_l v), (4, x_i (nI i)), (5, x_i (nI p)), (6, x_i (C (z_cp C 1501 (p + 1) + 1)))]) dX10_limit_134 rfl (by decide) rfl ?_
              refine x_aload_n (i := 0) (o := some m) dX10_limit_135 rfl rfl ?_
              refine x_iload (i := 5) (x := nI p) dX10_limit_136 rfl ?_
              rcases hcc with ⟨h5, hq2, hi⟩ | ⟨h5, h6, hi⟩
              · skip
                refine x_callV (a := m) (av := [x_i (nI p)]) (rest := []) (r := (some (x_i (nI (b + 1))))) (h1 := h2) dX10_limit_138 sX10_limit_204 (by first | exact mPk_0 hK1.1 | exact mPk_0 hK2.1) rfl rfl (Nat.le_of_ble_eq_true rfl) hz2 (by have k := c_nextItem G hK2 hqi (Or.inl h5); rw [if_pos h5] at k; exact k) ?_
                show x_E _ _ _ _ 141 _ [x_i (nI (b + 1))] _
                refine x_istore (i := 5) (lv' := [(0, x_r (some m)), (1, x_i c), (2, x_l v), (4, x_i (nI i)), (5, x_i (nI (b + 1))), (6, x_i (C (z_cp C 1501 (p + 1) + 1)))]) dX10_limit_141 (by decide) rfl ?_
                refine x_goto (tgt := 61) dX10_limit_143 (by decide) ?_
                show x_E _ _ _ _ 61 _ _ _
                rw [hi, show z_lis C (p :: q_its C 1501 g (b + 1)) v = z_lis C (q_its C 1501 g (b + 1)) (z_lm v (z_l1 C p)) from rfl, e1] at kx
                refine x_drop [0, 1, 2, 3, 4] rfl ?_
                exact ih g (by omega) (b + 1) _ _ (by omega) hq2 hF2 kx
              · skip
                refine x_callV (a := m) (av := [x_i (nI p)]) (rest := []) (r := (some (x_i ((-1))))) (h1 := h2) dX10_limit_138 sX10_limit_204 (by first | exact mPk_0 hK1.1 | exact mPk_0 hK2.1) rfl rfl (Nat.le_of_ble_eq_true rfl) hz2 (by have k := c_nextItem G hK2 hqi (Or.inr h6); rw [if_neg h5] at k; exact k) ?_
                show x_E _ _ _ _ 141 _ [x_i ((-1))] _
                refine x_istore (i := 5) (lv' := [(0, x_r (some m)), (1, x_i c), (2, x_l v), (4, x_i (nI i)), (5, x_i ((-1))), (6, x_i (C (z_cp C 1501 (p + 1) + 1)))]) dX10_limit_141 (by decide) rfl ?_
                refine x_goto (tgt := 61) dX10_limit_143 (by decide) ?_
                refine x_iload (i := 5) (x := (-1)) dX10_limit_61 rfl ?_
                refine x_iconst (v := (-1)) dX10_limit_63 (by decide) ?_
                refine x_icmp_eq (tgt := 146) dX10_limit_64 (by decide) (fun _ => ?_) (fun c => absurd (by decide) c)
                show x_E _ _ _ _ 146 _ _ _
                rw [hi, show z_lis C [p] v = z_lm v (z_l1 C p) from rfl, e1] at kx
                refine x_drop [0, 1, 2, 3] rfl ?_
                first | exact kx _ hF2 | exact kx _ hF1
            · skip
              have e1 : z_lm v (z_l1 C p) = (C (z_cp C 1501 (p + 1) + 1)).toInt64 := by rw [e0]; exact if_pos ⟨hcn.1, Or.inr (Int64.not_le.mp fun z => c124 ((lg_cmp_ge _ _).mpr z))⟩
              refine x_iload (i := 6) (x := C (z_cp C 1501 (p + 1) + 1)) dX10_limit_127 rfl ?_
              refine x_i2l dX10_limit_129 ?_
              refine x_goto (tgt := 134) dX10_limit_130 (by decide) ?_
              refine x_lstore_n (i := 2) (lv' := [(0, x_r (some m)), (1, x_i c), (2, x_l (Int32.toInt64 (C (z_cp C 1501 (p + 1) + 1)))), (4, x_i (nI i)), (5, x_i (nI p)), (6, x_i (C (z_cp C 1501 (p + 1) + 1)))]) dX10_limit_134 rfl (by decide) rfl ?_
              refine x_aload_n (i := 0) (o := some m) dX10_limit_135 rfl rfl ?_
              refine x_iload (i := 5) (x := nI p) dX10_limit_136 rfl ?_
              rcases hcc with ⟨h5, hq2, hi⟩ | ⟨h5, h6, hi⟩
              · skip
                refine x_callV (a := m) (av := [x_i (nI p)]) (rest := []) (r := (some (x_i (nI (b + 1))))) (h1 := h2) dX10_limit_138 sX10_limit_204 (by first | exact mPk_0 hK1.1 | exact mPk_0 hK2.1) rfl rfl (Nat.le_of_ble_eq_true rfl) hz2 (by have k := c_nextItem G hK2 hqi (Or.inl h5); rw [if_pos h5] at k; exact k) ?_
                show x_E _ _ _ _ 141 _ [x_i (nI (b + 1))] _
                refine x_istore (i := 5) (lv' := [(0, x_r (some m)), (1, x_i c), (2, x_l (Int32.toInt64 (C (z_cp C 1501 (p + 1) + 1)))), (4, x_i (nI i)), (5, x_i (nI (b + 1))), (6, x_i (C (z_cp C 1501 (p + 1) + 1)))]) dX10_limit_141 (by decide) rfl ?_
                refine x_goto (tgt := 61) dX10_limit_143 (by decide) ?_
                show x_E _ _ _ _ 61 _ _ _
                rw [hi, show z_lis C (p :: q_its C 1501 g (b + 1)) v = z_lis C (q_its C 1501 g (b + 1)) (z_lm v (z_l1 C p)) from rfl, e1] at kx
                refine x_drop [0, 1, 2, 3, 4] rfl ?_
                exact ih g (by omega) (b + 1) _ _ (by omega) hq2 hF2 kx
              · skip
                refine x_callV (a := m) (av := [x_i (nI p)]) (rest := []) (r := (some (x_i ((-1))))) (h1 := h2) dX10_limit_138 sX10_limit_204 (by first | exact mPk_0 hK1.1 | exact mPk_0 hK2.1) rfl rfl (Nat.le_of_ble_eq_true rfl) hz2 (by have k := c_nextItem G hK2 hqi (Or.inr h6); rw [if_neg h5] at k; exact k) ?_
                show x_E _ _ _ _ 141 _ [x_i ((-1))] _
                refine x_istore (i := 5) (lv' := [(0, x_r (some m)), (1, x_i c), (2, x_l (Int32.toInt64 (C (z_cp C 1501 (p + 1) + 1)))), (4, x_i (nI i)), (5, x_i ((-1))), (6, x_i (C (z_cp C 1501 (p + 1) + 1)))]) dX10_limit_141 (by decide) rfl ?_
                refine x_goto (tgt := 61) dX10_limit_143 (by decide) ?_
                refine x_iload (i := 5) (x := (-1)) dX10_limit_61 rfl ?_
                refine x_iconst (v := (-1)) dX10_limit_63 (by decide) ?_
                refine x_icmp_eq (tgt := 146) dX10_limit_64 (by decide) (fun _ => ?_) (fun c => absurd (by decide) c)
                show x_E _ _ _ _ 146 _ _ _
                rw [hi, show z_lis C [p] v = z_lm v (z_l1 C p) from rfl, e1] at kx
                refine x_drop [0, 1, 2, 3] rfl ?_
                first | exact kx _ hF2 | exact kx _ hF1
        · skip
          have e1 : z_lm v (z_l1 C p) = v := by rw [show z_l1 C p = -1 from if_neg (fun z => q12 z.2)]; exact z_lm_n v
          refine x_callV (a := m) (av := [x_i (nI (z_cp C 1501 (p + 1))), x_l 6164997490]) (rest := []) (r := (some (x_i 0))) (h1 := h2) dX10_limit_107 sX10_limit_168 (by first | exact mPk_0 hK1.1 | exact mPk_0 hK2.1) rfl rfl (Nat.le_of_ble_eq_true rfl) hz2 (k_has_f G hK2 (a := z_cp C 1501 (p + 1)) (by omega) z_K_over q12) ?_
          show x_E _ _ _ _ 110 _ [x_i 0] _
          refine x_if_eq (tgt := 133) dX10_limit_110 (by decide) (fun _ => ?_) (fun c => absurd (by decide) c)
          refine x_lload_n (i := 2) (x := v) dX10_limit_133 rfl rfl ?_
          refine x_lstore_n (i := 2) (lv' := [(0, x_r (some m)), (1, x_i c), (2, x_l v), (4, x_i (nI i)), (5, x_i (nI p)), (6, x_i (C (z_cp C 1501 (p + 1) + 1)))]) dX10_limit_134 rfl (by decide) rfl ?_
          refine x_aload_n (i := 0) (o := some m) dX10_limit_135 rfl rfl ?_
          refine x_iload (i := 5) (x := nI p) dX10_limit_136 rfl ?_
          rcases hcc with ⟨h5, hq2, hi⟩ | ⟨h5, h6, hi⟩
          · skip
            refine x_callV (a := m) (av := [x_i (nI p)]) (rest := []) (r := (some (x_i (nI (b + 1))))) (h1 := h2) dX10_limit_138 sX10_limit_204 (by first | exact mPk_0 hK1.1 | exact mPk_0 hK2.1) rfl rfl (Nat.le_of_ble_eq_true rfl) hz2 (by have k := c_nextItem G hK2 hqi (Or.inl h5); rw [if_pos h5] at k; exact k) ?_
            show x_E _ _ _ _ 141 _ [x_i (nI (b + 1))] _
            refine x_istore (i := 5) (lv' := [(0, x_r (some m)), (1, x_i c), (2, x_l v), (4, x_i (nI i)), (5, x_i (nI (b + 1))), (6, x_i (C (z_cp C 1501 (p + 1) + 1)))]) dX10_limit_141 (by decide) rfl ?_
            refine x_goto (tgt := 61) dX10_limit_143 (by decide) ?_
            show x_E _ _ _ _ 61 _ _ _
            rw [hi, show z_lis C (p :: q_its C 1501 g (b + 1)) v = z_lis C (q_its C 1501 g (b + 1)) (z_lm v (z_l1 C p)) from rfl, e1] at kx
            refine x_drop [0, 1, 2, 3, 4] rfl ?_
            exact ih g (by omega) (b + 1) _ _ (by omega) hq2 hF2 kx
          · skip
            refine x_callV (a := m) (av := [x_i (nI p)]) (rest := []) (r := (some (x_i ((-1))))) (h1 := h2) dX10_limit_138 sX10_limit_204 (by first | exact mPk_0 hK1.1 | exact mPk_0 hK2.1) rfl rfl (Nat.le_of_ble_eq_true rfl) hz2 (by have k := c_nextItem G hK2 hqi (Or.inr h6); rw [if_neg h5] at k; exact k) ?_
            show x_E _ _ _ _ 141 _ [x_i ((-1))] _
            refine x_istore (i := 5) (lv' := [(0, x_r (some m)), (1, x_i c), (2, x_l v), (4, x_i (nI i)), (5, x_i ((-1))), (6, x_i (C (z_cp C 1501 (p + 1) + 1)))]) dX10_limit_141 (by decide) rfl ?_
            refine x_goto (tgt := 61) dX10_limit_143 (by decide) ?_
            refine x_iload (i := 5) (x := (-1)) dX10_limit_61 rfl ?_
            refine x_iconst (v := (-1)) dX10_limit_63 (by decide) ?_
            refine x_icmp_eq (tgt := 146) dX10_limit_64 (by decide) (fun _ => ?_) (fun c => absurd (by decide) c)
            show x_E _ _ _ _ 146 _ _ _
            rw [hi, show z_lis C [p] v = z_lm v (z_l1 C p) from rfl, e1] at kx
            refine x_drop [0, 1, 2, 3] rfl ?_
            first | exact kx _ hF2 | exact kx _ hF1
      · skip
        have e1 : z_lm v (z_l1 C p) = v := by rw [show z_l1 C p = -1 from if_neg (fun z => q11 z.1)]; exact z_lm_n v
        refine x_callV (a := m) (av := [x_i (nI p), x_l 24343917]) (rest := []) (r := (some (x_i 0))) (h1 := h1) dX10_limit_73 sX10_limit_168 (by first | exact mPk_0 hK1.1 | exact mPk_0 hK2.1) rfl rfl (Nat.le_of_ble_eq_true rfl) hz1 (k_has_f G hK1 (a := p) (by omega) z_K_sum q11) ?_
        show x_E _ _ _ _ 76 _ [x_i 0] _
        refine x_if_eq (tgt := 135) dX10_limit_76 (by decide) (fun _ => ?_) (fun c => absurd (by decide) c)
        refine x_aload_n (i := 0) (o := some m) dX10_limit_135 rfl rfl ?_
        refine x_iload (i := 5) (x := nI p) dX10_limit_136 rfl ?_
        rcases hcc with ⟨h5, hq2, hi⟩ | ⟨h5, h6, hi⟩
        · skip
          refine x_callV (a := m) (av := [x_i (nI p)]) (rest := []) (r := (some (x_i (nI (b + 1))))) (h1 := h1) dX10_limit_138 sX10_limit_204 (by first | exact mPk_0 hK1.1 | exact mPk_0 hK2.1) rfl rfl (Nat.le_of_ble_eq_true rfl) hz1 (by have k := c_nextItem G hK1 hqi (Or.inl h5); rw [if_pos h5] at k; exact k) ?_
          show x_E _ _ _ _ 141 _ [x_i (nI (b + 1))] _
          refine x_istore (i := 5) (lv' := [(0, x_r (some m)), (1, x_i c), (2, x_l v), (4, x_i (nI i)), (5, x_i (nI (b + 1)))]) dX10_limit_141 (by decide) rfl ?_
          refine x_goto (tgt := 61) dX10_limit_143 (by decide) ?_
          show x_E _ _ _ _ 61 _ _ _
          rw [hi, show z_lis C (p :: q_its C 1501 g (b + 1)) v = z_lis C (q_its C 1501 g (b + 1)) (z_lm v (z_l1 C p)) from rfl, e1] at kx
          exact ih g (by omega) (b + 1) _ _ (by omega) hq2 hF1 kx
        · skip
          refine x_callV (a := m) (av := [x_i (nI p)]) (rest := []) (r := (some (x_i ((-1))))) (h1 := h1) dX10_limit_138 sX10_limit_204 (by first | exact mPk_0 hK1.1 | exact mPk_0 hK2.1) rfl rfl (Nat.le_of_ble_eq_true rfl) hz1 (by have k := c_nextItem G hK1 hqi (Or.inr h6); rw [if_neg h5] at k; exact k) ?_
          show x_E _ _ _ _ 141 _ [x_i ((-1))] _
          refine x_istore (i := 5) (lv' := [(0, x_r (some m)), (1, x_i c), (2, x_l v), (4, x_i (nI i)), (5, x_i ((-1)))]) dX10_limit_141 (by decide) rfl ?_
          refine x_goto (tgt := 61) dX10_limit_143 (by decide) ?_
          refine x_iload (i := 5) (x := (-1)) dX10_limit_61 rfl ?_
          refine x_iconst (v := (-1)) dX10_limit_63 (by decide) ?_
          refine x_icmp_eq (tgt := 146) dX10_limit_64 (by decide) (fun _ => ?_) (fun c => absurd (by decide) c)
          show x_E _ _ _ _ 146 _ _ _
          rw [hi, show z_lis C [p] v = z_lm v (z_l1 C p) from rfl, e1] at kx
          refine x_drop [0, 1, 2, 3] rfl ?_
          first | exact kx _ hF2 | exact kx _ hF1
set_option maxHeartbeats 4000000 in
set_option maxRecDepth 100000 in
theorem l_limM (G : x_G) {h : x_H} {m : Nat} {l : List (Nat × Nat)} {C : Nat → Int32} {R : List (Nat × Nat)} {E : List Int32} (hB : m_Bk h m l C R E) {X : z_X} (hX : m_X h m X) (h0 : x_H) (hz : x_sz h0 ≤ x_sz h ∧ x_us h0 ≤ x_us h) {act : Int32} (ha : x_fi h 1019 m = act) (c : Int32) (Q : Option x_V → x_H → Prop) : ∀ (n i : Nat) (v : Int64) (h1 : x_H), i ≤ R.length → R.length - i = n → x_F h h1 (fun i a => a = m ∧ (i = 1026 ∨ i = 1027 ∨ i = 1028)) (fun _ => False) → (∀ h3, x_F h h3 (fun i a => a = m ∧ (i = 1026 ∨ i = 1027 ∨ i = 1028)) (fun _ => False) → Q (some (x_l (z_lrs C act c (R.drop i) v))) h3) → x_E G mX10_limit (x_D G mX10_limit h0 Q) h0 12 [(0, x_r (some m)), (1, x_i c), (2, x_l v), (4, x_i (nI i))] [] h1 := by
  have h60 := hB.2.2.1
  intro n
  induction n with
  | zero =>
    intro i v h1 hi hn hF1 hQ
    have hB1 : m_Bk h1 m l C R E := hB.F hF1 ⟨by omega, by omega, by omega⟩ (fun _ z => z.elim)
    have hz1 : x_sz h0 ≤ x_sz h1 ∧ x_us h0 ≤ x_us h1 := ⟨Nat.le_trans hz.1 hF1.le.1, Nat.le_trans hz.2 hF1.le.2⟩
    rw [List.drop_of_length_le (by omega)] at hQ
    refine x_iload (i := 4) (x := nI i) dX10_limit_12 rfl ?_
    refine x_aload_n (i := 0) (o := some m) dX10_limit_14 rfl rfl ?_
    refine x_getIv (v := nI R.length) dX10_limit_15 fX10_limit_162 (i := 1011) rfl rfl (mPk_0 hB1.1.1) (hB1.2.1.1) ?_
    refine x_icmp_ge (tgt := 152) dX10_limit_18 (by decide) (fun c18 => ?_) (fun c18 => ?_)
    · skip
      refine x_lload_n (i := 2) (x := v) dX10_limit_152 rfl rfl ?_
      refine x_lreturn dX10_limit_153 rfl hz1 ?_
      exact hQ _ hF1
    · skip
      exact absurd (nI_le (by omega) (by omega)) c18
  | succ n ih =>
    intro i v h1 hi hn hF1 hQ
    have hB1 : m_Bk h1 m l C R E := hB.F hF1 ⟨by omega, by omega, by omega⟩ (fun _ z => z.elim)
    have ha1 : x_fi h1 1019 m = act := (hF1.fi (by omega)).trans ha
    have hz1 : x_sz h0 ≤ x_sz h1 ∧ x_us h0 ≤ x_us h1 := ⟨Nat.le_trans hz.1 hF1.le.1, Nat.le_trans hz.2 hF1.le.2⟩
    refine x_iload (i := 4) (x := nI i) dX10_limit_12 rfl ?_
    refine x_aload_n (i := 0) (o := some m) dX10_limit_14 rfl rfl ?_
    refine x_getIv (v := nI R.length) dX10_limit_15 fX10_limit_162 (i := 1011) rfl rfl (mPk_0 hB1.1.1) (hB1.2.1.1) ?_
    refine x_icmp_ge (tgt := 152) dX10_limit_18 (by decide) (fun c18 => ?_) (fun c18 => ?_)
    · skip
      exact absurd ((nI_leI (by omega) (by omega)).mp c18) (by omega)
    · skip
      obtain ⟨q, hr⟩ : ∃ q, R[i]? = some q := ⟨_, List.getElem?_eq_getElem (by omega)⟩
      obtain ⟨h7, h8, hr6, hq1, hq2, hc, en, hqs⟩ := hB1.at hr
      have hd : R.drop i = q :: R.drop (i + 1) := by
        rw [List.drop_eq_getElem_cons (by omega), (List.getElem?_eq_some_iff.mp hr).2]
      refine x_aload_n (i := 0) (o := some m) dX10_limit_21 rfl rfl ?_
      refine x_getIv (v := act) dX10_limit_22 fX10_limit_55 (i := 1019) rfl rfl (mPk_0 hB1.1.1) (ha1) ?_
      refine x_iconst (v := (-1)) dX10_limit_25 (by decide) ?_
      refine x_icmp_eq (tgt := 152) dX10_limit_26 (by decide) (fun c26 => ?_) (fun c26 => ?_)
      · skip
        have e26 : z_lrs C act c (R.drop i) v = v := by
          rw [c26]
          exact z_lrs_none fun s hs => by
            obtain ⟨k, hk⟩ := List.mem_iff_getElem?.mp (List.mem_of_mem_drop hs)
            exact (hB1.2.2.2.2 k s hk).1
        refine x_lload_n (i := 2) (x := v) dX10_limit_152 rfl rfl ?_
        refine x_lreturn dX10_limit_153 rfl hz1 ?_
        rw [e26] at hQ
        exact hQ _ hF1
      · skip
        refine x_aload_n (i := 0) (o := some m) dX10_limit_29 rfl rfl ?_
        refine x_getRv (v := some (m + 8)) dX10_limit_30 fX10_limit_32 (i := 1010) rfl rfl (mPk_0 hB1.1.1) (mPr_1010 hB1.1.1) ?_
        refine x_iload (i := 4) (x := nI i) dX10_limit_33 rfl ?_
        refine x_ialoadN (n := i) (v := nI q.2) dX10_limit_35 (mPk_8 hB1.1.1) (rfl) (by rw [mPl_8 hB1.1.1]; omega) (by rw [mPl_8 hB1.1.1]; omega) (h8) ?_
        refine x_aload_n (i := 0) (o := some m) dX10_limit_36 rfl rfl ?_
        refine x_getIv (v := act) dX10_limit_37 fX10_limit_55 (i := 1019) rfl rfl (mPk_0 hB1.1.1) (ha1) ?_
        refine x_icmp_ne (tgt := 146) dX10_limit_40 (by decide) (fun c40 => ?_) (fun c40 => ?_)
        · skip
          rw [hd, show z_lrs C act c (q :: R.drop (i + 1)) v = z_lrs C act c (R.drop (i + 1)) (if nI q.2 = act ∧ C (q.1 + 1) = c then z_lis C (z_its C q) v else v) from rfl, if_neg (fun z => c40 z.1)] at hQ
          refine x_iinc (i := 4) (x := nI i) (v := nI (i + 1)) (lv' := [(0, x_r (some m)), (1, x_i c), (2, x_l v), (4, x_i (nI (i + 1)))]) dX10_limit_146 rfl (nI_1 i) (by decide) rfl ?_
          refine x_goto (tgt := 12) dX10_limit_149 (by decide) ?_
          show x_E _ _ _ _ 12 _ _ _
          exact ih (i + 1) _ _ (by omega) (by omega) hF1 hQ
        · skip
          refine x_aload_n (i := 0) (o := some m) dX10_limit_43 rfl rfl ?_
          refine x_iload (i := 4) (x := nI i) dX10_limit_44 rfl ?_
          refine x_callV (a := m) (av := [x_i (nI i)]) (rest := []) (r := (some (x_i (C (q.1 + 1))))) (h1 := h1) dX10_limit_46 sX10_limit_198 (mPk_0 hB1.1.1) rfl rfl (Nat.le_of_ble_eq_true rfl) hz1 (c_classOf G hB1 hr) ?_
          show x_E _ _ _ _ 49 _ [x_i (C (q.1 + 1))] _
          refine x_iload_n (i := 1) (x := c) dX10_limit_49 rfl rfl ?_
          refine x_icmp_ne (tgt := 146) dX10_limit_50 (by decide) (fun c50 => ?_) (fun c50 => ?_)
          · skip
            rw [hd, show z_lrs C act c (q :: R.drop (i + 1)) v = z_lrs C act c (R.drop (i + 1)) (if nI q.2 = act ∧ C (q.1 + 1) = c then z_lis C (z_its C q) v else v) from rfl, if_neg (fun z => c50 z.2)] at hQ
            refine x_iinc (i := 4) (x := nI i) (v := nI (i + 1)) (lv' := [(0, x_r (some m)), (1, x_i c), (2, x_l v), (4, x_i (nI (i + 1)))]) dX10_limit_146 rfl (nI_1 i) (by decide) rfl ?_
            refine x_goto (tgt := 12) dX10_limit_149 (by decide) ?_
            show x_E _ _ _ _ 12 _ _ _
            exact ih (i + 1) _ _ (by omega) (by omega) hF1 hQ
          · skip
            rw [hd, show z_lrs C act c (q :: R.drop (i + 1)) v = z_lrs C act c (R.drop (i + 1)) (if nI q.2 = act ∧ C (q.1 + 1) = c then z_lis C (z_its C q) v else v) from rfl, if_pos ⟨c40, c50⟩] at hQ
            refine x_aload_n (i := 0) (o := some m) dX10_limit_53 rfl rfl ?_
            refine x_iload (i := 4) (x := nI i) dX10_limit_54 rfl ?_
            refine x_callV (a := m) (av := [x_i (nI i)]) (rest := []) (r := (some (x_i (nI (q.1 + 3))))) (h1 := h1) dX10_limit_56 sX10_limit_201 (mPk_0 hB1.1.1) rfl rfl (Nat.le_of_ble_eq_true rfl) hz1 (c_firstItem G hB1 hr) ?_
            show x_E _ _ _ _ 59 _ [x_i (nI (q.1 + 3))] _
            refine x_istore (i := 5) (lv' := [(0, x_r (some m)), (1, x_i c), (2, x_l v), (4, x_i (nI i)), (5, x_i (nI (q.1 + 3)))]) dX10_limit_59 (by decide) rfl ?_
            show x_E _ _ _ _ 61 _ _ _
            refine l_limI G hB.1 hX h0 hz c i _ 1501 (q.1 + 3) v _ (by omega) hqs hF1 ?_
            intro h3 hF3
            have hz3 : x_sz h0 ≤ x_sz h3 ∧ x_us h0 ≤ x_us h3 := ⟨Nat.le_trans hz.1 hF3.le.1, Nat.le_trans hz.2 hF3.le.2⟩
            refine x_iinc (i := 4) (x := nI i) (v := nI (i + 1)) (lv' := [(0, x_r (some m)), (1, x_i c), (2, x_l (z_lis C (z_its C q) v)), (4, x_i (nI (i + 1)))]) dX10_limit_146 rfl (nI_1 i) (by decide) rfl ?_
            refine x_goto (tgt := 12) dX10_limit_149 (by decide) ?_
            show x_E _ _ _ _ 12 _ _ _
            exact ih (i + 1) _ _ (by omega) (by omega) hF3 hQ
set_option maxHeartbeats 4000000 in
set_option maxRecDepth 100000 in
theorem c_limitM (G : x_G) {h : x_H} {m : Nat} {l : List (Nat × Nat)} {C : Nat → Int32} {R : List (Nat × Nat)} {E : List Int32} (hB : m_Bk h m l C R E) {X : z_X} (hX : m_X h m X) {act : Int32} (ha : x_fi h 1019 m = act) (c : Int32) : x_Ex G mX10_limit h [x_r (some m), x_i c] (fun rr h' => rr = some (x_l (z_lrs C act c R (-1))) ∧ x_F h h' (fun i a => a = m ∧ (i = 1024 ∨ i = 1026 ∨ i = 1027 ∨ i = 1028)) (fun _ => False)) := by
  have hFh : x_F h (x_sI h 1024 m 0) (fun i a => a = m ∧ (i = 1024 ∨ i = 1026 ∨ i = 1027 ∨ i = 1028)) (fun _ => False) := x_F.rf.I ⟨rfl, Or.inl rfl⟩
  have hB1 : m_Bk (x_sI h 1024 m 0) m l C R E := hB.F hFh ⟨by omega, by omega, by omega⟩ (fun _ z => z.elim)
  have hX1 : m_X (x_sI h 1024 m 0) m X := hX.F hFh (by omega) (fun _ z => z.elim)
  have ha1 : x_fi (x_sI h 1024 m 0) 1019 m = act := by rw [x_fi_sI, if_neg (by omega)]; exact ha
  refine x_enter mwX10_limit (Nat.le_of_ble_eq_true rfl) ?_
  show x_E _ _ _ _ _ [(0, x_r (some m)), (1, x_i c)] _ _
  refine x_aload_n (i := 0) (o := some m) dX10_limit_0 rfl rfl ?_
  refine x_iconst (v := 0) dX10_limit_1 (by decide) ?_
  refine x_putI (i := 1024) dX10_limit_2 pX10_limit_68 rfl rfl (mPk_0 hB.1.1) (rfl) (by rfl) ?_
  refine x_ldc2 (v := (-1)) dX10_limit_5 kX10_limit_253 ?_
  refine x_lstore_n (i := 2) (lv' := [(0, x_r (some m)), (1, x_i c), (2, x_l ((-1)))]) dX10_limit_8 rfl (by decide) rfl ?_
  refine x_iconst (v := 0) dX10_limit_9 (by decide) ?_
  refine x_istore (i := 4) (lv' := [(0, x_r (some m)), (1, x_i c), (2, x_l ((-1))), (4, x_i 0)]) dX10_limit_10 (by decide) rfl ?_
  show x_E _ _ _ _ 12 _ _ _
  refine l_limM G hB1 hX1 h ⟨Nat.le_refl _, Nat.le_refl _⟩ ha1 c _ _ 0 (-1) _ (Nat.zero_le _) rfl x_F.rf (fun h2 z => ⟨by rw [List.drop_zero], (hFh.tr z (fun _ _ y => y) (fun _ _ y => ⟨y.1, Or.inr y.2⟩) (fun _ y => y) (fun _ y => y))⟩)
