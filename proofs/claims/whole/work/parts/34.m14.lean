/-! THE REFERENCE: items, hasTests, isPassed -/
set_option maxHeartbeats 4000000 in
set_option maxRecDepth 100000 in
theorem l_items (G : x_G) {h : x_H} {m : Nat} {l : List (Nat × Nat)} {C : Nat → Int32} (hK : m_K h m l C) {F e : Nat} (r : Int32) (Q : Option x_V → x_H → Prop) : ∀ (f p n : Nat), p < 2000 → q_items C F f p = (true, e) → Q (some (x_i (nI (n + (q_its C F f p).length)))) h → x_E G mX10_items (x_D G mX10_items h Q) h 8 [(0, x_r (some m)), (1, x_i r), (2, x_i (nI n)), (3, x_i (nI p))] [] h := by
  have hll := hK.ll
  intro f
  induction f using Nat.strongRecOn with
  | _ f ih =>
    intro p n hp hq hQ
    obtain ⟨g, b, rfl, hqi, hcc⟩ := q_its_c hq
    have hbn : b < 1600 := by
      have := q_item_lt hK.N hqi
      have y := (q_item_st (F := F) hK.N (a := p) (by omega)).2.1
      rw [hqi] at y
      dsimp only at y
      omega
    refine x_iload_n (i := 3) (x := nI p) dX10_items_8 rfl rfl ?_
    refine x_iconst (v := (-1)) dX10_items_9 (by decide) ?_
    refine x_icmp_eq (tgt := 25) dX10_items_10 (by decide) (fun c10 => ?_) (fun c10 => ?_)
    · skip
      exact absurd c10 (z_neg1 (nI_pos' (by omega)))
    · skip
      refine x_iinc (i := 2) (x := nI n) (v := nI (n + 1)) (lv' := [(0, x_r (some m)), (1, x_i r), (2, x_i (nI (n + 1))), (3, x_i (nI p))]) dX10_items_13 rfl (nI_1 n) (by decide) rfl ?_
      refine x_aload_n (i := 0) (o := some m) dX10_items_16 rfl rfl ?_
      refine x_iload_n (i := 3) (x := nI p) dX10_items_17 rfl rfl ?_
      rcases hcc with ⟨h5, hq2, hi⟩ | ⟨h5, h6, hi⟩
      · skip
        refine x_callV (a := m) (av := [x_i (nI p)]) (rest := []) (r := (some (x_i (nI (b + 1))))) (h1 := h) dX10_items_18 sX10_items_204 (mPk_0 hK.1) rfl rfl (Nat.le_of_ble_eq_true rfl) ⟨Nat.le_refl _, Nat.le_refl _⟩ (by have k := c_nextItem G hK hqi (Or.inl h5); rw [if_pos h5] at k; exact k) ?_
        show x_E _ _ _ _ 21 _ [x_i (nI (b + 1))] _
        refine x_istore_n (i := 3) (lv' := [(0, x_r (some m)), (1, x_i r), (2, x_i (nI (n + 1))), (3, x_i (nI (b + 1)))]) dX10_items_21 rfl (by decide) rfl ?_
        refine x_goto (tgt := 8) dX10_items_22 (by decide) ?_
        rw [hi, List.length_cons, show n + ((q_its C F g (b + 1)).length + 1) = n + 1 + (q_its C F g (b + 1)).length by omega] at hQ
        exact ih g (by omega) (b + 1) (n + 1) (by omega) hq2 hQ
      · skip
        refine x_callV (a := m) (av := [x_i (nI p)]) (rest := []) (r := (some (x_i ((-1))))) (h1 := h) dX10_items_18 sX10_items_204 (mPk_0 hK.1) rfl rfl (Nat.le_of_ble_eq_true rfl) ⟨Nat.le_refl _, Nat.le_refl _⟩ (by have k := c_nextItem G hK hqi (Or.inr h6); rw [if_neg h5] at k; exact k) ?_
        show x_E _ _ _ _ 21 _ [x_i ((-1))] _
        refine x_istore_n (i := 3) (lv' := [(0, x_r (some m)), (1, x_i r), (2, x_i (nI (n + 1))), (3, x_i ((-1)))]) dX10_items_21 rfl (by decide) rfl ?_
        refine x_goto (tgt := 8) dX10_items_22 (by decide) ?_
        refine x_iload_n (i := 3) (x := (-1)) dX10_items_8 rfl rfl ?_
        refine x_iconst (v := (-1)) dX10_items_9 (by decide) ?_
        refine x_icmp_eq (tgt := 25) dX10_items_10 (by decide) (fun c10 => ?_) (fun c10 => ?_)
        · skip
          refine x_iload_n (i := 2) (x := nI (n + 1)) dX10_items_25 rfl rfl ?_
          refine x_ireturn dX10_items_26 rfl (rfl) ⟨Nat.le_refl _, Nat.le_refl _⟩ ?_
          rw [hi] at hQ
          exact hQ
        · skip
          exact absurd rfl c10
set_option maxHeartbeats 4000000 in
set_option maxRecDepth 100000 in
theorem c_items (G : x_G) {h : x_H} {m : Nat} {l : List (Nat × Nat)} {C : Nat → Int32} {R : List (Nat × Nat)} {E : List Int32} (hB : m_Bk h m l C R E) {r : Nat} {q : Nat × Nat} (hr : R[r]? = some q) : x_Call G mX10_items h [x_r (some m), x_i (nI r)] (some (x_i (nI (z_its C q).length))) h := by
  obtain ⟨h7, h8, hr6, hq1, hq2, hc, e, hqs⟩ := hB.at hr
  refine x_Ex.call (x_enter mwX10_items (Nat.le_of_ble_eq_true rfl) ?_)
  show x_E _ _ _ _ _ [(0, x_r (some m)), (1, x_i (nI r))] _ _
  refine x_iconst (v := 0) dX10_items_0 (by decide) ?_
  refine x_istore_n (i := 2) (lv' := [(0, x_r (some m)), (1, x_i (nI r)), (2, x_i 0)]) dX10_items_1 rfl (by decide) rfl ?_
  refine x_aload_n (i := 0) (o := some m) dX10_items_2 rfl rfl ?_
  refine x_iload_n (i := 1) (x := nI r) dX10_items_3 rfl rfl ?_
  refine x_callV (a := m) (av := [x_i (nI r)]) (rest := []) (r := (some (x_i (nI (q.1 + 3))))) (h1 := h) dX10_items_4 sX10_items_201 (mPk_0 hB.1.1) rfl rfl (Nat.le_of_ble_eq_true rfl) ⟨Nat.le_refl _, Nat.le_refl _⟩ (c_firstItem G hB hr) ?_
  show x_E _ _ _ _ 7 _ [x_i (nI (q.1 + 3))] _
  refine x_istore_n (i := 3) (lv' := [(0, x_r (some m)), (1, x_i (nI r)), (2, x_i 0), (3, x_i (nI (q.1 + 3)))]) dX10_items_7 rfl (by decide) rfl ?_
  exact l_items G hB.1 (nI r) _ 1501 (q.1 + 3) 0 (by omega) hqs ⟨by rw [Nat.zero_add]; rfl, rfl⟩
theorem z_tn {C : Nat → Int32} {hi : Int32} {n a : Nat} (hh : hi.toInt = n) (h : q_n C 0 hi a) : C a = nI (C a).toNatClampNeg ∧ (C a).toNatClampNeg ≤ n := by
  obtain ⟨j, hj, e⟩ := nI_of2 (x := C a) (M := hi) (n := n) hh (Int32.not_lt.mpr h.1) h.2.2
  have : n < 2 ^ 31 := by
    have := Int32.toInt_lt hi
    omega
  rw [e, nI_clamp (by omega)]
  exact ⟨rfl, by omega⟩
set_option maxHeartbeats 4000000 in
set_option maxRecDepth 100000 in
theorem l_hasTests (G : x_G) {h : x_H} {m : Nat} {l : List (Nat × Nat)} {C : Nat → Int32} (hK : m_K h m l C) {X : z_X} (hX : m_X h m X) {F e : Nat} (r : Int32) (ak : Bool) (Q : Option x_V → x_H → Prop) : ∀ (f p : Nat) (u v : Bool), p < 2000 → q_items C F f p = (true, e) → Q (some (x_i (if ((u || z_any C (q_its C F f p)) && ((v && z_akn X C (q_its C F f p)) || !ak)) = true then 1 else 0))) h → x_E G mX10_hasTests (x_D G mX10_hasTests h Q) h 12 [(0, x_r (some m)), (1, x_i r), (2, x_i (if ak = true then 1 else 0)), (3, x_i (if u = true then 1 else 0)), (4, x_i (if v = true then 1 else 0)), (5, x_i (nI p))] [] h := by
  have hll := hK.ll
  intro f
  induction f using Nat.strongRecOn with
  | _ f ih =>
    intro p u v hp hq hQ
    obtain ⟨g, b, rfl, hqi, hcc⟩ := q_its_c hq
    have hbn : b < 1600 := by
      have := q_item_lt hK.N hqi
      have y := (q_item_st (F := F) hK.N (a := p) (by omega)).2.1
      rw [hqi] at y
      dsimp only at y
      omega
    revert hQ
    rcases u with _ | _ <;> rcases v with _ | _ <;> intro hQ
    · skip
      refine x_iload (i := 5) (x := nI p) dX10_hasTests_12 rfl ?_
      refine x_iconst (v := (-1)) dX10_hasTests_14 (by decide) ?_
      refine x_icmp_eq (tgt := 72) dX10_hasTests_15 (by decide) (fun c15 => ?_) (fun c15 => ?_)
      · skip
        exact absurd c15 (z_neg1 (nI_pos' (by omega)))
      · skip
        refine x_aload_n (i := 0) (o := some m) dX10_hasTests_18 rfl rfl ?_
        refine x_iload (i := 5) (x := nI p) dX10_hasTests_19 rfl ?_
        refine x_ldc2 (v := 6247773044) dX10_hasTests_21 kX10_hasTests_124 ?_
        by_cases q7 : C p = -7
        · skip
          refine x_callV (a := m) (av := [x_i (nI p), x_l 6247773044]) (rest := []) (r := (some (x_i 1))) (h1 := h) dX10_hasTests_24 sX10_hasTests_168 (mPk_0 hK.1) rfl rfl (Nat.le_of_ble_eq_true rfl) ⟨Nat.le_refl _, Nat.le_refl _⟩ (k_has_t G hK (a := p) (by omega) z_K_test q7) ?_
          show x_E _ _ _ _ 27 _ [x_i 1] _
          refine x_if_eq (tgt := 61) dX10_hasTests_27 (by decide) (fun c => absurd c (by decide)) (fun _ => ?_)
          refine x_iconst (v := 1) dX10_hasTests_30 (by decide) ?_
          refine x_istore_n (i := 3) (lv' := [(0, x_r (some m)), (1, x_i r), (2, x_i (if ak = true then 1 else 0)), (3, x_i 1), (4, x_i 0), (5, x_i (nI p))]) dX10_hasTests_31 rfl (by decide) rfl ?_
          refine x_iload (i := 4) (x := 0) dX10_hasTests_32 rfl ?_
          refine x_if_eq (tgt := 58) dX10_hasTests_34 (by decide) (fun _ => ?_) (fun c => absurd (by decide) c)
          refine x_iconst (v := 0) dX10_hasTests_58 (by decide) ?_
          refine x_istore (i := 4) (lv' := [(0, x_r (some m)), (1, x_i r), (2, x_i (if ak = true then 1 else 0)), (3, x_i 1), (4, x_i 0), (5, x_i (nI p))]) dX10_hasTests_59 (by decide) rfl ?_
          refine x_aload_n (i := 0) (o := some m) dX10_hasTests_61 rfl rfl ?_
          refine x_iload (i := 5) (x := nI p) dX10_hasTests_62 rfl ?_
          rcases hcc with ⟨h5, hq2, hi⟩ | ⟨h5, h6, hi⟩
          · skip
            refine x_callV (a := m) (av := [x_i (nI p)]) (rest := []) (r := (some (x_i (nI (b + 1))))) (h1 := h) dX10_hasTests_64 sX10_hasTests_204 (mPk_0 hK.1) rfl rfl (Nat.le_of_ble_eq_true rfl) ⟨Nat.le_refl _, Nat.le_refl _⟩ (by have k := c_nextItem G hK hqi (Or.inl h5); rw [if_pos h5] at k; exact k) ?_
            show x_E _ _ _ _ 67 _ [x_i (nI (b + 1))] _
            refine x_istore (i := 5) (lv' := [(0, x_r (some m)), (1, x_i r), (2, x_i (if ak = true then 1 else 0)), (3, x_i 1), (4, x_i 0), (5, x_i (nI (b + 1)))]) dX10_hasTests_67 (by decide) rfl ?_
            refine x_goto (tgt := 12) dX10_hasTests_69 (by decide) ?_
            refine ih g (by omega) (b + 1) true false (by omega) hq2 ?_
            rw [hi] at hQ
            simpa [z_any, z_akn, q7] using hQ
          · skip
            refine x_callV (a := m) (av := [x_i (nI p)]) (rest := []) (r := (some (x_i ((-1))))) (h1 := h) dX10_hasTests_64 sX10_hasTests_204 (mPk_0 hK.1) rfl rfl (Nat.le_of_ble_eq_true rfl) ⟨Nat.le_refl _, Nat.le_refl _⟩ (by have k := c_nextItem G hK hqi (Or.inr h6); rw [if_neg h5] at k; exact k) ?_
            show x_E _ _ _ _ 67 _ [x_i ((-1))] _
            refine x_istore (i := 5) (lv' := [(0, x_r (some m)), (1, x_i r), (2, x_i (if ak = true then 1 else 0)), (3, x_i 1), (4, x_i 0), (5, x_i ((-1)))]) dX10_hasTests_67 (by decide) rfl ?_
            refine x_goto (tgt := 12) dX10_hasTests_69 (by decide) ?_
            refine x_iload (i := 5) (x := (-1)) dX10_hasTests_12 rfl ?_
            refine x_iconst (v := (-1)) dX10_hasTests_14 (by decide) ?_
            refine x_icmp_eq (tgt := 72) dX10_hasTests_15 (by decide) (fun c15 => ?_) (fun c15 => ?_)
            · skip
              refine x_iload_n (i := 3) (x := 1) dX10_hasTests_72 rfl rfl ?_
              refine x_if_eq (tgt := 89) dX10_hasTests_73 (by decide) (fun c => absurd c (by decide)) (fun _ => ?_)
              refine x_iload (i := 4) (x := 0) dX10_hasTests_76 rfl ?_
              refine x_if_ne (tgt := 85) dX10_hasTests_78 (by decide) (fun c => absurd c (by decide)) (fun _ => ?_)
              refine x_iload_n (i := 2) (x := if ak = true then 1 else 0) dX10_hasTests_81 rfl rfl ?_
              refine x_if_ne (tgt := 89) dX10_hasTests_82 (by decide) (fun c82 => ?_) (fun c82 => ?_)
              · skip
                have e82 : ak = true := by cases ak with | true => rfl | false => exact absurd rfl c82
                refine x_iconst (v := 0) dX10_hasTests_89 (by decide) ?_
                refine x_ireturn dX10_hasTests_90 rfl (rfl) ⟨Nat.le_refl _, Nat.le_refl _⟩ ?_
                rw [hi] at hQ
                simpa [z_any, z_akn, q7, e82] using hQ
              · skip
                have e82 : ak = false := by cases ak with | true => exact absurd c82 (by decide) | false => rfl
                refine x_iconst (v := 1) dX10_hasTests_85 (by decide) ?_
                refine x_goto (tgt := 90) dX10_hasTests_86 (by decide) ?_
                refine x_ireturn dX10_hasTests_90 rfl (rfl) ⟨Nat.le_refl _, Nat.le_refl _⟩ ?_
                rw [hi] at hQ
                simpa [z_any, z_akn, q7, e82] using hQ
            · skip
              exact absurd rfl c15
        · skip
          refine x_callV (a := m) (av := [x_i (nI p), x_l 6247773044]) (rest := []) (r := (some (x_i 0))) (h1 := h) dX10_hasTests_24 sX10_hasTests_168 (mPk_0 hK.1) rfl rfl (Nat.le_of_ble_eq_true rfl) ⟨Nat.le_refl _, Nat.le_refl _⟩ (k_has_f G hK (a := p) (by omega) z_K_test q7) ?_
          show x_E _ _ _ _ 27 _ [x_i 0] _
          refine x_if_eq (tgt := 61) dX10_hasTests_27 (by decide) (fun _ => ?_) (fun c => absurd (by decide) c)
          refine x_aload_n (i := 0) (o := some m) dX10_hasTests_61 rfl rfl ?_
          refine x_iload (i := 5) (x := nI p) dX10_hasTests_62 rfl ?_
          rcases hcc with ⟨h5, hq2, hi⟩ | ⟨h5, h6, hi⟩
          · skip
            refine x_callV (a := m) (av := [x_i (nI p)]) (rest := []) (r := (some (x_i (nI (b + 1))))) (h1 := h) dX10_hasTests_64 sX10_hasTests_204 (mPk_0 hK.1) rfl rfl (Nat.le_of_ble_eq_true rfl) ⟨Nat.le_refl _, Nat.le_refl _⟩ (by have k := c_nextItem G hK hqi (Or.inl h5); rw [if_pos h5] at k; exact k) ?_
            show x_E _ _ _ _ 67 _ [x_i (nI (b + 1))] _
            refine x_istore (i := 5) (lv' := [(0, x_r (some m)), (1, x_i r), (2, x_i (if ak = true then 1 else 0)), (3, x_i 0), (4, x_i 0), (5, x_i (nI (b + 1)))]) dX10_hasTests_67 (by decide) rfl ?_
            refine x_goto (tgt := 12) dX10_hasTests_69 (by decide) ?_
            refine ih g (by omega) (b + 1) false false (by omega) hq2 ?_
            rw [hi] at hQ
            simpa [z_any, z_akn, q7] using hQ
          · skip
            refine x_callV (a := m) (av := [x_i (nI p)]) (rest := []) (r := (some (x_i ((-1))))) (h1 := h) dX10_hasTests_64 sX10_hasTests_204 (mPk_0 hK.1) rfl rfl (Nat.le_of_ble_eq_true rfl) ⟨Nat.le_refl _, Nat.le_refl _⟩ (by have k := c_nextItem G hK hqi (Or.inr h6); rw [if_neg h5] at k; exact k) ?_
            show x_E _ _ _ _ 67 _ [x_i ((-1))] _
            refine x_istore (i := 5) (lv' := [(0, x_r (some m)), (1, x_i r), (2, x_i (if ak = true then 1 else 0)), (3, x_i 0), (4, x_i 0), (5, x_i ((-1)))]) dX10_hasTests_67 (by decide) rfl ?_
            refine x_goto (tgt := 12) dX10_hasTests_69 (by decide) ?_
            refine x_iload (i := 5) (x := (-1)) dX10_hasTests_12 rfl ?_
            refine x_iconst (v := (-1)) dX10_hasTests_14 (by decide) ?_
            refine x_icmp_eq (tgt := 72) dX10_hasTests_15 (by decide) (fun c15 => ?_) (fun c15 => ?_)
            · skip
              refine x_iload_n (i := 3) (x := 0) dX10_hasTests_72 rfl rfl ?_
              refine x_if_eq (tgt := 89) dX10_hasTests_73 (by decide) (fun _ => ?_) (fun c => absurd (by decide) c)
              refine x_iconst (v := 0) dX10_hasTests_89 (by decide) ?_
              refine x_ireturn dX10_hasTests_90 rfl (rfl) ⟨Nat.le_refl _, Nat.le_refl _⟩ ?_
              rw [hi] at hQ
              simpa [z_any, z_akn, q7] using hQ
            · skip
              exact absurd rfl c15
    · skip
      refine x_iload (i := 5) (x := nI p) dX10_hasTests_12 rfl ?_
      refine x_iconst (v := (-1)) dX10_hasTests_14 (by decide) ?_
      refine x_icmp_eq (tgt := 72) dX10_hasTests_15 (by decide) (fun c15 => ?_) (fun c15 => ?_)
      · skip
        exact absurd c15 (z_neg1 (nI_pos' (by omega)))
      · skip
        refine x_aload_n (i := 0) (o := some m) dX10_hasTests_18 rfl rfl ?_
        refine x_iload (i := 5) (x := nI p) dX10_hasTests_19 rfl ?_
        refine x_ldc2 (v := 6247773044) dX10_hasTests_21 kX10_hasTests_124 ?_
        by_cases q7 : C p = -7
        · skip
          refine x_callV (a := m) (av := [x_i (nI p), x_l 6247773044]) (rest := []) (r := (some (x_i 1))) (h1 := h) dX10_hasTests_24 sX10_hasTests_168 (mPk_0 hK.1) rfl rfl (Nat.le_of_ble_eq_true rfl) ⟨Nat.le_refl _, Nat.le_refl _⟩ (k_has_t G hK (a := p) (by omega) z_K_test q7) ?_
          show x_E _ _ _ _ 27 _ [x_i 1] _
          refine x_if_eq (tgt := 61) dX10_hasTests_27 (by decide) (fun c => absurd c (by decide)) (fun _ => ?_)
          refine x_iconst (v := 1) dX10_hasTests_30 (by decide) ?_
          refine x_istore_n (i := 3) (lv' := [(0, x_r (some m)), (1, x_i r), (2, x_i (if ak = true then 1 else 0)), (3, x_i 1), (4, x_i 1), (5, x_i (nI p))]) dX10_hasTests_31 rfl (by decide) rfl ?_
          refine x_iload (i := 4) (x := 1) dX10_hasTests_32 rfl ?_
          refine x_if_eq (tgt := 58) dX10_hasTests_34 (by decide) (fun c => absurd c (by decide)) (fun _ => ?_)
          refine x_aload_n (i := 0) (o := some m) dX10_hasTests_37 rfl rfl ?_
          refine x_getRv (v := some (m + 13)) dX10_hasTests_38 fX10_hasTests_48 (i := 1017) rfl rfl (mPk_0 hK.1) (mPr_1017 hK.1) ?_
          refine x_aload_n (i := 0) (o := some m) dX10_hasTests_41 rfl rfl ?_
          refine x_iload (i := 5) (x := nI p) dX10_hasTests_42 rfl ?_
          refine x_iconst (v := 1) dX10_hasTests_44 (by decide) ?_
          have h17 : q_n C 0 7 (p + 1) := by
            rcases q_item_c hqi with z | z | z
            · exact z.2.1
            · exact absurd q7 z.1
            · exact absurd q7 z.1
          have ht := z_tn (n := 7) (by decide) h17
          refine x_iadd dX10_hasTests_45 ?_
          rw [show (nI p) + 1 = nI (p + 1) from nI_1 p]
          refine x_callV (a := m) (av := [x_i (nI (p + 1))]) (rest := [x_r (some (m + 13))]) (r := (some (x_i (C (p + 1))))) (h1 := h) dX10_hasTests_46 sX10_hasTests_172 (mPk_0 hK.1) rfl rfl (Nat.le_of_ble_eq_true rfl) ⟨Nat.le_refl _, Nat.le_refl _⟩ (k_num G hK h17.1) ?_
          show x_E _ _ _ _ 49 _ [x_i (C (p + 1)), x_r (some (m + 13))] _
          refine x_ialoadN (n := (C (p + 1)).toNatClampNeg) (v := X.2.2.2.1 (C (p + 1)).toNatClampNeg) dX10_hasTests_49 (mPk_13 hK.1) (ht.1) (by rw [mPl_13 hK.1]; omega) (by rw [mPl_13 hK.1]; omega) (hX.2.1 _ (by omega)) ?_
          refine x_iconst (v := (-1)) dX10_hasTests_50 (by decide) ?_
          refine x_icmp_eq (tgt := 58) dX10_hasTests_51 (by decide) (fun c51 => ?_) (fun c51 => ?_)
          · skip
            refine x_iconst (v := 0) dX10_hasTests_58 (by decide) ?_
            refine x_istore (i := 4) (lv' := [(0, x_r (some m)), (1, x_i r), (2, x_i (if ak = true then 1 else 0)), (3, x_i 1), (4, x_i 0), (5, x_i (nI p))]) dX10_hasTests_59 (by decide) rfl ?_
            refine x_aload_n (i := 0) (o := some m) dX10_hasTests_61 rfl rfl ?_
            refine x_iload (i := 5) (x := nI p) dX10_hasTests_62 rfl ?_
            rcases hcc with ⟨h5, hq2, hi⟩ | ⟨h5, h6, hi⟩
            · skip
              refine x_callV (a := m) (av := [x_i (nI p)]) (rest := []) (r := (some (x_i (nI (b + 1))))) (h1 := h) dX10_hasTests_64 sX10_hasTests_204 (mPk_0 hK.1) rfl rfl (Nat.le_of_ble_eq_true rfl) ⟨Nat.le_refl _, Nat.le_refl _⟩ (by have k := c_nextItem G hK hqi (Or.inl h5); rw [if_pos h5] at k; exact k) ?_
              show x_E _ _ _ _ 67 _ [x_i (nI (b + 1))] _
              refine x_istore (i := 5) (lv' := [(0, x_r (some m)), (1, x_i r), (2, x_i (if ak = true then 1 else 0)), (3, x_i 1), (4, x_i 0), (5, x_i (nI (b + 1)))]) dX10_hasTests_67 (by decide) rfl ?_
              refine x_goto (tgt := 12) dX10_hasTests_69 (by decide) ?_
              refine ih g (by omega) (b + 1) true false (by omega) hq2 ?_
              rw [hi] at hQ
              simpa [z_any, z_akn, q7, c51] using hQ
            · skip
              refine x_callV (a := m) (av := [x_i (nI p)]) (rest := []) (r := (some (x_i ((-1))))) (h1 := h) dX10_hasTests_64 sX10_hasTests_204 (mPk_0 hK.1) rfl rfl (Nat.le_of_ble_eq_true rfl) ⟨Nat.le_refl _, Nat.le_refl _⟩ (by have k := c_nextItem G hK hqi (Or.inr h6); rw [if_neg h5] at k; exact k) ?_
              show x_E _ _ _ _ 67 _ [x_i ((-1))] _
              refine x_istore (i := 5) (lv' := [(0, x_r (some m)), (1, x_i r), (2, x_i (if ak = true then 1 else 0)), (3, x_i 1), (4, x_i 0), (5, x_i ((-1)))]) dX10_hasTests_67 (by decide) rfl ?_
              refine x_goto (tgt := 12) dX10_hasTests_69 (by decide) ?_
              refine x_iload (i := 5) (x := (-1)) dX10_hasTests_12 rfl ?_
              refine x_iconst (v := (-1)) dX10_hasTests_14 (by decide) ?_
              refine x_icmp_eq (tgt := 72) dX10_hasTests_15 (by decide) (fun c15 => ?_) (fun c15 => ?_)
              · skip
                refine x_iload_n (i := 3) (x := 1) dX10_hasTests_72 rfl rfl ?_
                refine x_if_eq (tgt := 89) dX10_hasTests_73 (by decide) (fun c => absurd c (by decide)) (fun _ => ?_)
                refine x_iload (i := 4) (x := 0) dX10_hasTests_76 rfl ?_
                refine x_if_ne (tgt := 85) dX10_hasTests_78 (by decide) (fun c => absurd c (by decide)) (fun _ => ?_)
                refine x_iload_n (i := 2) (x := if ak = true then 1 else 0) dX10_hasTests_81 rfl rfl ?_
                refine x_if_ne (tgt := 89) dX10_hasTests_82 (by decide) (fun c82 => ?_) (fun c82 => ?_)
                · skip
                  have e82 : ak = true := by cases ak with | true => rfl | false => exact absurd rfl c82
                  refine x_iconst (v := 0) dX10_hasTests_89 (by decide) ?_
                  refine x_ireturn dX10_hasTests_90 rfl (rfl) ⟨Nat.le_refl _, Nat.le_refl _⟩ ?_
                  rw [hi] at hQ
                  simpa [z_any, z_akn, q7, c51, e82] using hQ
                · skip
                  have e82 : ak = false := by cases ak with | true => exact absurd c82 (by decide) | false => rfl
                  refine x_iconst (v := 1) dX10_hasTests_85 (by decide) ?_
                  refine x_goto (tgt := 90) dX10_hasTests_86 (by decide) ?_
                  refine x_ireturn dX10_hasTests_90 rfl (rfl) ⟨Nat.le_refl _, Nat.le_refl _⟩ ?_
                  rw [hi] at hQ
                  simpa [z_any, z_akn, q7, c51, e82] using hQ
              · skip
                exact absurd rfl c15
          · skip
            refine x_iconst (v := 1) dX10_hasTests_54 (by decide) ?_
            refine x_goto (tgt := 59) dX10_hasTests_55 (by decide) ?_
            refine x_istore (i := 4) (lv' := [(0, x_r (some m)), (1, x_i r), (2, x_i (if ak = true then 1 else 0)), (3, x_i 1), (4, x_i 1), (5, x_i (nI p))]) dX10_hasTests_59 (by decide) rfl ?_
            refine x_aload_n (i := 0) (o := some m) dX10_hasTests_61 rfl rfl ?_
            refine x_iload (i := 5) (x := nI p) dX10_hasTests_62 rfl ?_
            rcases hcc with ⟨h5, hq2, hi⟩ | ⟨h5, h6, hi⟩
            · skip
              refine x_callV (a := m) (av := [x_i (nI p)]) (rest := []) (r := (some (x_i (nI (b + 1))))) (h1 := h) dX10_hasTests_64 sX10_hasTests_204 (mPk_0 hK.1) rfl rfl (Nat.le_of_ble_eq_true rfl) ⟨Nat.le_refl _, Nat.le_refl _⟩ (by have k := c_nextItem G hK hqi (Or.inl h5); rw [if_pos h5] at k; exact k) ?_
              show x_E _ _ _ _ 67 _ [x_i (nI (b + 1))] _
              refine x_istore (i := 5) (lv' := [(0, x_r (some m)), (1, x_i r), (2, x_i (if ak = true then 1 else 0)), (3, x_i 1), (4, x_i 1), (5, x_i (nI (b + 1)))]) dX10_hasTests_67 (by decide) rfl ?_
              refine x_goto (tgt := 12) dX10_hasTests_69 (by decide) ?_
              refine ih g (by omega) (b + 1) true true (by omega) hq2 ?_
              rw [hi] at hQ
              simpa [z_any, z_akn, q7, c51] using hQ
            · skip
              refine x_callV (a := m) (av := [x_i (nI p)]) (rest := []) (r := (some (x_i ((-1))))) (h1 := h) dX10_hasTests_64 sX10_hasTests_204 (mPk_0 hK.1) rfl rfl (Nat.le_of_ble_eq_true rfl) ⟨Nat.le_refl _, Nat.le_refl _⟩ (by have k := c_nextItem G hK hqi (Or.inr h6); rw [if_neg h5] at k; exact k) ?_
              show x_E _ _ _ _ 67 _ [x_i ((-1))] _
              refine x_istore (i := 5) (lv' := [(0, x_r (some m)), (1, x_i r), (2, x_i (if ak = true then 1 else 0)), (3, x_i 1), (4, x_i 1), (5, x_i ((-1)))]) dX10_hasTests_67 (by decide) rfl ?_
              refine x_goto (tgt := 12) dX10_hasTests_69 (by decide) ?_
              refine x_iload (i := 5) (x := (-1)) dX10_hasTests_12 rfl ?_
              refine x_iconst (v := (-1)) dX10_hasTests_14 (by decide) ?_
              refine x_icmp_eq (tgt := 72) dX10_hasTests_15 (by decide) (fun c15 => ?_) (fun c15 => ?_)
              · skip
                refine x_iload_n (i := 3) (x := 1) dX10_hasTests_72 rfl rfl ?_
                refine x_if_eq (tgt := 89) dX10_hasTests_73 (by decide) (fun c => absurd c (by decide)) (fun _ => ?_)
                refine x_iload (i := 4) (x := 1) dX10_hasTests_76 rfl ?_
                refine x_if_ne (tgt := 85) dX10_hasTests_78 (by decide) (fun _ => ?_) (fun c => absurd c (by decide))
                refine x_iconst (v := 1) dX10_hasTests_85 (by decide) ?_
                refine x_goto (tgt := 90) dX10_hasTests_86 (by decide) ?_
                refine x_ireturn dX10_hasTests_90 rfl (rfl) ⟨Nat.le_refl _, Nat.le_refl _⟩ ?_
                rw [hi] at hQ
                simpa [z_any, z_akn, q7, c51] using hQ
              · skip
                exact absurd rfl c15
        · skip
          refine x_callV (a := m) (av := [x_i (nI p), x_l 6247773044]) (rest := []) (r := (some (x_i 0))) (h1 := h) dX10_hasTests_24 sX10_hasTests_168 (mPk_0 hK.1) rfl rfl (Nat.le_of_ble_eq_true rfl) ⟨Nat.le_refl _, Nat.le_refl _⟩ (k_has_f G hK (a := p) (by omega) z_K_test q7) ?_
          show x_E _ _ _ _ 27 _ [x_i 0] _
          refine x_if_eq (tgt := 61) dX10_hasTests_27 (by decide) (fun _ => ?_) (fun c => absurd (by decide) c)
          refine x_aload_n (i := 0) (o := some m) dX10_hasTests_61 rfl rfl ?_
          refine x_iload (i := 5) (x := nI p) dX10_hasTests_62 rfl ?_
          rcases hcc with ⟨h5, hq2, hi⟩ | ⟨h5, h6, hi⟩
          · skip
            refine x_callV (a := m) (av := [x_i (nI p)]) (rest := []) (r := (some (x_i (nI (b + 1))))) (h1 := h) dX10_hasTests_64 sX10_hasTests_204 (mPk_0 hK.1) rfl rfl (Nat.le_of_ble_eq_true rfl) ⟨Nat.le_refl _, Nat.le_refl _⟩ (by have k := c_nextItem G hK hqi (Or.inl h5); rw [if_pos h5] at k; exact k) ?_
            show x_E _ _ _ _ 67 _ [x_i (nI (b + 1))] _
            refine x_istore (i := 5) (lv' := [(0, x_r (some m)), (1, x_i r), (2, x_i (if ak = true then 1 else 0)), (3, x_i 0), (4, x_i 1), (5, x_i (nI (b + 1)))]) dX10_hasTests_67 (by decide) rfl ?_
            refine x_goto (tgt := 12) dX10_hasTests_69 (by decide) ?_
            refine ih g (by omega) (b + 1) false true (by omega) hq2 ?_
            rw [hi] at hQ
            simpa [z_any, z_akn, q7] using hQ
          · skip
            refine x_callV (a := m) (av := [x_i (nI p)]) (rest := []) (r := (some (x_i ((-1))))) (h1 := h) dX10_hasTests_64 sX10_hasTests_204 (mPk_0 hK.1) rfl rfl (Nat.le_of_ble_eq_true rfl) ⟨Nat.le_refl _, Nat.le_refl _⟩ (by have k := c_nextItem G hK hqi (Or.inr h6); rw [if_neg h5] at k; exact k) ?_
            show x_E _ _ _ _ 67 _ [x_i ((-1))] _
            refine x_istore (i := 5) (lv' := [(0, x_r (some m)), (1, x_i r), (2, x_i (if ak = true then 1 else 0)), (3, x_i 0), (4, x_i 1), (5, x_i ((-1)))]) dX10_hasTests_67 (by decide) rfl ?_
            refine x_goto (tgt := 12) dX10_hasTests_69 (by decide) ?_
            refine x_iload (i := 5) (x := (-1)) dX10_hasTests_12 rfl ?_
            refine x_iconst (v := (-1)) dX10_hasTests_14 (by decide) ?_
            refine x_icmp_eq (tgt := 72) dX10_hasTests_15 (by decide) (fun c15 => ?_) (fun c15 => ?_)
            · skip
              refine x_iload_n (i := 3) (x := 0) dX10_hasTests_72 rfl rfl ?_
              refine x_if_eq (tgt := 89) dX10_hasTests_73 (by decide) (fun _ => ?_) (fun c => absurd (by decide) c)
              refine x_iconst (v := 0) dX10_hasTests_89 (by decide) ?_
              refine x_ireturn dX10_hasTests_90 rfl (rfl) ⟨Nat.le_refl _, Nat.le_refl _⟩ ?_
              rw [hi] at hQ
              simpa [z_any, z_akn, q7] using hQ
            · skip
              exact absurd rfl c15
    · skip
      refine x_iload (i := 5) (x := nI p) dX10_hasTests_12 rfl ?_
      refine x_iconst (v := (-1)) dX10_hasTests_14 (by decide) ?_
      refine x_icmp_eq (tgt := 72) dX10_hasTests_15 (by decide) (fun c15 => ?_) (fun c15 => ?_)
      · skip
        exact absurd c15 (z_neg1 (nI_pos' (by omega)))
      · skip
        refine x_aload_n (i := 0) (o := some m) dX10_hasTests_18 rfl rfl ?_
        refine x_iload (i := 5) (x := nI p) dX10_hasTests_19 rfl ?_
        refine x_ldc2 (v := 6247773044) dX10_hasTests_21 kX10_hasTests_124 ?_
        by_cases q7 : C p = -7
        · skip
          refine x_callV (a := m) (av := [x_i (nI p), x_l 6247773044]) (rest := []) (r := (some (x_i 1))) (h1 := h) dX10_hasTests_24 sX10_hasTests_168 (mPk_0 hK.1) rfl rfl (Nat.le_of_ble_eq_true rfl) ⟨Nat.le_refl _, Nat.le_refl _⟩ (k_has_t G hK (a := p) (by omega) z_K_test q7) ?_
          show x_E _ _ _ _ 27 _ [x_i 1] _
          refine x_if_eq (tgt := 61) dX10_hasTests_27 (by decide) (fun c => absurd c (by decide)) (fun _ => ?_)
          refine x_iconst (v := 1) dX10_hasTests_30 (by decide) ?_
          refine x_istore_n (i := 3) (lv' := [(0, x_r (some m)), (1, x_i r), (2, x_i (if ak = true then 1 else 0)), (3, x_i 1), (4, x_i 0), (5, x_i (nI p))]) dX10_hasTests_31 rfl (by decide) rfl ?_
          refine x_iload (i := 4) (x := 0) dX10_hasTests_32 rfl ?_
          refine x_if_eq (tgt := 58) dX10_hasTests_34 (by decide) (fun _ => ?_) (fun c => absurd (by decide) c)
          refine x_iconst (v := 0) dX10_hasTests_58 (by decide) ?_
          refine x_istore (i := 4) (lv' := [(0, x_r (some m)), (1, x_i r), (2, x_i (if ak = true then 1 else 0)), (3, x_i 1), (4, x_i 0), (5, x_i (nI p))]) dX10_hasTests_59 (by decide) rfl ?_
          refine x_aload_n (i := 0) (o := some m) dX10_hasTests_61 rfl rfl ?_
          refine x_iload (i := 5) (x := nI p) dX10_hasTests_62 rfl ?_
          rcases hcc with ⟨h5, hq2, hi⟩ | ⟨h5, h6, hi⟩
          · skip
            refine x_callV (a := m) (av := [x_i (nI p)]) (rest := []) (r := (some (x_i (nI (b + 1))))) (h1 := h) dX10_hasTests_64 sX10_hasTests_204 (mPk_0 hK.1) rfl rfl (Nat.le_of_ble_eq_true rfl) ⟨Nat.le_refl _, Nat.le_refl _⟩ (by have k := c_nextItem G hK hqi (Or.inl h5); rw [if_pos h5] at k; exact k) ?_
            show x_E _ _ _ _ 67 _ [x_i (nI (b + 1))] _
            refine x_istore (i := 5) (lv' := [(0, x_r (some m)), (1, x_i r), (2, x_i (if ak = true then 1 else 0)), (3, x_i 1), (4, x_i 0), (5, x_i (nI (b + 1)))]) dX10_hasTests_67 (by decide) rfl ?_
            refine x_goto (tgt := 12) dX10_hasTests_69 (by decide) ?_
            refine ih g (by omega) (b + 1) true false (by omega) hq2 ?_
            rw [hi] at hQ
            simpa [z_any, z_akn, q7] using hQ
          · skip
            refine x_callV (a := m) (av := [x_i (nI p)]) (rest := []) (r := (some (x_i ((-1))))) (h1 := h) dX10_hasTests_64 sX10_hasTests_204 (mPk_0 hK.1) rfl rfl (Nat.le_of_ble_eq_true rfl) ⟨Nat.le_refl _, Nat.le_refl _⟩ (by have k := c_nextItem G hK hqi (Or.inr h6); rw [if_neg h5] at k; exact k) ?_
            show x_E _ _ _ _ 67 _ [x_i ((-1))] _
            refine x_istore (i := 5) (lv' := [(0, x_r (some m)), (1, x_i r), (2, x_i (if ak = true then 1 else 0)), (3, x_i 1), (4, x_i 0), (5, x_i ((-1)))]) dX10_hasTests_67 (by decide) rfl ?_
            refine x_goto (tgt := 12) dX10_hasTests_69 (by decide) ?_
            refine x_iload (i := 5) (x := (-1)) dX10_hasTests_12 rfl ?_
            refine x_iconst (v := (-1)) dX10_hasTests_14 (by decide) ?_
            refine x_icmp_eq (tgt := 72) dX10_hasTests_15 (by decide) (fun c15 => ?_) (fun c15 => ?_)
            · skip
              refine x_iload_n (i := 3) (x := 1) dX10_hasTests_72 rfl rfl ?_
              refine x_if_eq (tgt := 89) dX10_hasTests_73 (by decide) (fun c => absurd c (by decide)) (fun _ => ?_)
              refine x_iload (i := 4) (x := 0) dX10_hasTests_76 rfl ?_
              refine x_if_ne (tgt := 85) dX10_hasTests_78 (by decide) (fun c => absurd c (by decide)) (fun _ => ?_)
              refine x_iload_n (i := 2) (x := if ak = true then 1 else 0) dX10_hasTests_81 rfl rfl ?_
              refine x_if_ne (tgt := 89) dX10_hasTests_82 (by decide) (fun c82 => ?_) (fun c82 => ?_)
              · skip
                have e82 : ak = true := by cases ak with | true => rfl | false => exact absurd rfl c82
                refine x_iconst (v := 0) dX10_hasTests_89 (by decide) ?_
                refine x_ireturn dX10_hasTests_90 rfl (rfl) ⟨Nat.le_refl _, Nat.le_refl _⟩ ?_
                rw [hi] at hQ
                simpa [z_any, z_akn, q7, e82] using hQ
              · skip
                have e82 : ak = false := by cases ak with | true => exact absurd c82 (by decide) | false => rfl
                refine x_iconst (v := 1) dX10_hasTests_85 (by decide) ?_
                refine x_goto (tgt := 90) dX10_hasTests_86 (by decide) ?_
                refine x_ireturn dX10_hasTests_90 rfl (rfl) ⟨Nat.le_refl _, Nat.le_refl _⟩ ?_
                rw [hi] at hQ
                simpa [z_any, z_akn, q7, e82] using hQ
            · skip
              exact absurd rfl c15
        · skip
          refine x_callV (a := m) (av := [x_i (nI p), x_l 6247773044]) (rest := []) (r := (some (x_i 0))) (h1 := h) dX10_hasTests_24 sX10_hasTests_168 (mPk_0 hK.1) rfl rfl (Nat.le_of_ble_eq_true rfl) ⟨Nat.le_refl _, Nat.le_refl _⟩ (k_has_f G hK (a := p) (by omega) z_K_test q7) ?_
          show x_E _ _ _ _ 27 _ [x_i 0] _
          refine x_if_eq (tgt := 61) dX10_hasTests_27 (by decide) (fun _ => ?_) (fun c => absurd (by decide) c)
          refine x_aload_n (i := 0) (o := some m) dX10_hasTests_61 rfl rfl ?_
          refine x_iload (i := 5) (x := nI p) dX10_hasTests_62 rfl ?_
          rcases hcc with ⟨h5, hq2, hi⟩ | ⟨h5, h6, hi⟩
          · skip
            refine x_callV (a := m) (av := [x_i (nI p)]) (rest := []) (r := (some (x_i (nI (b + 1))))) (h1 := h) dX10_hasTests_64 sX10_hasTests_204 (mPk_0 hK.1) rfl rfl (Nat.le_of_ble_eq_true rfl) ⟨Nat.le_refl _, Nat.le_refl _⟩ (by have k := c_nextItem G hK hqi (Or.inl h5); rw [if_pos h5] at k; exact k) ?_
            show x_E _ _ _ _ 67 _ [x_i (nI (b + 1))] _
            refine x_istore (i := 5) (lv' := [(0, x_r (some m)), (1, x_i r), (2, x_i (if ak = true then 1 else 0)), (3, x_i 1), (4, x_i 0), (5, x_i (nI (b + 1)))]) dX10_hasTests_67 (by decide) rfl ?_
            refine x_goto (tgt := 12) dX10_hasTests_69 (by decide) ?_
            refine ih g (by omega) (b + 1) true false (by omega) hq2 ?_
            rw [hi] at hQ
            simpa [z_any, z_akn, q7] using hQ
          · skip
            refine x_callV (a := m) (av := [x_i (nI p)]) (rest := []) (r := (some (x_i ((-1))))) (h1 := h) dX10_hasTests_64 sX10_hasTests_204 (mPk_0 hK.1) rfl rfl (Nat.le_of_ble_eq_true rfl) ⟨Nat.le_refl _, Nat.le_refl _⟩ (by have k := c_nextItem G hK hqi (Or.inr h6); rw [if_neg h5] at k; exact k) ?_
            show x_E _ _ _ _ 67 _ [x_i ((-1))] _
            refine x_istore (i := 5) (lv' := [(0, x_r (some m)), (1, x_i r), (2, x_i (if ak = true then 1 else 0)), (3, x_i 1), (4, x_i 0), (5, x_i ((-1)))]) dX10_hasTests_67 (by decide) rfl ?_
            refine x_goto (tgt := 12) dX10_hasTests_69 (by decide) ?_
            refine x_iload (i := 5) (x := (-1)) dX10_hasTests_12 rfl ?_
            refine x_iconst (v := (-1)) dX10_hasTests_14 (by decide) ?_
            refine x_icmp_eq (tgt := 72) dX10_hasTests_15 (by decide) (fun c15 => ?_) (fun c15 => ?_)
            · skip
              refine x_iload_n (i := 3) (x := 1) dX10_hasTests_72 rfl rfl ?_
              refine x_if_eq (tgt := 89) dX10_hasTests_73 (by decide) (fun c => absurd c (by decide)) (fun _ => ?_)
              refine x_iload (i := 4) (x := 0) dX10_hasTests_76 rfl ?_
              refine x_if_ne (tgt := 85) dX10_hasTests_78 (by decide) (fun c => absurd c (by decide)) (fun _ => ?_)
              refine x_iload_n (i := 2) (x := if ak = true then 1 else 0) dX10_hasTests_81 rfl rfl ?_
              refine x_if_ne (tgt := 89) dX10_hasTests_82 (by decide) (fun c82 => ?_) (fun c82 => ?_)
              · skip
                have e82 : ak = true := by cases ak with | true => rfl | false => exact absurd rfl c82
                refine x_iconst (v := 0) dX10_hasTests_89 (by decide) ?_
                refine x_ireturn dX10_hasTests_90 rfl (rfl) ⟨Nat.le_refl _, Nat.le_refl _⟩ ?_
                rw [hi] at hQ
                simpa [z_any, z_akn, q7, e82] using hQ
              · skip
                have e82 : ak = false := by cases ak with | true => exact absurd c82 (by decide) | false => rfl
                refine x_iconst (v := 1) dX10_hasTests_85 (by decide) ?_
                refine x_goto (tgt := 90) dX10_hasTests_86 (by decide) ?_
                refine x_ireturn dX10_hasTests_90 rfl (rfl) ⟨Nat.le_refl _, Nat.le_refl _⟩ ?_
                rw [hi] at hQ
                simpa [z_any, z_akn, q7, e82] using hQ
            · skip
              exact absurd rfl c15
    · skip
      refine x_iload (i := 5) (x := nI p) dX10_hasTests_12 rfl ?_
      refine x_iconst (v := (-1)) dX10_hasTests_14 (by decide) ?_
      refine x_icmp_eq (tgt := 72) dX10_hasTests_15 (by decide) (fun c15 => ?_) (fun c15 => ?_)
      · skip
        exact absurd c15 (z_neg1 (nI_pos' (by omega)))
      · skip
        refine x_aload_n (i := 0) (o := some m) dX10_hasTests_18 rfl rfl ?_
        refine x_iload (i := 5) (x := nI p) dX10_hasTests_19 rfl ?_
        refine x_ldc2 (v := 6247773044) dX10_hasTests_21 kX10_hasTests_124 ?_
        by_cases q7 : C p = -7
        · skip
          refine x_callV (a := m) (av := [x_i (nI p), x_l 6247773044]) (rest := []) (r := (some (x_i 1))) (h1 := h) dX10_hasTests_24 sX10_hasTests_168 (mPk_0 hK.1) rfl rfl (Nat.le_of_ble_eq_true rfl) ⟨Nat.le_refl _, Nat.le_refl _⟩ (k_has_t G hK (a := p) (by omega) z_K_test q7) ?_
          show x_E _ _ _ _ 27 _ [x_i 1] _
          refine x_if_eq (tgt := 61) dX10_hasTests_27 (by decide) (fun c => absurd c (by decide)) (fun _ => ?_)
          refine x_iconst (v := 1) dX10_hasTests_30 (by decide) ?_
          refine x_istore_n (i := 3) (lv' := [(0, x_r (some m)), (1, x_i r), (2, x_i (if ak = true then 1 else 0)), (3, x_i 1), (4, x_i 1), (5, x_i (nI p))]) dX10_hasTests_31 rfl (by decide) rfl ?_
          refine x_iload (i := 4) (x := 1) dX10_hasTests_32 rfl ?_
          refine x_if_eq (tgt := 58) dX10_hasTests_34 (by decide) (fun c => absurd c (by decide)) (fun _ => ?_)
          refine x_aload_n (i := 0) (o := some m) dX10_hasTests_37 rfl rfl ?_
          refine x_getRv (v := some (m + 13)) dX10_hasTests_38 fX10_hasTests_48 (i := 1017) rfl rfl (mPk_0 hK.1) (mPr_1017 hK.1) ?_
          refine x_aload_n (i := 0) (o := some m) dX10_hasTests_41 rfl rfl ?_
          refine x_iload (i := 5) (x := nI p) dX10_hasTests_42 rfl ?_
          refine x_iconst (v := 1) dX10_hasTests_44 (by decide) ?_
          have h17 : q_n C 0 7 (p + 1) := by
            rcases q_item_c hqi with z | z | z
            · exact z.2.1
            · exact absurd q7 z.1
            · exact absurd q7 z.1
          have ht := z_tn (n := 7) (by decide) h17
          refine x_iadd dX10_hasTests_45 ?_
          rw [show (nI p) + 1 = nI (p + 1) from nI_1 p]
          refine x_callV (a := m) (av := [x_i (nI (p + 1))]) (rest := [x_r (some (m + 13))]) (r := (some (x_i (C (p + 1))))) (h1 := h) dX10_hasTests_46 sX10_hasTests_172 (mPk_0 hK.1) rfl rfl (Nat.le_of_ble_eq_true rfl) ⟨Nat.le_refl _, Nat.le_refl _⟩ (k_num G hK h17.1) ?_
          show x_E _ _ _ _ 49 _ [x_i (C (p + 1)), x_r (some (m + 13))] _
          refine x_ialoadN (n := (C (p + 1)).toNatClampNeg) (v := X.2.2.2.1 (C (p + 1)).toNatClampNeg) dX10_hasTests_49 (mPk_13 hK.1) (ht.1) (by rw [mPl_13 hK.1]; omega) (by rw [mPl_13 hK.1]; omega) (hX.2.1 _ (by omega)) ?_
          refine x_iconst (v := (-1)) dX10_hasTests_50 (by decide) ?_
          refine x_icmp_eq (tgt := 58) dX10_hasTests_51 (by decide) (fun c51 => ?_) (fun c51 => ?_)
          · skip
            refine x_iconst (v := 0) dX10_hasTests_58 (by decide) ?_
            refine x_istore (i := 4) (lv' := [(0, x_r (some m)), (1, x_i r), (2, x_i (if ak = true then 1 else 0)), (3, x_i 1), (4, x_i 0), (5, x_i (nI p))]) dX10_hasTests_59 (by decide) rfl ?_
            refine x_aload_n (i := 0) (o := some m) dX10_hasTests_61 rfl rfl ?_
            refine x_iload (i := 5) (x := nI p) dX10_hasTests_62 rfl ?_
            rcases hcc with ⟨h5, hq2, hi⟩ | ⟨h5, h6, hi⟩
            · skip
              refine x_callV (a := m) (av := [x_i (nI p)]) (rest := []) (r := (some (x_i (nI (b + 1))))) (h1 := h) dX10_hasTests_64 sX10_hasTests_204 (mPk_0 hK.1) rfl rfl (Nat.le_of_ble_eq_true rfl) ⟨Nat.le_refl _, Nat.le_refl _⟩ (by have k := c_nextItem G hK hqi (Or.inl h5); rw [if_pos h5] at k; exact k) ?_
              show x_E _ _ _ _ 67 _ [x_i (nI (b + 1))] _
              refine x_istore (i := 5) (lv' := [(0, x_r (some m)), (1, x_i r), (2, x_i (if ak = true then 1 else 0)), (3, x_i 1), (4, x_i 0), (5, x_i (nI (b + 1)))]) dX10_hasTests_67 (by decide) rfl ?_
              refine x_goto (tgt := 12) dX10_hasTests_69 (by decide) ?_
              refine ih g (by omega) (b + 1) true false (by omega) hq2 ?_
              rw [hi] at hQ
              simpa [z_any, z_akn, q7, c51] using hQ
            · skip
              refine x_callV (a := m) (av := [x_i (nI p)]) (rest := []) (r := (some (x_i ((-1))))) (h1 := h) dX10_hasTests_64 sX10_hasTests_204 (mPk_0 hK.1) rfl rfl (Nat.le_of_ble_eq_true rfl) ⟨Nat.le_refl _, Nat.le_refl _⟩ (by have k := c_nextItem G hK hqi (Or.inr h6); rw [if_neg h5] at k; exact k) ?_
              show x_E _ _ _ _ 67 _ [x_i ((-1))] _
              refine x_istore (i := 5) (lv' := [(0, x_r (some m)), (1, x_i r), (2, x_i (if ak = true then 1 else 0)), (3, x_i 1), (4, x_i 0), (5, x_i ((-1)))]) dX10_hasTests_67 (by decide) rfl ?_
              refine x_goto (tgt := 12) dX10_hasTests_69 (by decide) ?_
              refine x_iload (i := 5) (x := (-1)) dX10_hasTests_12 rfl ?_
              refine x_iconst (v := (-1)) dX10_hasTests_14 (by decide) ?_
              refine x_icmp_eq (tgt := 72) dX10_hasTests_15 (by decide) (fun c15 => ?_) (fun c15 => ?_)
              · skip
                refine x_iload_n (i := 3) (x := 1) dX10_hasTests_72 rfl rfl ?_
                refine x_if_eq (tgt := 89) dX10_hasTests_73 (by decide) (fun c => absurd c (by decide)) (fun _ => ?_)
                refine x_iload (i := 4) (x := 0) dX10_hasTests_76 rfl ?_
                refine x_if_ne (tgt := 85) dX10_hasTests_78 (by decide) (fun c => absurd c (by decide)) (fun _ => ?_)
                refine x_iload_n (i := 2) (x := if ak = true then 1 else 0) dX10_hasTests_81 rfl rfl ?_
                refine x_if_ne (tgt := 89) dX10_hasTests_82 (by decide) (fun c82 => ?_) (fun c82 => ?_)
                · skip
                  have e82 : ak = true := by cases ak with | true => rfl | false => exact absurd rfl c82
                  refine x_iconst (v := 0) dX10_hasTests_89 (by decide) ?_
                  refine x_ireturn dX10_hasTests_90 rfl (rfl) ⟨Nat.le_refl _, Nat.le_refl _⟩ ?_
                  rw [hi] at hQ
                  simpa [z_any, z_akn, q7, c51, e82] using hQ
                · skip
                  have e82 : ak = false := by cases ak with | true => exact absurd c82 (by decide) | false => rfl
                  refine x_iconst (v := 1) dX10_hasTests_85 (by decide) ?_
                  refine x_goto (tgt := 90) dX10_hasTests_86 (by decide) ?_
                  refine x_ireturn dX10_hasTests_90 rfl (rfl) ⟨Nat.le_refl _, Nat.le_refl _⟩ ?_
                  rw [hi] at hQ
                  simpa [z_any, z_akn, q7, c51, e82] using hQ
              · skip
                exact absurd rfl c15
          · skip
            refine x_iconst (v := 1) dX10_hasTests_54 (by decide) ?_
            refine x_goto (tgt := 59) dX10_hasTests_55 (by decide) ?_
            refine x_istore (i := 4) (lv' := [(0, x_r (some m)), (1, x_i r), (2, x_i (if ak = true then 1 else 0)), (3, x_i 1), (4, x_i 1), (5, x_i (nI p))]) dX10_hasTests_59 (by decide) rfl ?_
            refine x_aload_n (i := 0) (o := some m) dX10_hasTests_61 rfl rfl ?_
            refine x_iload (i := 5) (x := nI p) dX10_hasTests_62 rfl ?_
            rcases hcc with ⟨h5, hq2, hi⟩ | ⟨h5, h6, hi⟩
            · skip
              refine x_callV (a := m) (av := [x_i (nI p)]) (rest := []) (r := (some (x_i (nI (b + 1))))) (h1 := h) dX10_hasTests_64 sX10_hasTests_204 (mPk_0 hK.1) rfl rfl (Nat.le_of_ble_eq_true rfl) ⟨Nat.le_refl _, Nat.le_refl _⟩ (by have k := c_nextItem G hK hqi (Or.inl h5); rw [if_pos h5] at k; exact k) ?_
              show x_E _ _ _ _ 67 _ [x_i (nI (b + 1))] _
              refine x_istore (i := 5) (lv' := [(0, x_r (some m)), (1, x_i r), (2, x_i (if ak = true then 1 else 0)), (3, x_i 1), (4, x_i 1), (5, x_i (nI (b + 1)))]) dX10_hasTests_67 (by decide) rfl ?_
              refine x_goto (tgt := 12) dX10_hasTests_69 (by decide) ?_
              refine ih g (by omega) (b + 1) true true (by omega) hq2 ?_
              rw [hi] at hQ
              simpa [z_any, z_akn, q7, c51] using hQ
            · skip
              refine x_callV (a := m) (av := [x_i (nI p)]) (rest := []) (r := (some (x_i ((-1))))) (h1 := h) dX10_hasTests_64 sX10_hasTests_204 (mPk_0 hK.1) rfl rfl (Nat.le_of_ble_eq_true rfl) ⟨Nat.le_refl _, Nat.le_refl _⟩ (by have k := c_nextItem G hK hqi (Or.inr h6); rw [if_neg h5] at k; exact k) ?_
              show x_E _ _ _ _ 67 _ [x_i ((-1))] _
              refine x_istore (i := 5) (lv' := [(0, x_r (some m)), (1, x_i r), (2, x_i (if ak = true then 1 else 0)), (3, x_i 1), (4, x_i 1), (5, x_i ((-1)))]) dX10_hasTests_67 (by decide) rfl ?_
              refine x_goto (tgt := 12) dX10_hasTests_69 (by decide) ?_
              refine x_iload (i := 5) (x := (-1)) dX10_hasTests_12 rfl ?_
              refine x_iconst (v := (-1)) dX10_hasTests_14 (by decide) ?_
              refine x_icmp_eq (tgt := 72) dX10_hasTests_15 (by decide) (fun c15 => ?_) (fun c15 => ?_)
              · skip
                refine x_iload_n (i := 3) (x := 1) dX10_hasTests_72 rfl rfl ?_
                refine x_if_eq (tgt := 89) dX10_hasTests_73 (by decide) (fun c => absurd c (by decide)) (fun _ => ?_)
                refine x_iload (i := 4) (x := 1) dX10_hasTests_76 rfl ?_
                refine x_if_ne (tgt := 85) dX10_hasTests_78 (by decide) (fun _ => ?_) (fun c => absurd c (by decide))
                refine x_iconst (v := 1) dX10_hasTests_85 (by decide) ?_
                refine x_goto (tgt := 90) dX10_hasTests_86 (by decide) ?_
                refine x_ireturn dX10_hasTests_90 rfl (rfl) ⟨Nat.le_refl _, Nat.le_refl _⟩ ?_
                rw [hi] at hQ
                simpa [z_any, z_akn, q7, c51] using hQ
              · skip
                exact absurd rfl c15
        · skip
          refine x_callV (a := m) (av := [x_i (nI p), x_l 6247773044]) (rest := []) (r := (some (x_i 0))) (h1 := h) dX10_hasTests_24 sX10_hasTests_168 (mPk_0 hK.1) rfl rfl (Nat.le_of_ble_eq_true rfl) ⟨Nat.le_refl _, Nat.le_refl _⟩ (k_has_f G hK (a := p) (by omega) z_K_test q7) ?_
          show x_E _ _ _ _ 27 _ [x_i 0] _
          refine x_if_eq (tgt := 61) dX10_hasTests_27 (by decide) (fun _ => ?_) (fun c => absurd (by decide) c)
          refine x_aload_n (i := 0) (o := some m) dX10_hasTests_61 rfl rfl ?_
          refine x_iload (i := 5) (x := nI p) dX10_hasTests_62 rfl ?_
          rcases hcc with ⟨h5, hq2, hi⟩ | ⟨h5, h6, hi⟩
          · skip
            refine x_callV (a := m) (av := [x_i (nI p)]) (rest := []) (r := (some (x_i (nI (b + 1))))) (h1 := h) dX10_hasTests_64 sX10_hasTests_204 (mPk_0 hK.1) rfl rfl (Nat.le_of_ble_eq_true rfl) ⟨Nat.le_refl _, Nat.le_refl _⟩ (by have k := c_nextItem G hK hqi (Or.inl h5); rw [if_pos h5] at k; exact k) ?_
            show x_E _ _ _ _ 67 _ [x_i (nI (b + 1))] _
            refine x_istore (i := 5) (lv' := [(0, x_r (some m)), (1, x_i r), (2, x_i (if ak = true then 1 else 0)), (3, x_i 1), (4, x_i 1), (5, x_i (nI (b + 1)))]) dX10_hasTests_67 (by decide) rfl ?_
            refine x_goto (tgt := 12) dX10_hasTests_69 (by decide) ?_
            refine ih g (by omega) (b + 1) true true (by omega) hq2 ?_
            rw [hi] at hQ
            simpa [z_any, z_akn, q7] using hQ
          · skip
            refine x_callV (a := m) (av := [x_i (nI p)]) (rest := []) (r := (some (x_i ((-1))))) (h1 := h) dX10_hasTests_64 sX10_hasTests_204 (mPk_0 hK.1) rfl rfl (Nat.le_of_ble_eq_true rfl) ⟨Nat.le_refl _, Nat.le_refl _⟩ (by have k := c_nextItem G hK hqi (Or.inr h6); rw [if_neg h5] at k; exact k) ?_
            show x_E _ _ _ _ 67 _ [x_i ((-1))] _
            refine x_istore (i := 5) (lv' := [(0, x_r (some m)), (1, x_i r), (2, x_i (if ak = true then 1 else 0)), (3, x_i 1), (4, x_i 1), (5, x_i ((-1)))]) dX10_hasTests_67 (by decide) rfl ?_
            refine x_goto (tgt := 12) dX10_hasTests_69 (by decide) ?_
            refine x_iload (i := 5) (x := (-1)) dX10_hasTests_12 rfl ?_
            refine x_iconst (v := (-1)) dX10_hasTests_14 (by decide) ?_
            refine x_icmp_eq (tgt := 72) dX10_hasTests_15 (by decide) (fun c15 => ?_) (fun c15 => ?_)
            · skip
              refine x_iload_n (i := 3) (x := 1) dX10_hasTests_72 rfl rfl ?_
              refine x_if_eq (tgt := 89) dX10_hasTests_73 (by decide) (fun c => absurd c (by decide)) (fun _ => ?_)
              refine x_iload (i := 4) (x := 1) dX10_hasTests_76 rfl ?_
              refine x_if_ne (tgt := 85) dX10_hasTests_78 (by decide) (fun _ => ?_) (fun c => absurd c (by decide))
              refine x_iconst (v := 1) dX10_hasTests_85 (by decide) ?_
              refine x_goto (tgt := 90) dX10_hasTests_86 (by decide) ?_
              refine x_ireturn dX10_hasTests_90 rfl (rfl) ⟨Nat.le_refl _, Nat.le_refl _⟩ ?_
              rw [hi] at hQ
              simpa [z_any, z_akn, q7] using hQ
            · skip
              exact absurd rfl c15
set_option maxHeartbeats 4000000 in
set_option maxRecDepth 100000 in
theorem c_hasTests (G : x_G) {h : x_H} {m : Nat} {l : List (Nat × Nat)} {C : Nat → Int32} {R : List (Nat × Nat)} {E : List Int32} (hB : m_Bk h m l C R E) {X : z_X} (hX : m_X h m X) {r : Nat} {q : Nat × Nat} (hr : R[r]? = some q) (ak : Bool) : x_Call G mX10_hasTests h [x_r (some m), x_i (nI r), x_i (if ak = true then 1 else 0)] (some (x_i (if (z_any C (z_its C q) && (z_akn X C (z_its C q) || !ak)) = true then 1 else 0))) h := by
  obtain ⟨h7, h8, hr6, hq1, hq2, hc, e, hqs⟩ := hB.at hr
  refine x_Ex.call (x_enter mwX10_hasTests (Nat.le_of_ble_eq_true rfl) ?_)
  show x_E _ _ _ _ _ [(0, x_r (some m)), (1, x_i (nI r)), (2, x_i (if ak = true then 1 else 0))] _ _
  refine x_iconst (v := 0) dX10_hasTests_0 (by decide) ?_
  refine x_istore_n (i := 3) (lv' := [(0, x_r (some m)), (1, x_i (nI r)), (2, x_i (if ak = true then 1 else 0)), (3, x_i 0)]) dX10_hasTests_1 rfl (by decide) rfl ?_
  refine x_iconst (v := 1) dX10_hasTests_2 (by decide) ?_
  refine x_istore (i := 4) (lv' := [(0, x_r (some m)), (1, x_i (nI r)), (2, x_i (if ak = true then 1 else 0)), (3, x_i 0), (4, x_i 1)]) dX10_hasTests_3 (by decide) rfl ?_
  refine x_aload_n (i := 0) (o := some m) dX10_hasTests_5 rfl rfl ?_
  refine x_iload_n (i := 1) (x := nI r) dX10_hasTests_6 rfl rfl ?_
  refine x_callV (a := m) (av := [x_i (nI r)]) (rest := []) (r := (some (x_i (nI (q.1 + 3))))) (h1 := h) dX10_hasTests_7 sX10_hasTests_201 (mPk_0 hB.1.1) rfl rfl (Nat.le_of_ble_eq_true rfl) ⟨Nat.le_refl _, Nat.le_refl _⟩ (c_firstItem G hB hr) ?_
  show x_E _ _ _ _ 10 _ [x_i (nI (q.1 + 3))] _
  refine x_istore (i := 5) (lv' := [(0, x_r (some m)), (1, x_i (nI r)), (2, x_i (if ak = true then 1 else 0)), (3, x_i 0), (4, x_i 1), (5, x_i (nI (q.1 + 3)))]) dX10_hasTests_10 (by decide) rfl ?_
  exact l_hasTests G hB.1 hX (nI r) ak _ 1501 (q.1 + 3) false true (by omega) hqs ⟨by simp [z_its], rfl⟩
