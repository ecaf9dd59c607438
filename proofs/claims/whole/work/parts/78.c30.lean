/-! THE CLASS: HazardRules: limit, sum, write -/
theorem z_ta_rs {rs : List Nat} {R : List (Nat × Nat)} (hl : rs.length = R.length) (h60 : R.length ≤ 60) (r : Int32) : (z_ta rs 0 r = none ∧ (0 ≤ r → R[r.toNatClampNeg]? = none)) ∨ ∃ ra q, 0 ≤ r ∧ z_ta rs 0 r = some ra ∧ rs[r.toNatClampNeg]? = some ra ∧ R[r.toNatClampNeg]? = some q := by
  have e := z_ta_0 (k := r) (L := rs) (by omega)
  by_cases h : 0 ≤ r
  · rw [if_pos h] at e
    rcases Nat.lt_or_ge r.toNatClampNeg rs.length with c | c
    · refine Or.inr ⟨rs[r.toNatClampNeg], R[r.toNatClampNeg]'(by omega), h, ?_, List.getElem?_eq_getElem c, List.getElem?_eq_getElem (by omega)⟩
      rw [e, List.getElem?_eq_getElem c]
    · exact Or.inl ⟨by rw [e, List.getElem?_eq_none c], fun _ => List.getElem?_eq_none (by omega)⟩
  · rw [if_neg h] at e
    exact Or.inl ⟨e, fun z => absurd z h⟩
theorem z_su_n {X : z_X} {C : Nat → Int32} {R : List (Nat × Nat)} {r e part : Int32} (h : 0 ≤ r → R[r.toNatClampNeg]? = none) : z_su X C R r e part = 0 := by
  unfold z_su
  split
  · rename_i z
    rw [h z.1]
  · rfl
theorem z_su_s {X : z_X} {C : Nat → Int32} {R : List (Nat × Nat)} (hR : ∀ q ∈ R, v_ru C q) {r e part : Int32} {q : Nat × Nat} (he : e = 0 ∨ e = 1) (h0 : 0 ≤ r) (h : R[r.toNatClampNeg]? = some q) : z_su X C R r e part = z_sm X C (e == 1) part (z_its C q) := by
  rw [z_su_c hR, if_pos ⟨he, h0⟩, h]
theorem z_su_e {X : z_X} {C : Nat → Int32} {R : List (Nat × Nat)} {r e part : Int32} (h0 : ¬ e = 0) (h1 : ¬ e = 1) : z_su X C R r e part = 0 := by
  unfold z_su
  rw [if_neg (fun z => z.2.1.elim h0 h1)]
set_option maxHeartbeats 4000000 in
set_option maxRecDepth 100000 in
theorem l_limitX (G : x_G) {C : Nat → Int32} {h : x_H} {bk : Nat} {rs : List Nat} {R : List (Nat × Nat)} {es : List Nat} {E : List Int32} (hb : y_bk C h bk rs R es E) (hR : ∀ q ∈ R, v_ru C q) {V : Nat → Int32} (hV : y_V h rs V) {ca : Nat} (hk : k_P h ca) (hbk : x_fr h 906 ca = some bk) {act : Int32} (ha : x_fi h 106 bk = act) (c : Int32) (Q : Option x_V → x_H → Prop) : ∀ (n j : Nat) (v : Int64), rs.length - j = n → (v = -1 ∨ 0 ≤ v) → Q (some (x_l (z_lrs C act c (R.drop j) v))) h → x_E G mX9_limit (x_D G mX9_limit h Q) h 13 [(0, x_r (some ca)), (1, x_i c), (2, x_l v), (4, x_r (rs[j]?))] [] h := by
  intro n
  induction n with
  | zero =>
    intro j v hj hv hQ
    have hn0 : rs[j]? = none := List.getElem?_eq_none (by omega)
    rw [hn0]
    have hjR : R.length ≤ j := by rw [← hb.2.2.2.2.2.2.2.1.1]; omega
    refine x_aload (i := 4) (o := none) dX9_limit_13 rfl ?_
    refine x_ifnull (o := none) (tgt := 85) dX9_limit_15 (by decide) (fun _ => ?_) (fun _ c => absurd c (by simp))
    refine x_lload_n (i := 2) (x := v) dX9_limit_85 rfl rfl ?_
    refine x_lreturn dX9_limit_86 rfl ⟨Nat.le_refl _, Nat.le_refl _⟩ ?_
    rw [List.drop_of_length_le hjR] at hQ
    exact hQ
  | succ n ih =>
    intro j v hj hv hQ
    rcases hb.nx j with ⟨hn0, hd0⟩ | ⟨r, q, hrj, hqj, hru, hnx, hjl⟩
    · have := List.getElem?_eq_none_iff.mp hn0
      omega
    · rw [hrj]
      have hjR : j < R.length := by rw [← hb.2.2.2.2.2.2.2.1.1]; exact hjl
      refine x_aload (i := 4) (o := some r) dX9_limit_13 rfl ?_
      refine x_ifnull (o := some r) (tgt := 85) dX9_limit_15 (by decide) (fun c => absurd c (by simp)) (fun _ _ => ?_)
      refine x_aload (i := 4) (o := some r) dX9_limit_18 rfl ?_
      refine x_getIv (v := nI q.2) dX9_limit_20 fX9_limit_138 (i := 603) rfl rfl hru.1 (hru.2.2.2.2.1) ?_
      refine x_aload_n (i := 0) (o := some ca) dX9_limit_23 rfl rfl ?_
      refine x_getRv (v := some bk) dX9_limit_24 fX9_limit_40 (i := 906) rfl rfl (by first | exact hk.1 | (simp only [x_kd_sI, x_kd_sA, x_kd_sJ, x_kd_sR, x_fr_sI, x_fr_sA, x_fr_sJ, x_ln_sI, x_ln_sA, x_ln_sJ]; exact hk.1)) (hbk) ?_
      refine x_getIv (v := act) dX9_limit_27 fX9_limit_141 (i := 106) rfl rfl hb.1.2 (ha) ?_
      refine x_icmp_ne (tgt := 75) dX9_limit_30 (by decide) (fun c30 => ?_) (fun c30 => ?_)
      · skip
        refine x_aload (i := 4) (o := some r) dX9_limit_75 rfl ?_
        refine x_getRv (v := rs[j + 1]?) dX9_limit_77 fX9_limit_107 (i := 606) rfl rfl hru.1 (hnx) ?_
        refine x_astore (i := 4) (lv' := [(0, x_r (some ca)), (1, x_i c), (2, x_l v), (4, x_r (rs[j + 1]?))]) dX9_limit_80 (by decide) rfl ?_
        refine x_goto (tgt := 13) dX9_limit_82 (by decide) ?_
        show x_E _ _ _ _ 13 _ _ _
        rw [y_dropR hqj, show z_lrs C act c (q :: R.drop (j + 1)) v = z_lrs C act c (R.drop (j + 1)) (if nI q.2 = act ∧ C (q.1 + 1) = c then z_lis C (z_its C q) v else v) from rfl] at hQ
        rw [if_neg (fun z => c30 z.1)] at hQ
        exact ih (j + 1) v (by omega) hv hQ
      · skip
        refine x_aload (i := 4) (o := some r) dX9_limit_33 rfl ?_
        refine x_getIv (v := C (q.1 + 1)) dX9_limit_35 fX9_limit_102 (i := 600) rfl rfl hru.1 (hru.2.1) ?_
        refine x_iload_n (i := 1) (x := c) dX9_limit_38 rfl rfl ?_
        refine x_icmp_ne (tgt := 75) dX9_limit_39 (by decide) (fun c39 => ?_) (fun c39 => ?_)
        · skip
          refine x_aload (i := 4) (o := some r) dX9_limit_75 rfl ?_
          refine x_getRv (v := rs[j + 1]?) dX9_limit_77 fX9_limit_107 (i := 606) rfl rfl hru.1 (hnx) ?_
          refine x_astore (i := 4) (lv' := [(0, x_r (some ca)), (1, x_i c), (2, x_l v), (4, x_r (rs[j + 1]?))]) dX9_limit_80 (by decide) rfl ?_
          refine x_goto (tgt := 13) dX9_limit_82 (by decide) ?_
          show x_E _ _ _ _ 13 _ _ _
          rw [y_dropR hqj, show z_lrs C act c (q :: R.drop (j + 1)) v = z_lrs C act c (R.drop (j + 1)) (if nI q.2 = act ∧ C (q.1 + 1) = c then z_lis C (z_its C q) v else v) from rfl] at hQ
          rw [if_neg (fun z => c39 z.2)] at hQ
          exact ih (j + 1) v (by omega) hv hQ
        · skip
          refine x_aload (i := 4) (o := some r) dX9_limit_42 rfl ?_
          obtain ⟨ts, hts, h7⟩ := hru.2.2.2.2.2.2
          rw [List.head?_eq_getElem?] at h7
          refine x_callV (a := r) (av := []) (rest := []) (r := (some (x_i (z_los C (z_its C q) (-1))))) (h1 := h) dX9_limit_44 sX9_limit_144 hru.1 rfl rfl (Nat.le_of_ble_eq_true rfl) ⟨Nat.le_refl _, Nat.le_refl _⟩ (c_leastOver G hts ((hR q (List.mem_of_getElem? hqj)).2.2) hru.1 h7) ?_
          show x_E _ _ _ _ 47 _ [x_i (z_los C (z_its C q) (-1))] _
          refine x_istore (i := 5) (lv' := [(0, x_r (some ca)), (1, x_i c), (2, x_l v), (4, x_r (some r)), (5, x_i (z_los C (z_its C q) (-1)))]) dX9_limit_47 (by decide) rfl ?_
          refine x_iload (i := 5) (x := z_los C (z_its C q) (-1)) dX9_limit_49 rfl ?_
          refine x_iconst (v := (-1)) dX9_limit_51 (by decide) ?_
          refine x_icmp_eq (tgt := 75) dX9_limit_52 (by decide) (fun c52 => ?_) (fun c52 => ?_)
          · skip
            refine x_aload (i := 4) (o := some r) dX9_limit_75 rfl ?_
            refine x_getRv (v := rs[j + 1]?) dX9_limit_77 fX9_limit_107 (i := 606) rfl rfl hru.1 (hnx) ?_
            refine x_astore (i := 4) (lv' := [(0, x_r (some ca)), (1, x_i c), (2, x_l v), (4, x_r (rs[j + 1]?)), (5, x_i (z_los C (z_its C q) (-1)))]) dX9_limit_80 (by decide) rfl ?_
            refine x_goto (tgt := 13) dX9_limit_82 (by decide) ?_
            show x_E _ _ _ _ 13 _ _ _
            rw [y_dropR hqj, show z_lrs C act c (q :: R.drop (j + 1)) v = z_lrs C act c (R.drop (j + 1)) (if nI q.2 = act ∧ C (q.1 + 1) = c then z_lis C (z_its C q) v else v) from rfl] at hQ
            rw [if_pos ⟨c30, c39⟩, z_lis_1] at hQ
            refine x_drop [0, 1, 2, 3] rfl ?_
            rw [c52, show z_lm v (-1) = v from if_neg (fun z => absurd z.1 (by decide))] at hQ
            exact ih (j + 1) v (by omega) hv hQ
          · skip
            refine x_lload_n (i := 2) (x := v) dX9_limit_55 rfl rfl ?_
            refine x_ldc2 (v := (-1)) dX9_limit_56 kX9_limit_136 ?_
            refine x_lcmp dX9_limit_59 ?_
            refine x_if_eq (tgt := 71) dX9_limit_60 (by decide) (fun c60 => ?_) (fun c60 => ?_)
            · skip
              refine x_iload (i := 5) (x := z_los C (z_its C q) (-1)) dX9_limit_71 rfl ?_
              refine x_i2l dX9_limit_73 ?_
              refine x_lstore_n (i := 2) (lv' := [(0, x_r (some ca)), (1, x_i c), (2, x_l (Int32.toInt64 (z_los C (z_its C q) (-1)))), (4, x_r (some r)), (5, x_i (z_los C (z_its C q) (-1)))]) dX9_limit_74 rfl (by decide) rfl ?_
              refine x_aload (i := 4) (o := some r) dX9_limit_75 rfl ?_
              refine x_getRv (v := rs[j + 1]?) dX9_limit_77 fX9_limit_107 (i := 606) rfl rfl hru.1 (hnx) ?_
              refine x_astore (i := 4) (lv' := [(0, x_r (some ca)), (1, x_i c), (2, x_l (Int32.toInt64 (z_los C (z_its C q) (-1)))), (4, x_r (rs[j + 1]?)), (5, x_i (z_los C (z_its C q) (-1)))]) dX9_limit_80 (by decide) rfl ?_
              refine x_goto (tgt := 13) dX9_limit_82 (by decide) ?_
              show x_E _ _ _ _ 13 _ _ _
              rw [y_dropR hqj, show z_lrs C act c (q :: R.drop (j + 1)) v = z_lrs C act c (R.drop (j + 1)) (if nI q.2 = act ∧ C (q.1 + 1) = c then z_lis C (z_its C q) v else v) from rfl] at hQ
              rw [if_pos ⟨c30, c39⟩, z_lis_1] at hQ
              refine x_drop [0, 1, 2, 3] rfl ?_
              have hu0 : 0 ≤ z_los C (z_its C q) (-1) := (z_los_ok (Or.inl rfl)).resolve_left c52
              have hv0 : v < 0 := by rw [(lg_cmp_0 _ _).mp c60]; decide
              have e1 : z_lm v (z_los C (z_its C q) (-1)) = (z_los C (z_its C q) (-1)).toInt64 := if_pos ⟨hu0, Or.inl hv0⟩
              have hv2 := z_lm_ok (u := z_los C (z_its C q) (-1)) hv
              rw [e1] at hQ hv2
              exact ih (j + 1) _ (by omega) hv2 hQ
            · skip
              refine x_iload (i := 5) (x := z_los C (z_its C q) (-1)) dX9_limit_63 rfl ?_
              refine x_i2l dX9_limit_65 ?_
              refine x_lload_n (i := 2) (x := v) dX9_limit_66 rfl rfl ?_
              refine x_lcmp dX9_limit_67 ?_
              refine x_if_ge (tgt := 75) dX9_limit_68 (by decide) (fun c68 => ?_) (fun c68 => ?_)
              · skip
                refine x_aload (i := 4) (o := some r) dX9_limit_75 rfl ?_
                refine x_getRv (v := rs[j + 1]?) dX9_limit_77 fX9_limit_107 (i := 606) rfl rfl hru.1 (hnx) ?_
                refine x_astore (i := 4) (lv' := [(0, x_r (some ca)), (1, x_i c), (2, x_l v), (4, x_r (rs[j + 1]?)), (5, x_i (z_los C (z_its C q) (-1)))]) dX9_limit_80 (by decide) rfl ?_
                refine x_goto (tgt := 13) dX9_limit_82 (by decide) ?_
                show x_E _ _ _ _ 13 _ _ _
                rw [y_dropR hqj, show z_lrs C act c (q :: R.drop (j + 1)) v = z_lrs C act c (R.drop (j + 1)) (if nI q.2 = act ∧ C (q.1 + 1) = c then z_lis C (z_its C q) v else v) from rfl] at hQ
                rw [if_pos ⟨c30, c39⟩, z_lis_1] at hQ
                refine x_drop [0, 1, 2, 3] rfl ?_
                have hu0 : 0 ≤ z_los C (z_its C q) (-1) := (z_los_ok (Or.inl rfl)).resolve_left c52
                have hv0 : 0 ≤ v := hv.resolve_left (fun z => c60 ((lg_cmp_0 _ _).mpr z))
                have e1 : z_lm v (z_los C (z_its C q) (-1)) = v := if_neg (fun z => z.2.elim (fun y => absurd hv0 (Int64.not_le.mpr y)) (fun y => absurd y (Int64.not_lt.mpr ((lg_cmp_ge _ _).mp c68))))
                have hv2 := z_lm_ok (u := z_los C (z_its C q) (-1)) hv
                rw [e1] at hQ hv2
                exact ih (j + 1) _ (by omega) hv2 hQ
              · skip
                refine x_iload (i := 5) (x := z_los C (z_its C q) (-1)) dX9_limit_71 rfl ?_
                refine x_i2l dX9_limit_73 ?_
                refine x_lstore_n (i := 2) (lv' := [(0, x_r (some ca)), (1, x_i c), (2, x_l (Int32.toInt64 (z_los C (z_its C q) (-1)))), (4, x_r (some r)), (5, x_i (z_los C (z_its C q) (-1)))]) dX9_limit_74 rfl (by decide) rfl ?_
                refine x_aload (i := 4) (o := some r) dX9_limit_75 rfl ?_
                refine x_getRv (v := rs[j + 1]?) dX9_limit_77 fX9_limit_107 (i := 606) rfl rfl hru.1 (hnx) ?_
                refine x_astore (i := 4) (lv' := [(0, x_r (some ca)), (1, x_i c), (2, x_l (Int32.toInt64 (z_los C (z_its C q) (-1)))), (4, x_r (rs[j + 1]?)), (5, x_i (z_los C (z_its C q) (-1)))]) dX9_limit_80 (by decide) rfl ?_
                refine x_goto (tgt := 13) dX9_limit_82 (by decide) ?_
                show x_E _ _ _ _ 13 _ _ _
                rw [y_dropR hqj, show z_lrs C act c (q :: R.drop (j + 1)) v = z_lrs C act c (R.drop (j + 1)) (if nI q.2 = act ∧ C (q.1 + 1) = c then z_lis C (z_its C q) v else v) from rfl] at hQ
                rw [if_pos ⟨c30, c39⟩, z_lis_1] at hQ
                refine x_drop [0, 1, 2, 3] rfl ?_
                have hu0 : 0 ≤ z_los C (z_its C q) (-1) := (z_los_ok (Or.inl rfl)).resolve_left c52
                have e1 : z_lm v (z_los C (z_its C q) (-1)) = (z_los C (z_its C q) (-1)).toInt64 := if_pos ⟨hu0, Or.inr (Int64.not_le.mp fun z => c68 ((lg_cmp_ge _ _).mpr z))⟩
                have hv2 := z_lm_ok (u := z_los C (z_its C q) (-1)) hv
                rw [e1] at hQ hv2
                exact ih (j + 1) _ (by omega) hv2 hQ
set_option maxHeartbeats 4000000 in
set_option maxRecDepth 100000 in
theorem c_limitX (G : x_G) {C : Nat → Int32} {h : x_H} {bk : Nat} {rs : List Nat} {R : List (Nat × Nat)} {es : List Nat} {E : List Int32} (hb : y_bk C h bk rs R es E) (hR : ∀ q ∈ R, v_ru C q) {V : Nat → Int32} (hV : y_V h rs V) {ca : Nat} (hk : k_P h ca) (hbk : x_fr h 906 ca = some bk) {act : Int32} (ha : x_fi h 106 bk = act) (c : Int32) : x_Call G mX9_limit h [x_r (some ca), x_i c] (some (x_l (z_lrs C act c R (-1)))) h := by
  refine x_Ex.call (x_enter mwX9_limit (Nat.le_of_ble_eq_true rfl) ?_)
  show x_E _ _ _ _ _ [(0, x_r (some ca)), (1, x_i c)] _ _
  refine x_ldc2 (v := (-1)) dX9_limit_0 kX9_limit_136 ?_
  refine x_lstore_n (i := 2) (lv' := [(0, x_r (some ca)), (1, x_i c), (2, x_l ((-1)))]) dX9_limit_3 rfl (by decide) rfl ?_
  refine x_aload_n (i := 0) (o := some ca) dX9_limit_4 rfl rfl ?_
  refine x_getRv (v := some bk) dX9_limit_5 fX9_limit_40 (i := 906) rfl rfl (by first | exact hk.1 | (simp only [x_kd_sI, x_kd_sA, x_kd_sJ, x_kd_sR, x_fr_sI, x_fr_sA, x_fr_sJ, x_ln_sI, x_ln_sA, x_ln_sJ]; exact hk.1)) (hbk) ?_
  refine x_getRv (v := rs[0]?) dX9_limit_8 fX9_limit_94 (i := 100) rfl rfl hb.1.2 (hb.f0) ?_
  refine x_astore (i := 4) (lv' := [(0, x_r (some ca)), (1, x_i c), (2, x_l ((-1))), (4, x_r (rs[0]?))]) dX9_limit_11 (by decide) rfl ?_
  show x_E _ _ _ _ 13 _ _ _
  exact l_limitX G hb hR hV hk hbk ha c _ _ 0 _ rfl (Or.inl rfl) ⟨by rw [List.drop_zero], rfl⟩
set_option maxHeartbeats 4000000 in
set_option maxRecDepth 100000 in
theorem c_sumX (G : x_G) {C : Nat → Int32} {h : x_H} {bk : Nat} {rs : List Nat} {R : List (Nat × Nat)} {es : List Nat} {E : List Int32} (hb : y_bk C h bk rs R es E) (hR : ∀ q ∈ R, v_ru C q) {ca : Nat} (hk : k_P h ca) (hbk : x_fr h 906 ca = some bk) {X : z_X} (hX : f_X h (ca + 5) X) (h60 : R.length ≤ 60) (rr e part : Int32) : x_Call G mX9_sum h [x_r (some ca), x_i rr, x_i e, x_i part] (some (x_l (z_su X C R rr e part))) h := by
  refine x_Ex.call (x_enter mwX9_sum (Nat.le_of_ble_eq_true rfl) ?_)
  show x_E _ _ _ _ _ [(0, x_r (some ca)), (1, x_i rr), (2, x_i e), (3, x_i part)] _ _
  by_cases e0 : e = 0
  · subst e0
    refine x_iload_n (i := 2) (x := 0) dX9_sum_0 rfl rfl ?_
    refine x_if_eq (tgt := 11) dX9_sum_1 (by decide) (fun _ => ?_) (fun c => absurd (by decide) c)
    refine x_aload_n (i := 0) (o := some ca) dX9_sum_11 rfl rfl ?_
    refine x_getRv (v := some bk) dX9_sum_12 fX9_sum_40 (i := 906) rfl rfl (by first | exact hk.1 | (simp only [x_kd_sI, x_kd_sA, x_kd_sJ, x_kd_sR, x_fr_sI, x_fr_sA, x_fr_sJ, x_ln_sI, x_ln_sA, x_ln_sJ]; exact hk.1)) (hbk) ?_
    refine x_iload_n (i := 1) (x := rr) dX9_sum_15 rfl rfl ?_
    rcases z_ta_rs hb.2.2.2.2.2.2.2.1.1 h60 rr with ⟨hs, hn⟩ | ⟨ra, q, h0, hs, hri, hqi⟩
    · skip
      refine x_callV (a := bk) (av := [x_i rr]) (rest := []) (r := (some (x_r none))) (h1 := h) dX9_sum_16 sX9_sum_148 hb.1.2 rfl rfl (Nat.le_of_ble_eq_true rfl) ⟨Nat.le_refl _, Nat.le_refl _⟩ (by have k := c_ruleAt G hb rr; rw [hs] at k; exact k) ?_
      show x_E _ _ _ _ 19 _ [x_r none] _
      refine x_astore (i := 4) (lv' := [(0, x_r (some ca)), (1, x_i rr), (2, x_i 0), (3, x_i part), (4, x_r none)]) dX9_sum_19 (by decide) rfl ?_
      refine x_aload (i := 4) (o := none) dX9_sum_21 rfl ?_
      refine x_ifnonnull (o := none) (tgt := 30) dX9_sum_23 (by decide) (fun _ c => absurd c (by simp)) (fun _ => ?_)
      refine x_null dX9_sum_26 ?_
      refine x_goto (tgt := 35) dX9_sum_27 (by decide) ?_
      refine x_astore (i := 5) (lv' := [(0, x_r (some ca)), (1, x_i rr), (2, x_i 0), (3, x_i part), (4, x_r none), (5, x_r none)]) dX9_sum_35 (by decide) rfl ?_
      refine x_aload (i := 5) (o := none) dX9_sum_37 rfl ?_
      refine x_ifnull (o := none) (tgt := 55) dX9_sum_39 (by decide) (fun _ => ?_) (fun _ c => absurd c (by simp))
      refine x_lconst (v := 0) dX9_sum_55 (by decide) ?_
      refine x_lreturn dX9_sum_56 rfl ⟨Nat.le_refl _, Nat.le_refl _⟩ ?_
      exact ⟨by rw [z_su_n hn], rfl⟩
    · skip
      have hru := hb.2.2.2.2.2.2.2.1.2.2.2 _ ra q hri hqi
      obtain ⟨ts, hts, h7⟩ := hru.2.2.2.2.2.2
      rw [List.head?_eq_getElem?] at h7
      have hvq := (hR q (List.mem_of_getElem? hqi)).2.2
      refine x_callV (a := bk) (av := [x_i rr]) (rest := []) (r := (some (x_r (some ra)))) (h1 := h) dX9_sum_16 sX9_sum_148 hb.1.2 rfl rfl (Nat.le_of_ble_eq_true rfl) ⟨Nat.le_refl _, Nat.le_refl _⟩ (by have k := c_ruleAt G hb rr; rw [hs] at k; exact k) ?_
      show x_E _ _ _ _ 19 _ [x_r (some ra)] _
      refine x_astore (i := 4) (lv' := [(0, x_r (some ca)), (1, x_i rr), (2, x_i 0), (3, x_i part), (4, x_r (some ra))]) dX9_sum_19 (by decide) rfl ?_
      refine x_aload (i := 4) (o := some ra) dX9_sum_21 rfl ?_
      refine x_ifnonnull (o := some ra) (tgt := 30) dX9_sum_23 (by decide) (fun _ _ => ?_) (fun c => absurd c (by simp))
      refine x_aload (i := 4) (o := some ra) dX9_sum_30 rfl ?_
      obtain ⟨_, hq2, ⟨hh2, (⟨rfl, hf⟩ | ⟨t, p, rfl, hf, hit, hpm⟩)⟩, hca⟩ := c_firstSum G hts hvq hru.1 h7
      · skip
        rw [hh2] at hca
        refine x_callV (a := ra) (av := []) (rest := []) (r := (some (x_r none))) (h1 := h) dX9_sum_32 sX9_sum_151 hru.1 rfl rfl (Nat.le_of_ble_eq_true rfl) ⟨Nat.le_refl _, Nat.le_refl _⟩ (hca) ?_
        show x_E _ _ _ _ 35 _ [x_r none] _
        refine x_astore (i := 5) (lv' := [(0, x_r (some ca)), (1, x_i rr), (2, x_i 0), (3, x_i part), (4, x_r (some ra)), (5, x_r none)]) dX9_sum_35 (by decide) rfl ?_
        refine x_aload (i := 5) (o := none) dX9_sum_37 rfl ?_
        refine x_ifnull (o := none) (tgt := 55) dX9_sum_39 (by decide) (fun _ => ?_) (fun _ c => absurd c (by simp))
        refine x_lconst (v := 0) dX9_sum_55 (by decide) ?_
        refine x_lreturn dX9_sum_56 rfl ⟨Nat.le_refl _, Nat.le_refl _⟩ ?_
        refine ⟨?_, rfl⟩
        rw [z_su_s hR (Or.inl rfl) h0 hqi, show ((0 : Int32) == 1) = false from rfl]
        unfold z_sm
        rw [hf]
      · skip
        rw [hh2] at hca
        have hp11 : C p = -11 := by simpa using List.find?_some hf
        obtain ⟨b, hqs⟩ : ∃ b, q_sum C 1501 (p + 1) = (true, b) := by
          rcases hvq p hpm with z | z | z
          · rw [hp11] at z
            exact absurd z.1 (by decide)
          · rw [hp11] at z
            exact absurd z.1 (by decide)
          · exact z.2
        have hL2 := z_sum_tk hqs
        obtain ⟨-, -, ts2, hts2, h52⟩ := hit.2.2.2.2 hp11
        rw [List.head?_eq_getElem?] at h52
        refine x_callV (a := ra) (av := []) (rest := []) (r := (some (x_r (some t)))) (h1 := h) dX9_sum_32 sX9_sum_151 hru.1 rfl rfl (Nat.le_of_ble_eq_true rfl) ⟨Nat.le_refl _, Nat.le_refl _⟩ (hca) ?_
        show x_E _ _ _ _ 35 _ [x_r (some t)] _
        refine x_astore (i := 5) (lv' := [(0, x_r (some ca)), (1, x_i rr), (2, x_i 0), (3, x_i part), (4, x_r (some ra)), (5, x_r (some t))]) dX9_sum_35 (by decide) rfl ?_
        refine x_aload (i := 5) (o := some t) dX9_sum_37 rfl ?_
        refine x_ifnull (o := some t) (tgt := 55) dX9_sum_39 (by decide) (fun c => absurd c (by simp)) (fun _ _ => ?_)
        refine x_aload_n (i := 0) (o := some ca) dX9_sum_42 rfl rfl ?_
        refine x_getRv (v := some (ca + 5)) dX9_sum_43 fX9_sum_33 (i := 905) rfl rfl (by first | exact hk.1 | (simp only [x_kd_sI, x_kd_sA, x_kd_sJ, x_kd_sR, x_fr_sI, x_fr_sA, x_fr_sJ, x_ln_sI, x_ln_sA, x_ln_sJ]; exact hk.1)) ((by first | exact hk.2.2.2.2.2.1 | (simp only [x_kd_sI, x_kd_sA, x_kd_sJ, x_kd_sR, x_fr_sI, x_fr_sA, x_fr_sJ, x_ln_sI, x_ln_sA, x_ln_sJ]; exact hk.2.2.2.2.2.1))) ?_
        refine x_aload (i := 5) (o := some t) dX9_sum_46 rfl ?_
        refine x_callV (a := ca + 5) (av := [x_r (some t)]) (rest := []) (r := (some (x_i (z_lks X C (z_tms C 1501 (p + 1)) (-1))))) (h1 := h) dX9_sum_48 sX9_sum_155 (by first | exact hk.2.2.2.2.2.2.1 | (simp only [x_kd_sI, x_kd_sA, x_kd_sJ, x_kd_sR, x_fr_sI, x_fr_sA, x_fr_sJ, x_ln_sI, x_ln_sA, x_ln_sJ]; exact hk.2.2.2.2.2.2.1)) rfl rfl (Nat.le_of_ble_eq_true rfl) ⟨Nat.le_refl _, Nat.le_refl _⟩ (c_lackOf G hk.2.2.2.2.2.2 hX hts2 hL2 hit.1 h52) ?_
        show x_E _ _ _ _ 51 _ [x_i (z_lks X C (z_tms C 1501 (p + 1)) (-1))] _
        refine x_iconst (v := (-1)) dX9_sum_51 (by decide) ?_
        refine x_icmp_eq (tgt := 57) dX9_sum_52 (by decide) (fun c52 => ?_) (fun c52 => ?_)
        · skip
          refine x_aload_n (i := 0) (o := some ca) dX9_sum_57 rfl rfl ?_
          refine x_getRv (v := some (ca + 5)) dX9_sum_58 fX9_sum_33 (i := 905) rfl rfl (by first | exact hk.1 | (simp only [x_kd_sI, x_kd_sA, x_kd_sJ, x_kd_sR, x_fr_sI, x_fr_sA, x_fr_sJ, x_ln_sI, x_ln_sA, x_ln_sJ]; exact hk.1)) ((by first | exact hk.2.2.2.2.2.1 | (simp only [x_kd_sI, x_kd_sA, x_kd_sJ, x_kd_sR, x_fr_sI, x_fr_sA, x_fr_sJ, x_ln_sI, x_ln_sA, x_ln_sJ]; exact hk.2.2.2.2.2.1))) ?_
          refine x_aload (i := 5) (o := some t) dX9_sum_61 rfl ?_
          refine x_iload_n (i := 2) (x := 0) dX9_sum_63 rfl rfl ?_
          refine x_iconst (v := 1) dX9_sum_64 (by decide) ?_
          refine x_icmp_ne (tgt := 72) dX9_sum_65 (by decide) (fun _ => ?_) (fun c => absurd c (by decide))
          refine x_iconst (v := 0) dX9_sum_72 (by decide) ?_
          refine x_iload_n (i := 3) (x := part) dX9_sum_73 rfl rfl ?_
          refine x_callV (a := ca + 5) (av := [x_r (some t), x_i 0, x_i part]) (rest := []) (r := (some (x_l (z_tot X C false part (z_tms C 1501 (p + 1)) 0)))) (h1 := h) dX9_sum_74 sX9_sum_159 (by first | exact hk.2.2.2.2.2.2.1 | (simp only [x_kd_sI, x_kd_sA, x_kd_sJ, x_kd_sR, x_fr_sI, x_fr_sA, x_fr_sJ, x_ln_sI, x_ln_sA, x_ln_sJ]; exact hk.2.2.2.2.2.2.1)) rfl rfl (Nat.le_of_ble_eq_true rfl) ⟨Nat.le_refl _, Nat.le_refl _⟩ (c_sumAt G hk.2.2.2.2.2.2 hX hts2 hL2 hit.1 h52 false part) ?_
          show x_E _ _ _ _ 77 _ [x_l (z_tot X C false part (z_tms C 1501 (p + 1)) 0)] _
          refine x_lreturn dX9_sum_77 rfl ⟨Nat.le_refl _, Nat.le_refl _⟩ ?_
          refine ⟨?_, rfl⟩
          rw [z_su_s hR (Or.inl rfl) h0 hqi, show ((0 : Int32) == 1) = false from rfl]
          unfold z_sm
          rw [hf]
          show _ = some (x_l (if z_lks X C (z_tms C 1501 (p + 1)) (-1) = -1 then z_tot X C false part (z_tms C 1501 (p + 1)) 0 else 0))
          rw [if_pos c52]
        · skip
          refine x_lconst (v := 0) dX9_sum_55 (by decide) ?_
          refine x_lreturn dX9_sum_56 rfl ⟨Nat.le_refl _, Nat.le_refl _⟩ ?_
          refine ⟨?_, rfl⟩
          rw [z_su_s hR (Or.inl rfl) h0 hqi, show ((0 : Int32) == 1) = false from rfl]
          unfold z_sm
          rw [hf]
          show _ = some (x_l (if z_lks X C (z_tms C 1501 (p + 1)) (-1) = -1 then z_tot X C false part (z_tms C 1501 (p + 1)) 0 else 0))
          rw [if_neg c52]
  by_cases e1 : e = 1
  · subst e1
    refine x_iload_n (i := 2) (x := 1) dX9_sum_0 rfl rfl ?_
    refine x_if_eq (tgt := 11) dX9_sum_1 (by decide) (fun c => absurd c (by decide)) (fun _ => ?_)
    refine x_iload_n (i := 2) (x := 1) dX9_sum_4 rfl rfl ?_
    refine x_iconst (v := 1) dX9_sum_5 (by decide) ?_
    refine x_icmp_eq (tgt := 11) dX9_sum_6 (by decide) (fun _ => ?_) (fun c => absurd (by decide) c)
    refine x_aload_n (i := 0) (o := some ca) dX9_sum_11 rfl rfl ?_
    refine x_getRv (v := some bk) dX9_sum_12 fX9_sum_40 (i := 906) rfl rfl (by first | exact hk.1 | (simp only [x_kd_sI, x_kd_sA, x_kd_sJ, x_kd_sR, x_fr_sI, x_fr_sA, x_fr_sJ, x_ln_sI, x_ln_sA, x_ln_sJ]; exact hk.1)) (hbk) ?_
    refine x_iload_n (i := 1) (x := rr) dX9_sum_15 rfl rfl ?_
    rcases z_ta_rs hb.2.2.2.2.2.2.2.1.1 h60 rr with ⟨hs, hn⟩ | ⟨ra, q, h0, hs, hri, hqi⟩
    · skip
      refine x_callV (a := bk) (av := [x_i rr]) (rest := []) (r := (some (x_r none))) (h1 := h) dX9_sum_16 sX9_sum_148 hb.1.2 rfl rfl (Nat.le_of_ble_eq_true rfl) ⟨Nat.le_refl _, Nat.le_refl _⟩ (by have k := c_ruleAt G hb rr; rw [hs] at k; exact k) ?_
      show x_E _ _ _ _ 19 _ [x_r none] _
      refine x_astore (i := 4) (lv' := [(0, x_r (some ca)), (1, x_i rr), (2, x_i 1), (3, x_i part), (4, x_r none)]) dX9_sum_19 (by decide) rfl ?_
      refine x_aload (i := 4) (o := none) dX9_sum_21 rfl ?_
      refine x_ifnonnull (o := none) (tgt := 30) dX9_sum_23 (by decide) (fun _ c => absurd c (by simp)) (fun _ => ?_)
      refine x_null dX9_sum_26 ?_
      refine x_goto (tgt := 35) dX9_sum_27 (by decide) ?_
      refine x_astore (i := 5) (lv' := [(0, x_r (some ca)), (1, x_i rr), (2, x_i 1), (3, x_i part), (4, x_r none), (5, x_r none)]) dX9_sum_35 (by decide) rfl ?_
      refine x_aload (i := 5) (o := none) dX9_sum_37 rfl ?_
      refine x_ifnull (o := none) (tgt := 55) dX9_sum_39 (by decide) (fun _ => ?_) (fun _ c => absurd c (by simp))
      refine x_lconst (v := 0) dX9_sum_55 (by decide) ?_
      refine x_lreturn dX9_sum_56 rfl ⟨Nat.le_refl _, Nat.le_refl _⟩ ?_
      exact ⟨by rw [z_su_n hn], rfl⟩
    · skip
      have hru := hb.2.2.2.2.2.2.2.1.2.2.2 _ ra q hri hqi
      obtain ⟨ts, hts, h7⟩ := hru.2.2.2.2.2.2
      rw [List.head?_eq_getElem?] at h7
      have hvq := (hR q (List.mem_of_getElem? hqi)).2.2
      refine x_callV (a := bk) (av := [x_i rr]) (rest := []) (r := (some (x_r (some ra)))) (h1 := h) dX9_sum_16 sX9_sum_148 hb.1.2 rfl rfl (Nat.le_of_ble_eq_true rfl) ⟨Nat.le_refl _, Nat.le_refl _⟩ (by have k := c_ruleAt G hb rr; rw [hs] at k; exact k) ?_
      show x_E _ _ _ _ 19 _ [x_r (some ra)] _
      refine x_astore (i := 4) (lv' := [(0, x_r (some ca)), (1, x_i rr), (2, x_i 1), (3, x_i part), (4, x_r (some ra))]) dX9_sum_19 (by decide) rfl ?_
      refine x_aload (i := 4) (o := some ra) dX9_sum_21 rfl ?_
      refine x_ifnonnull (o := some ra) (tgt := 30) dX9_sum_23 (by decide) (fun _ _ => ?_) (fun c => absurd c (by simp))
      refine x_aload (i := 4) (o := some ra) dX9_sum_30 rfl ?_
      obtain ⟨_, hq2, ⟨hh2, (⟨rfl, hf⟩ | ⟨t, p, rfl, hf, hit, hpm⟩)⟩, hca⟩ := c_firstSum G hts hvq hru.1 h7
      · skip
        rw [hh2] at hca
        refine x_callV (a := ra) (av := []) (rest := []) (r := (some (x_r none))) (h1 := h) dX9_sum_32 sX9_sum_151 hru.1 rfl rfl (Nat.le_of_ble_eq_true rfl) ⟨Nat.le_refl _, Nat.le_refl _⟩ (hca) ?_
        show x_E _ _ _ _ 35 _ [x_r none] _
        refine x_astore (i := 5) (lv' := [(0, x_r (some ca)), (1, x_i rr), (2, x_i 1), (3, x_i part), (4, x_r (some ra)), (5, x_r none)]) dX9_sum_35 (by decide) rfl ?_
        refine x_aload (i := 5) (o := none) dX9_sum_37 rfl ?_
        refine x_ifnull (o := none) (tgt := 55) dX9_sum_39 (by decide) (fun _ => ?_) (fun _ c => absurd c (by simp))
        refine x_lconst (v := 0) dX9_sum_55 (by decide) ?_
        refine x_lreturn dX9_sum_56 rfl ⟨Nat.le_refl _, Nat.le_refl _⟩ ?_
        refine ⟨?_, rfl⟩
        rw [z_su_s hR (Or.inr rfl) h0 hqi, show ((1 : Int32) == 1) = true from rfl]
        unfold z_sm
        rw [hf]
      · skip
        rw [hh2] at hca
        have hp11 : C p = -11 := by simpa using List.find?_some hf
        obtain ⟨b, hqs⟩ : ∃ b, q_sum C 1501 (p + 1) = (true, b) := by
          rcases hvq p hpm with z | z | z
          · rw [hp11] at z
            exact absurd z.1 (by decide)
          · rw [hp11] at z
            exact absurd z.1 (by decide)
          · exact z.2
        have hL2 := z_sum_tk hqs
        obtain ⟨-, -, ts2, hts2, h52⟩ := hit.2.2.2.2 hp11
        rw [List.head?_eq_getElem?] at h52
        refine x_callV (a := ra) (av := []) (rest := []) (r := (some (x_r (some t)))) (h1 := h) dX9_sum_32 sX9_sum_151 hru.1 rfl rfl (Nat.le_of_ble_eq_true rfl) ⟨Nat.le_refl _, Nat.le_refl _⟩ (hca) ?_
        show x_E _ _ _ _ 35 _ [x_r (some t)] _
        refine x_astore (i := 5) (lv' := [(0, x_r (some ca)), (1, x_i rr), (2, x_i 1), (3, x_i part), (4, x_r (some ra)), (5, x_r (some t))]) dX9_sum_35 (by decide) rfl ?_
        refine x_aload (i := 5) (o := some t) dX9_sum_37 rfl ?_
        refine x_ifnull (o := some t) (tgt := 55) dX9_sum_39 (by decide) (fun c => absurd c (by simp)) (fun _ _ => ?_)
        refine x_aload_n (i := 0) (o := some ca) dX9_sum_42 rfl rfl ?_
        refine x_getRv (v := some (ca + 5)) dX9_sum_43 fX9_sum_33 (i := 905) rfl rfl (by first | exact hk.1 | (simp only [x_kd_sI, x_kd_sA, x_kd_sJ, x_kd_sR, x_fr_sI, x_fr_sA, x_fr_sJ, x_ln_sI, x_ln_sA, x_ln_sJ]; exact hk.1)) ((by first | exact hk.2.2.2.2.2.1 | (simp only [x_kd_sI, x_kd_sA, x_kd_sJ, x_kd_sR, x_fr_sI, x_fr_sA, x_fr_sJ, x_ln_sI, x_ln_sA, x_ln_sJ]; exact hk.2.2.2.2.2.1))) ?_
        refine x_aload (i := 5) (o := some t) dX9_sum_46 rfl ?_
        refine x_callV (a := ca + 5) (av := [x_r (some t)]) (rest := []) (r := (some (x_i (z_lks X C (z_tms C 1501 (p + 1)) (-1))))) (h1 := h) dX9_sum_48 sX9_sum_155 (by first | exact hk.2.2.2.2.2.2.1 | (simp only [x_kd_sI, x_kd_sA, x_kd_sJ, x_kd_sR, x_fr_sI, x_fr_sA, x_fr_sJ, x_ln_sI, x_ln_sA, x_ln_sJ]; exact hk.2.2.2.2.2.2.1)) rfl rfl (Nat.le_of_ble_eq_true rfl) ⟨Nat.le_refl _, Nat.le_refl _⟩ (c_lackOf G hk.2.2.2.2.2.2 hX hts2 hL2 hit.1 h52) ?_
        show x_E _ _ _ _ 51 _ [x_i (z_lks X C (z_tms C 1501 (p + 1)) (-1))] _
        refine x_iconst (v := (-1)) dX9_sum_51 (by decide) ?_
        refine x_icmp_eq (tgt := 57) dX9_sum_52 (by decide) (fun c52 => ?_) (fun c52 => ?_)
        · skip
          refine x_aload_n (i := 0) (o := some ca) dX9_sum_57 rfl rfl ?_
          refine x_getRv (v := some (ca + 5)) dX9_sum_58 fX9_sum_33 (i := 905) rfl rfl (by first | exact hk.1 | (simp only [x_kd_sI, x_kd_sA, x_kd_sJ, x_kd_sR, x_fr_sI, x_fr_sA, x_fr_sJ, x_ln_sI, x_ln_sA, x_ln_sJ]; exact hk.1)) ((by first | exact hk.2.2.2.2.2.1 | (simp only [x_kd_sI, x_kd_sA, x_kd_sJ, x_kd_sR, x_fr_sI, x_fr_sA, x_fr_sJ, x_ln_sI, x_ln_sA, x_ln_sJ]; exact hk.2.2.2.2.2.1))) ?_
          refine x_aload (i := 5) (o := some t) dX9_sum_61 rfl ?_
          refine x_iload_n (i := 2) (x := 1) dX9_sum_63 rfl rfl ?_
          refine x_iconst (v := 1) dX9_sum_64 (by decide) ?_
          refine x_icmp_ne (tgt := 72) dX9_sum_65 (by decide) (fun c => absurd c (by decide)) (fun _ => ?_)
          refine x_iconst (v := 1) dX9_sum_68 (by decide) ?_
          refine x_goto (tgt := 73) dX9_sum_69 (by decide) ?_
          refine x_iload_n (i := 3) (x := part) dX9_sum_73 rfl rfl ?_
          refine x_callV (a := ca + 5) (av := [x_r (some t), x_i 1, x_i part]) (rest := []) (r := (some (x_l (z_tot X C true part (z_tms C 1501 (p + 1)) 0)))) (h1 := h) dX9_sum_74 sX9_sum_159 (by first | exact hk.2.2.2.2.2.2.1 | (simp only [x_kd_sI, x_kd_sA, x_kd_sJ, x_kd_sR, x_fr_sI, x_fr_sA, x_fr_sJ, x_ln_sI, x_ln_sA, x_ln_sJ]; exact hk.2.2.2.2.2.2.1)) rfl rfl (Nat.le_of_ble_eq_true rfl) ⟨Nat.le_refl _, Nat.le_refl _⟩ (c_sumAt G hk.2.2.2.2.2.2 hX hts2 hL2 hit.1 h52 true part) ?_
          show x_E _ _ _ _ 77 _ [x_l (z_tot X C true part (z_tms C 1501 (p + 1)) 0)] _
          refine x_lreturn dX9_sum_77 rfl ⟨Nat.le_refl _, Nat.le_refl _⟩ ?_
          refine ⟨?_, rfl⟩
          rw [z_su_s hR (Or.inr rfl) h0 hqi, show ((1 : Int32) == 1) = true from rfl]
          unfold z_sm
          rw [hf]
          show _ = some (x_l (if z_lks X C (z_tms C 1501 (p + 1)) (-1) = -1 then z_tot X C true part (z_tms C 1501 (p + 1)) 0 else 0))
          rw [if_pos c52]
        · skip
          refine x_lconst (v := 0) dX9_sum_55 (by decide) ?_
          refine x_lreturn dX9_sum_56 rfl ⟨Nat.le_refl _, Nat.le_refl _⟩ ?_
          refine ⟨?_, rfl⟩
          rw [z_su_s hR (Or.inr rfl) h0 hqi, show ((1 : Int32) == 1) = true from rfl]
          unfold z_sm
          rw [hf]
          show _ = some (x_l (if z_lks X C (z_tms C 1501 (p + 1)) (-1) = -1 then z_tot X C true part (z_tms C 1501 (p + 1)) 0 else 0))
          rw [if_neg c52]
  refine x_iload_n (i := 2) (x := e) dX9_sum_0 rfl rfl ?_
  refine x_if_eq (tgt := 11) dX9_sum_1 (by decide) (fun c1 => ?_) (fun c1 => ?_)
  · skip
    exact absurd c1 e0
  · skip
    refine x_iload_n (i := 2) (x := e) dX9_sum_4 rfl rfl ?_
    refine x_iconst (v := 1) dX9_sum_5 (by decide) ?_
    refine x_icmp_eq (tgt := 11) dX9_sum_6 (by decide) (fun c6 => ?_) (fun c6 => ?_)
    · skip
      exact absurd c6 e1
    · skip
      refine x_lconst (v := 0) dX9_sum_9 (by decide) ?_
      refine x_lreturn dX9_sum_10 rfl ⟨Nat.le_refl _, Nat.le_refl _⟩ ?_
      exact ⟨by rw [z_su_e e0 e1], rfl⟩
set_option maxHeartbeats 4000000 in
set_option maxRecDepth 100000 in
theorem c_write_t (G : x_G) {h : x_H} {ca : Nat} (hk : k_P h ca) {K : List Int32} (hn : x_fi h 903 ca = nI K.length) (h3 : K.length ≤ 3000) (hK : ∀ (j : Nat) (x : Int32), K[j]? = some x → x_rw h (ca + 2) j = x) {j : Nat} {x : Int32} (hx : K[j]? = some x) : x_Call G mX9_write h [x_r (some ca), x_i (nI j)] (some (x_i (x &&& 255))) h := by
  have hj : j < K.length := (List.getElem?_eq_some_iff.mp hx).1
  refine x_Ex.call (x_enter mwX9_write (Nat.le_of_ble_eq_true rfl) ?_)
  show x_E _ _ _ _ _ [(0, x_r (some ca)), (1, x_i (nI j))] _ _
  refine x_iload_n (i := 1) (x := nI j) dX9_write_0 rfl rfl ?_
  refine x_if_lt (tgt := 21) dX9_write_1 (by decide) (fun c1 => ?_) (fun c1 => ?_)
  · skip
    exact absurd c1 (nI_pos (by omega))
  · skip
    refine x_iload_n (i := 1) (x := nI j) dX9_write_4 rfl rfl ?_
    refine x_aload_n (i := 0) (o := some ca) dX9_write_5 rfl rfl ?_
    refine x_getIv (v := nI K.length) dX9_write_6 fX9_write_20 (i := 903) rfl rfl (by first | exact hk.1 | (simp only [x_kd_sI, x_kd_sA, x_kd_sJ, x_kd_sR, x_fr_sI, x_fr_sA, x_fr_sJ, x_ln_sI, x_ln_sA, x_ln_sJ]; exact hk.1)) (hn) ?_
    refine x_icmp_ge (tgt := 21) dX9_write_9 (by decide) (fun c9 => ?_) (fun c9 => ?_)
    · skip
      exact absurd ((nI_leI (by omega) (by omega)).mp c9) (by omega)
    · skip
      refine x_iload_n (i := 1) (x := nI j) dX9_write_12 rfl rfl ?_
      refine x_aload_n (i := 0) (o := some ca) dX9_write_13 rfl rfl ?_
      refine x_getRv (v := some (ca + 2)) dX9_write_14 fX9_write_17 (i := 902) rfl rfl (by first | exact hk.1 | (simp only [x_kd_sI, x_kd_sA, x_kd_sJ, x_kd_sR, x_fr_sI, x_fr_sA, x_fr_sJ, x_ln_sI, x_ln_sA, x_ln_sJ]; exact hk.1)) ((by first | exact hk.2.2.1.1 | (simp only [x_kd_sI, x_kd_sA, x_kd_sJ, x_kd_sR, x_fr_sI, x_fr_sA, x_fr_sJ, x_ln_sI, x_ln_sA, x_ln_sJ]; exact hk.2.2.1.1))) ?_
      refine x_alen (kd := 21) (t0 := 1) dX9_write_17 (by first | exact hk.2.2.1.2.1 | (simp only [x_kd_sI, x_kd_sA, x_kd_sJ, x_kd_sR, x_fr_sI, x_fr_sA, x_fr_sJ, x_ln_sI, x_ln_sA, x_ln_sJ]; exact hk.2.2.1.2.1)) (by omega) (by omega) rfl ?_
      rw [show nI (x_ln h (ca + 2)) = 3000 from by rw [hk.2.2.1.2.2]; rfl]
      refine x_icmp_lt (tgt := 23) dX9_write_18 (by decide) (fun c18 => ?_) (fun c18 => ?_)
      · skip
        refine x_aload_n (i := 0) (o := some ca) dX9_write_23 rfl rfl ?_
        refine x_getRv (v := some (ca + 2)) dX9_write_24 fX9_write_17 (i := 902) rfl rfl (by first | exact hk.1 | (simp only [x_kd_sI, x_kd_sA, x_kd_sJ, x_kd_sR, x_fr_sI, x_fr_sA, x_fr_sJ, x_ln_sI, x_ln_sA, x_ln_sJ]; exact hk.1)) ((by first | exact hk.2.2.1.1 | (simp only [x_kd_sI, x_kd_sA, x_kd_sJ, x_kd_sR, x_fr_sI, x_fr_sA, x_fr_sJ, x_ln_sI, x_ln_sA, x_ln_sJ]; exact hk.2.2.1.1))) ?_
        refine x_iload_n (i := 1) (x := nI j) dX9_write_27 rfl rfl ?_
        refine x_baloadN (n := j) (v := x) dX9_write_28 (by first | exact hk.2.2.1.2.1 | (simp only [x_kd_sI, x_kd_sA, x_kd_sJ, x_kd_sR, x_fr_sI, x_fr_sA, x_fr_sJ, x_ln_sI, x_ln_sA, x_ln_sJ]; exact hk.2.2.1.2.1)) (rfl) (by rw [hk.2.2.1.2.2]; omega) (by rw [hk.2.2.1.2.2]; omega) (hK j x hx) ?_
        refine x_sipush (v := 255) dX9_write_29 (by decide) ?_
        refine x_iand dX9_write_32 ?_
        refine x_ireturn dX9_write_33 rfl (rfl) ⟨Nat.le_refl _, Nat.le_refl _⟩ ?_
        exact ⟨rfl, rfl⟩
      · skip
        exact absurd (nI_lt (b := 3000) (by omega) (by omega)) c18
set_option maxHeartbeats 4000000 in
set_option maxRecDepth 100000 in
theorem c_write_f (G : x_G) {h : x_H} {ca : Nat} (hk : k_P h ca) {K : List Int32} (hn : x_fi h 903 ca = nI K.length) {i : Int32} (hi : ¬ (0 ≤ i ∧ i < nI K.length)) : x_Call G mX9_write h [x_r (some ca), x_i i] (some (x_i (-1))) h := by
  refine x_Ex.call (x_enter mwX9_write (Nat.le_of_ble_eq_true rfl) ?_)
  show x_E _ _ _ _ _ [(0, x_r (some ca)), (1, x_i i)] _ _
  refine x_iload_n (i := 1) (x := i) dX9_write_0 rfl rfl ?_
  refine x_if_lt (tgt := 21) dX9_write_1 (by decide) (fun c1 => ?_) (fun c1 => ?_)
  · skip
    refine x_iconst (v := (-1)) dX9_write_21 (by decide) ?_
    refine x_ireturn dX9_write_22 rfl (rfl) ⟨Nat.le_refl _, Nat.le_refl _⟩ ?_
    exact ⟨rfl, rfl⟩
  · skip
    refine x_iload_n (i := 1) (x := i) dX9_write_4 rfl rfl ?_
    refine x_aload_n (i := 0) (o := some ca) dX9_write_5 rfl rfl ?_
    refine x_getIv (v := nI K.length) dX9_write_6 fX9_write_20 (i := 903) rfl rfl (by first | exact hk.1 | (simp only [x_kd_sI, x_kd_sA, x_kd_sJ, x_kd_sR, x_fr_sI, x_fr_sA, x_fr_sJ, x_ln_sI, x_ln_sA, x_ln_sJ]; exact hk.1)) (hn) ?_
    refine x_icmp_ge (tgt := 21) dX9_write_9 (by decide) (fun c9 => ?_) (fun c9 => ?_)
    · skip
      refine x_iconst (v := (-1)) dX9_write_21 (by decide) ?_
      refine x_ireturn dX9_write_22 rfl (rfl) ⟨Nat.le_refl _, Nat.le_refl _⟩ ?_
      exact ⟨rfl, rfl⟩
    · skip
      exact absurd ⟨Int32.not_lt.mp c1, Int32.not_le.mp c9⟩ hi
theorem c_writeX (G : x_G) {h : x_H} {ca : Nat} (hk : k_P h ca) {K : List Int32} (hn : x_fi h 903 ca = nI K.length) (h3 : K.length ≤ 3000) (hK : ∀ (j : Nat) (x : Int32), K[j]? = some x → x_rw h (ca + 2) j = x) (i : Int32) : x_Call G mX9_write h [x_r (some ca), x_i i] (some (x_i (z_kt (K.map (fun b => b &&& 255)) 0 i))) h := by
  by_cases hi : 0 ≤ i ∧ i < nI K.length
  · obtain ⟨j, hj, e⟩ := nI_of2 (x := i) (M := nI K.length) (n := K.length) (nI_toInt (by omega)) (Int32.not_lt.mpr hi.1) (Int32.le_of_lt hi.2)
    subst e
    have hjl : j < K.length := (nI_ltI (by omega) (by omega)).mp hi.2
    obtain ⟨x, hx⟩ : ∃ x, K[j]? = some x := ⟨_, List.getElem?_eq_getElem hjl⟩
    have e := z_kt_get (K.map (fun b => b &&& 255)) 0 j (x &&& 255) (by rw [List.getElem?_map, hx]; rfl) (by omega)
    rw [Nat.zero_add] at e
    rw [e]
    exact c_write_t G hk hn h3 hK hx
  · rw [z_kt_out _ _ _ (fun j hj z => hi ?_)]
    · exact c_write_f G hk hn hi
    · rw [List.length_map] at hj
      rw [Nat.zero_add] at z
      subst z
      exact ⟨nI_pos' (by omega), nI_lt hj (by omega)⟩
