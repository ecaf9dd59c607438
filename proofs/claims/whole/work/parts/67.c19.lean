/-! THE CLASS: Facts: lackOf, sumAt, testVerdict, sumVerdict -/
theorem z_lks_st {X : z_X} {C : Nat → Int32} : ∀ {L : List Nat} {v : Int32}, ¬ v = -1 → z_lks X C L v = v
  | [], _, _ => rfl
  | a :: L, v, h => by
    show z_lks X C L (if v = -1 then z_lk X C a else v) = v
    rw [if_neg h]
    exact z_lks_st h
theorem y_ts.nx {C : Nat → Int32} {h : x_H} {ts L : List Nat} (k : y_ts C h ts L) (j : Nat) : (ts[j]? = none ∧ L.drop j = []) ∨ ∃ t a, ts[j]? = some t ∧ y_tm C h t a ∧ x_fr h 705 t = ts[j + 1]? ∧ L.drop j = a :: L.drop (j + 1) ∧ a ∈ L ∧ j < ts.length := by
  obtain ⟨k1, k2, k3, k4⟩ := k
  rcases Nat.lt_or_ge j ts.length with hl | hl
  · obtain ⟨t, ht⟩ : ∃ t, ts[j]? = some t := ⟨_, List.getElem?_eq_getElem hl⟩
    obtain ⟨a, ha⟩ : ∃ a, L[j]? = some a := ⟨_, List.getElem?_eq_getElem (by omega)⟩
    refine Or.inr ⟨t, a, ht, k4 j t a ht ha, k3 j t ht, ?_, List.mem_of_getElem? ha, hl⟩
    rw [List.drop_eq_getElem_cons (by omega), (List.getElem?_eq_some_iff.mp ha).2]
  · exact Or.inl ⟨List.getElem?_eq_none hl, List.drop_of_length_le (by omega)⟩
set_option maxHeartbeats 4000000 in
set_option maxRecDepth 100000 in
theorem l_lackOf (G : x_G) {h : x_H} {fa : Nat} (hf : f_P h fa) {X : z_X} (hX : f_X h fa X) {C : Nat → Int32} {ts L : List Nat} (hts : y_ts C h ts L) (hL : ∀ a ∈ L, z_tk C a) (it : Option Nat) (Q : Option x_V → x_H → Prop) : ∀ (k j : Nat), ts.length - j = k → Q (some (x_i (z_lks X C (L.drop j) (-1)))) h → x_E G mX2_lackOf (x_D G mX2_lackOf h Q) h 5 [(0, x_r (some fa)), (1, x_r it), (2, x_r (ts[j]?))] [] h := by
  intro k
  induction k with
  | zero =>
    intro j hj hQ
    have hn0 : ts[j]? = none := List.getElem?_eq_none (by omega)
    rw [hn0]
    rw [List.drop_of_length_le (by have := hts.1; omega)] at hQ
    refine x_aload_n (i := 2) (o := none) dX2_lackOf_5 rfl rfl ?_
    refine x_ifnull (o := none) (tgt := 49) dX2_lackOf_6 (by decide) (fun _ => ?_) (fun _ c => absurd c (by simp))
    refine x_iconst (v := (-1)) dX2_lackOf_49 (by decide) ?_
    refine x_ireturn dX2_lackOf_50 rfl (rfl) ⟨Nat.le_refl _, Nat.le_refl _⟩ ?_
    exact hQ
  | succ k ih =>
    intro j hj hQ
    rcases hts.nx j with ⟨hn0, hd0⟩ | ⟨t, a, htj, ht, hnx, hdr, ham, hjl⟩
    · have := List.getElem?_eq_none_iff.mp hn0
      omega
    · rw [htj]
      have hk := hL a ham
      have hp16 := (z_pt_eq hk.2.2.1).2
      refine x_aload_n (i := 2) (o := some t) dX2_lackOf_5 rfl rfl ?_
      refine x_ifnull (o := some t) (tgt := 49) dX2_lackOf_6 (by decide) (fun c => absurd c (by simp)) (fun _ _ => ?_)
      refine x_aload_n (i := 0) (o := some fa) dX2_lackOf_9 rfl rfl ?_
      refine x_aload_n (i := 2) (o := some t) dX2_lackOf_10 rfl rfl ?_
      refine x_getIv (v := nI (z_pt C a)) dX2_lackOf_11 fX2_lackOf_66 (i := 702) rfl rfl ht.1 ((ht.2.2.2.1.trans (z_pt_eq hk.2.2.1).1)) ?_
      by_cases qs : X.1 (z_pt C a) = true
      · skip
        refine x_callV (a := fa) (av := [x_i (nI (z_pt C a))]) (rest := []) (r := (some (x_i 1))) (h1 := h) dX2_lackOf_14 sX2_lackOf_71 (by first | (simp only [x_kd_sI, x_kd_sA, x_kd_sJ]; exact hf.1) | exact hf.1) rfl rfl (Nat.le_of_ble_eq_true rfl) ⟨Nat.le_refl _, Nat.le_refl _⟩ (by have k := c_hasSpan G hf hX hp16; rw [if_pos qs] at k; exact k) ?_
        show x_E _ _ _ _ 17 _ [x_i 1] _
        refine x_if_ne (tgt := 25) dX2_lackOf_17 (by decide) (fun _ => ?_) (fun c => absurd c (by decide))
        refine x_aload_n (i := 2) (o := some t) dX2_lackOf_25 rfl rfl ?_
        refine x_getIv (v := z_bq C a) dX2_lackOf_26 fX2_lackOf_75 (i := 704) rfl rfl ht.1 (ht.2.2.2.2.2) ?_
        refine x_if_ne (tgt := 41) dX2_lackOf_29 (by decide) (fun c29 => ?_) (fun c29 => ?_)
        · skip
          refine x_aload_n (i := 2) (o := some t) dX2_lackOf_41 rfl rfl ?_
          refine x_getRv (v := ts[j + 1]?) dX2_lackOf_42 fX2_lackOf_78 (i := 705) rfl rfl ht.1 (hnx) ?_
          refine x_astore_n (i := 2) (lv' := [(0, x_r (some fa)), (1, x_r it), (2, x_r (ts[j + 1]?))]) dX2_lackOf_45 rfl (by decide) rfl ?_
          refine x_goto (tgt := 5) dX2_lackOf_46 (by decide) ?_
          show x_E _ _ _ _ 5 _ _ _
          have elk : z_lk X C a = -1 := by unfold z_lk; rw [if_neg (by rw [qs]; decide), if_neg c29]
          rw [hdr, show z_lks X C (a :: L.drop (j + 1)) (-1) = z_lks X C (L.drop (j + 1)) (z_lk X C a) from rfl, elk] at hQ
          exact ih (j + 1) (by omega) hQ
        · skip
          refine x_sipush (v := 200) dX2_lackOf_32 (by decide) ?_
          refine x_aload_n (i := 2) (o := some t) dX2_lackOf_35 rfl rfl ?_
          refine x_getIv (v := nI (z_pt C a)) dX2_lackOf_36 fX2_lackOf_66 (i := 702) rfl rfl ht.1 ((ht.2.2.2.1.trans (z_pt_eq hk.2.2.1).1)) ?_
          refine x_iadd dX2_lackOf_39 ?_
          refine x_ireturn dX2_lackOf_40 rfl (rfl) ⟨Nat.le_refl _, Nat.le_refl _⟩ ?_
          have elk : z_lk X C a = 200 + nI (z_pt C a) := by unfold z_lk; rw [if_neg (by rw [qs]; decide), if_pos c29, (z_pt_eq hk.2.2.1).1]
          rw [hdr, show z_lks X C (a :: L.drop (j + 1)) (-1) = z_lks X C (L.drop (j + 1)) (z_lk X C a) from rfl, elk, z_lks_st (z_neg1 (nI_add 200 _ ▸ nI_pos' (by omega)))] at hQ
          exact hQ
      · skip
        refine x_callV (a := fa) (av := [x_i (nI (z_pt C a))]) (rest := []) (r := (some (x_i 0))) (h1 := h) dX2_lackOf_14 sX2_lackOf_71 (by first | (simp only [x_kd_sI, x_kd_sA, x_kd_sJ]; exact hf.1) | exact hf.1) rfl rfl (Nat.le_of_ble_eq_true rfl) ⟨Nat.le_refl _, Nat.le_refl _⟩ (by have k := c_hasSpan G hf hX hp16; rw [if_neg qs] at k; exact k) ?_
        show x_E _ _ _ _ 17 _ [x_i 0] _
        refine x_if_ne (tgt := 25) dX2_lackOf_17 (by decide) (fun c => absurd c (by decide)) (fun _ => ?_)
        refine x_aload_n (i := 2) (o := some t) dX2_lackOf_20 rfl rfl ?_
        refine x_getIv (v := nI (z_pt C a)) dX2_lackOf_21 fX2_lackOf_66 (i := 702) rfl rfl ht.1 ((ht.2.2.2.1.trans (z_pt_eq hk.2.2.1).1)) ?_
        refine x_ireturn dX2_lackOf_24 rfl (rfl) ⟨Nat.le_refl _, Nat.le_refl _⟩ ?_
        have elk : z_lk X C a = nI (z_pt C a) := (if_pos (by simpa using qs)).trans (z_pt_eq hk.2.2.1).1
        rw [hdr, show z_lks X C (a :: L.drop (j + 1)) (-1) = z_lks X C (L.drop (j + 1)) (z_lk X C a) from rfl, elk, z_lks_st (z_neg1 (nI_pos' (by omega)))] at hQ
        exact hQ
set_option maxHeartbeats 4000000 in
set_option maxRecDepth 100000 in
theorem c_lackOf (G : x_G) {h : x_H} {fa : Nat} (hf : f_P h fa) {X : z_X} (hX : f_X h fa X) {C : Nat → Int32} {ts L : List Nat} (hts : y_ts C h ts L) (hL : ∀ a ∈ L, z_tk C a) {it : Nat} (hki : x_kd h it = 4) (h5 : x_fr h 405 it = ts[0]?) : x_Call G mX2_lackOf h [x_r (some fa), x_r (some it)] (some (x_i (z_lks X C L (-1)))) h := by
  refine x_Ex.call (x_enter mwX2_lackOf (Nat.le_of_ble_eq_true rfl) ?_)
  show x_E _ _ _ _ _ [(0, x_r (some fa)), (1, x_r (some it))] _ _
  refine x_aload_n (i := 1) (o := some it) dX2_lackOf_0 rfl rfl ?_
  refine x_getRv (v := ts[0]?) dX2_lackOf_1 fX2_lackOf_62 (i := 405) rfl rfl hki (h5) ?_
  refine x_astore_n (i := 2) (lv' := [(0, x_r (some fa)), (1, x_r (some it)), (2, x_r (ts[0]?))]) dX2_lackOf_4 rfl (by decide) rfl ?_
  show x_E _ _ _ _ 5 _ _ _
  exact l_lackOf G hf hX hts hL (some it) _ _ 0 rfl ⟨by rw [List.drop_zero], rfl⟩
set_option maxHeartbeats 4000000 in
set_option maxRecDepth 100000 in
theorem l_sumAt (G : x_G) {h : x_H} {fa : Nat} (hf : f_P h fa) {X : z_X} (hX : f_X h fa X) {C : Nat → Int32} {ts L : List Nat} (hts : y_ts C h ts L) (hL : ∀ a ∈ L, z_tk C a) (it : Option Nat) (high : Bool) (part : Int32) (Q : Option x_V → x_H → Prop) : ∀ (k j : Nat) (s : Int64), ts.length - j = k → Q (some (x_l (z_tot X C high part (L.drop j) s))) h → x_E G mX2_sumAt (x_D G mX2_sumAt h Q) h 9 [(0, x_r (some fa)), (1, x_r it), (2, x_i (if high = true then 1 else 0)), (3, x_i part), (4, x_l s), (6, x_r (ts[j]?))] [] h := by
  intro k
  induction k with
  | zero =>
    intro j s hj hQ
    have hn0 : ts[j]? = none := List.getElem?_eq_none (by omega)
    rw [hn0]
    rw [List.drop_of_length_le (by have := hts.1; omega)] at hQ
    refine x_aload (i := 6) (o := none) dX2_sumAt_9 rfl ?_
    refine x_ifnull (o := none) (tgt := 50) dX2_sumAt_11 (by decide) (fun _ => ?_) (fun _ c => absurd c (by simp))
    refine x_lload (i := 4) (x := s) dX2_sumAt_50 rfl ?_
    refine x_lreturn dX2_sumAt_52 rfl ⟨Nat.le_refl _, Nat.le_refl _⟩ ?_
    exact hQ
  | succ k ih =>
    intro j s hj hQ
    rcases hts.nx j with ⟨hn0, hd0⟩ | ⟨t, a, htj, ht, hnx, hdr, ham, hjl⟩
    · have := List.getElem?_eq_none_iff.mp hn0
      omega
    · rw [htj]
      have hk := hL a ham
      have hp16 := (z_pt_eq hk.2.2.1).2
      refine x_aload (i := 6) (o := some t) dX2_sumAt_9 rfl ?_
      refine x_ifnull (o := some t) (tgt := 50) dX2_sumAt_11 (by decide) (fun c => absurd c (by simp)) (fun _ _ => ?_)
      refine x_iload_n (i := 3) (x := part) dX2_sumAt_14 rfl rfl ?_
      refine x_iconst (v := (-1)) dX2_sumAt_15 (by decide) ?_
      refine x_icmp_eq (tgt := 28) dX2_sumAt_16 (by decide) (fun c16 => ?_) (fun c16 => ?_)
      · skip
        have esh : z_sh X C high part a = if z_mi C a = true then -(z_md X C high a) else z_md X C high a := by
          unfold z_sh
          rw [if_neg (fun z => z.1 c16)]
        have etot : (if z_lk X C a = -1 then s + z_sh X C high part a else s) = s + (if z_lk X C a = -1 then (if z_mi C a = true then -(z_md X C high a) else z_md X C high a) else 0) := by
          rw [esh]
          by_cases el : z_lk X C a = -1
          · rw [if_pos el, if_pos el]
          · rw [if_neg el, if_neg el, Int64.add_zero]
        refine x_lload (i := 4) (x := s) dX2_sumAt_28 rfl ?_
        refine x_aload_n (i := 0) (o := some fa) dX2_sumAt_30 rfl rfl ?_
        refine x_aload (i := 6) (o := some t) dX2_sumAt_31 rfl ?_
        refine x_iload_n (i := 2) (x := if high = true then 1 else 0) dX2_sumAt_33 rfl rfl ?_
        refine x_callV (a := fa) (av := [x_r (some t), x_i (if high = true then 1 else 0)]) (rest := [x_l s]) (r := (some (x_l (if z_lk X C a = -1 then (if z_mi C a = true then -(z_md X C high a) else z_md X C high a) else 0)))) (h1 := h) dX2_sumAt_34 sX2_sumAt_81 (by first | (simp only [x_kd_sI, x_kd_sA, x_kd_sJ]; exact hf.1) | exact hf.1) rfl rfl (Nat.le_of_ble_eq_true rfl) ⟨Nat.le_refl _, Nat.le_refl _⟩ (c_shareOf G hf hX ht hk high) ?_
        show x_E _ _ _ _ 37 _ [x_l (if z_lk X C a = -1 then (if z_mi C a = true then -(z_md X C high a) else z_md X C high a) else 0), x_l s] _
        refine x_ladd dX2_sumAt_37 ?_
        refine x_lstore (i := 4) (lv' := [(0, x_r (some fa)), (1, x_r it), (2, x_i (if high = true then 1 else 0)), (3, x_i part), (4, x_l (s + (if z_lk X C a = -1 then (if z_mi C a = true then -(z_md X C high a) else z_md X C high a) else 0))), (6, x_r (some t))]) dX2_sumAt_38 (by decide) rfl ?_
        refine x_aload (i := 6) (o := some t) dX2_sumAt_40 rfl ?_
        refine x_getRv (v := ts[j + 1]?) dX2_sumAt_42 fX2_sumAt_78 (i := 705) rfl rfl ht.1 (hnx) ?_
        refine x_astore (i := 6) (lv' := [(0, x_r (some fa)), (1, x_r it), (2, x_i (if high = true then 1 else 0)), (3, x_i part), (4, x_l (s + (if z_lk X C a = -1 then (if z_mi C a = true then -(z_md X C high a) else z_md X C high a) else 0))), (6, x_r (ts[j + 1]?))]) dX2_sumAt_45 (by decide) rfl ?_
        refine x_goto (tgt := 9) dX2_sumAt_47 (by decide) ?_
        show x_E _ _ _ _ 9 _ _ _
        rw [hdr, show z_tot X C high part (a :: L.drop (j + 1)) s = z_tot X C high part (L.drop (j + 1)) (if z_lk X C a = -1 then s + z_sh X C high part a else s) from rfl, etot] at hQ
        exact ih (j + 1) _ (by omega) hQ
      · skip
        refine x_iload_n (i := 3) (x := part) dX2_sumAt_19 rfl rfl ?_
        refine x_aload (i := 6) (o := some t) dX2_sumAt_20 rfl ?_
        refine x_getIv (v := C (a + 3)) dX2_sumAt_22 fX2_sumAt_66 (i := 702) rfl rfl ht.1 (ht.2.2.2.1) ?_
        refine x_icmp_ne (tgt := 40) dX2_sumAt_25 (by decide) (fun c25 => ?_) (fun c25 => ?_)
        · skip
          have esh : z_sh X C high part a = 0 := if_pos ⟨c16, c25⟩
          have etot : (if z_lk X C a = -1 then s + z_sh X C high part a else s) = s := by
            rw [esh]
            by_cases el : z_lk X C a = -1
            · rw [if_pos el, Int64.add_zero]
            · rw [if_neg el]
          refine x_aload (i := 6) (o := some t) dX2_sumAt_40 rfl ?_
          refine x_getRv (v := ts[j + 1]?) dX2_sumAt_42 fX2_sumAt_78 (i := 705) rfl rfl ht.1 (hnx) ?_
          refine x_astore (i := 6) (lv' := [(0, x_r (some fa)), (1, x_r it), (2, x_i (if high = true then 1 else 0)), (3, x_i part), (4, x_l s), (6, x_r (ts[j + 1]?))]) dX2_sumAt_45 (by decide) rfl ?_
          refine x_goto (tgt := 9) dX2_sumAt_47 (by decide) ?_
          show x_E _ _ _ _ 9 _ _ _
          rw [hdr, show z_tot X C high part (a :: L.drop (j + 1)) s = z_tot X C high part (L.drop (j + 1)) (if z_lk X C a = -1 then s + z_sh X C high part a else s) from rfl, etot] at hQ
          exact ih (j + 1) _ (by omega) hQ
        · skip
          have esh : z_sh X C high part a = if z_mi C a = true then -(z_md X C high a) else z_md X C high a := by
            unfold z_sh
            rw [if_neg (fun z => z.2 c25)]
          have etot : (if z_lk X C a = -1 then s + z_sh X C high part a else s) = s + (if z_lk X C a = -1 then (if z_mi C a = true then -(z_md X C high a) else z_md X C high a) else 0) := by
            rw [esh]
            by_cases el : z_lk X C a = -1
            · rw [if_pos el, if_pos el]
            · rw [if_neg el, if_neg el, Int64.add_zero]
          refine x_lload (i := 4) (x := s) dX2_sumAt_28 rfl ?_
          refine x_aload_n (i := 0) (o := some fa) dX2_sumAt_30 rfl rfl ?_
          refine x_aload (i := 6) (o := some t) dX2_sumAt_31 rfl ?_
          refine x_iload_n (i := 2) (x := if high = true then 1 else 0) dX2_sumAt_33 rfl rfl ?_
          refine x_callV (a := fa) (av := [x_r (some t), x_i (if high = true then 1 else 0)]) (rest := [x_l s]) (r := (some (x_l (if z_lk X C a = -1 then (if z_mi C a = true then -(z_md X C high a) else z_md X C high a) else 0)))) (h1 := h) dX2_sumAt_34 sX2_sumAt_81 (by first | (simp only [x_kd_sI, x_kd_sA, x_kd_sJ]; exact hf.1) | exact hf.1) rfl rfl (Nat.le_of_ble_eq_true rfl) ⟨Nat.le_refl _, Nat.le_refl _⟩ (c_shareOf G hf hX ht hk high) ?_
          show x_E _ _ _ _ 37 _ [x_l (if z_lk X C a = -1 then (if z_mi C a = true then -(z_md X C high a) else z_md X C high a) else 0), x_l s] _
          refine x_ladd dX2_sumAt_37 ?_
          refine x_lstore (i := 4) (lv' := [(0, x_r (some fa)), (1, x_r it), (2, x_i (if high = true then 1 else 0)), (3, x_i part), (4, x_l (s + (if z_lk X C a = -1 then (if z_mi C a = true then -(z_md X C high a) else z_md X C high a) else 0))), (6, x_r (some t))]) dX2_sumAt_38 (by decide) rfl ?_
          refine x_aload (i := 6) (o := some t) dX2_sumAt_40 rfl ?_
          refine x_getRv (v := ts[j + 1]?) dX2_sumAt_42 fX2_sumAt_78 (i := 705) rfl rfl ht.1 (hnx) ?_
          refine x_astore (i := 6) (lv' := [(0, x_r (some fa)), (1, x_r it), (2, x_i (if high = true then 1 else 0)), (3, x_i part), (4, x_l (s + (if z_lk X C a = -1 then (if z_mi C a = true then -(z_md X C high a) else z_md X C high a) else 0))), (6, x_r (ts[j + 1]?))]) dX2_sumAt_45 (by decide) rfl ?_
          refine x_goto (tgt := 9) dX2_sumAt_47 (by decide) ?_
          show x_E _ _ _ _ 9 _ _ _
          rw [hdr, show z_tot X C high part (a :: L.drop (j + 1)) s = z_tot X C high part (L.drop (j + 1)) (if z_lk X C a = -1 then s + z_sh X C high part a else s) from rfl, etot] at hQ
          exact ih (j + 1) _ (by omega) hQ
set_option maxHeartbeats 4000000 in
set_option maxRecDepth 100000 in
theorem c_sumAt (G : x_G) {h : x_H} {fa : Nat} (hf : f_P h fa) {X : z_X} (hX : f_X h fa X) {C : Nat → Int32} {ts L : List Nat} (hts : y_ts C h ts L) (hL : ∀ a ∈ L, z_tk C a) {it : Nat} (hki : x_kd h it = 4) (h5 : x_fr h 405 it = ts[0]?) (high : Bool) (part : Int32) : x_Call G mX2_sumAt h [x_r (some fa), x_r (some it), x_i (if high = true then 1 else 0), x_i part] (some (x_l (z_tot X C high part L 0))) h := by
  refine x_Ex.call (x_enter mwX2_sumAt (Nat.le_of_ble_eq_true rfl) ?_)
  show x_E _ _ _ _ _ [(0, x_r (some fa)), (1, x_r (some it)), (2, x_i (if high = true then 1 else 0)), (3, x_i part)] _ _
  refine x_lconst (v := 0) dX2_sumAt_0 (by decide) ?_
  refine x_lstore (i := 4) (lv' := [(0, x_r (some fa)), (1, x_r (some it)), (2, x_i (if high = true then 1 else 0)), (3, x_i part), (4, x_l 0)]) dX2_sumAt_1 (by decide) rfl ?_
  refine x_aload_n (i := 1) (o := some it) dX2_sumAt_3 rfl rfl ?_
  refine x_getRv (v := ts[0]?) dX2_sumAt_4 fX2_sumAt_62 (i := 405) rfl rfl hki (h5) ?_
  refine x_astore (i := 6) (lv' := [(0, x_r (some fa)), (1, x_r (some it)), (2, x_i (if high = true then 1 else 0)), (3, x_i part), (4, x_l 0), (6, x_r (ts[0]?))]) dX2_sumAt_7 (by decide) rfl ?_
  show x_E _ _ _ _ 9 _ _ _
  exact l_sumAt G hf hX hts hL (some it) high part _ _ 0 0 rfl ⟨by rw [List.drop_zero], rfl⟩
set_option maxHeartbeats 4000000 in
set_option maxRecDepth 100000 in
theorem c_testVerdict (G : x_G) {h : x_H} {fa : Nat} (hf : f_P h fa) {X : z_X} (hX : f_X h fa X) {C : Nat → Int32} {it p : Nat} (hi : y_it C h it p) (hp7 : C p = -7) (h17 : q_n C 0 7 (p + 1)) (h89 : C (p + 2) = -8 ∨ (¬ C (p + 2) = -8 ∧ C (p + 2) = -9)) : x_Call G mX2_testVerdict h [x_r (some fa), x_r (some it)] (some (x_i (z_vt X C p))) h := by
  have ht := z_tn (n := 7) (by decide) h17
  obtain ⟨t1, t2, t3⟩ := hi.2.2.1 hp7
  refine x_Ex.call (x_enter mwX2_testVerdict (Nat.le_of_ble_eq_true rfl) ?_)
  show x_E _ _ _ _ _ [(0, x_r (some fa)), (1, x_r (some it))] _ _
  by_cases q9 : C (p + 2) = -9
  · skip
    refine x_aload_n (i := 0) (o := some fa) dX2_testVerdict_0 rfl rfl ?_
    refine x_aload_n (i := 1) (o := some it) dX2_testVerdict_1 rfl rfl ?_
    refine x_getIv (v := C (p + 1)) dX2_testVerdict_2 fX2_testVerdict_38 (i := 401) rfl rfl hi.1 (t1) ?_
    refine x_callV (a := fa) (av := [x_i (C (p + 1))]) (rest := []) (r := (some (x_i (X.2.2.2.1 (C (p + 1)).toNatClampNeg)))) (h1 := h) dX2_testVerdict_5 sX2_testVerdict_44 (by first | (simp only [x_kd_sI, x_kd_sA, x_kd_sJ]; exact hf.1) | exact hf.1) rfl rfl (Nat.le_of_ble_eq_true rfl) ⟨Nat.le_refl _, Nat.le_refl _⟩ (by have k := c_resultOf G hf hX (t := (C (p + 1)).toNatClampNeg) (by omega); rw [← ht.1] at k; exact k) ?_
    show x_E _ _ _ _ 8 _ [x_i (X.2.2.2.1 (C (p + 1)).toNatClampNeg)] _
    refine x_istore_n (i := 2) (lv' := [(0, x_r (some fa)), (1, x_r (some it)), (2, x_i (X.2.2.2.1 (C (p + 1)).toNatClampNeg))]) dX2_testVerdict_8 rfl (by decide) rfl ?_
    refine x_iload_n (i := 2) (x := X.2.2.2.1 (C (p + 1)).toNatClampNeg) dX2_testVerdict_9 rfl rfl ?_
    refine x_iconst (v := (-1)) dX2_testVerdict_10 (by decide) ?_
    refine x_icmp_ne (tgt := 22) dX2_testVerdict_11 (by decide) (fun c11 => ?_) (fun c11 => ?_)
    · skip
      refine x_iload_n (i := 2) (x := X.2.2.2.1 (C (p + 1)).toNatClampNeg) dX2_testVerdict_22 rfl rfl ?_
      refine x_aload_n (i := 1) (o := some it) dX2_testVerdict_23 rfl rfl ?_
      refine x_getIv (v := C (p + 3)) dX2_testVerdict_24 fX2_testVerdict_48 (i := 403) rfl rfl hi.1 (t3) ?_
      refine x_icmp_ne (tgt := 34) dX2_testVerdict_27 (by decide) (fun c27 => ?_) (fun c27 => ?_)
      · skip
        refine x_iconst (v := 0) dX2_testVerdict_34 (by decide) ?_
        refine x_istore_n (i := 3) (lv' := [(0, x_r (some fa)), (1, x_r (some it)), (2, x_i (X.2.2.2.1 (C (p + 1)).toNatClampNeg)), (3, x_i 0)]) dX2_testVerdict_35 rfl (by decide) rfl ?_
        refine x_iload_n (i := 3) (x := 0) dX2_testVerdict_36 rfl rfl ?_
        refine x_aload_n (i := 1) (o := some it) dX2_testVerdict_37 rfl rfl ?_
        refine x_getIv (v := 1) dX2_testVerdict_38 fX2_testVerdict_51 (i := 402) rfl rfl hi.1 (t2.trans (if_pos q9)) ?_
        refine x_icmp_eq (tgt := 49) dX2_testVerdict_41 (by decide) (fun c => absurd c (by decide)) (fun _ => ?_)
        refine x_bipush (v := (-2)) dX2_testVerdict_44 (by decide) ?_
        refine x_goto (tgt := 51) dX2_testVerdict_46 (by decide) ?_
        refine x_ireturn dX2_testVerdict_51 rfl (rfl) ⟨Nat.le_refl _, Nat.le_refl _⟩ ?_
        have e8 : (C (p + 2) == -8) = false := by
          rw [q9]; decide
        have es : (X.2.2.2.1 (C (p + 1)).toNatClampNeg == C (p + 3)) = false := by simpa using c27
        refine ⟨?_, rfl⟩
        unfold z_vt
        rw [if_neg c11, es, e8]
        rfl
      · skip
        refine x_iconst (v := 1) dX2_testVerdict_30 (by decide) ?_
        refine x_goto (tgt := 35) dX2_testVerdict_31 (by decide) ?_
        refine x_istore_n (i := 3) (lv' := [(0, x_r (some fa)), (1, x_r (some it)), (2, x_i (X.2.2.2.1 (C (p + 1)).toNatClampNeg)), (3, x_i 1)]) dX2_testVerdict_35 rfl (by decide) rfl ?_
        refine x_iload_n (i := 3) (x := 1) dX2_testVerdict_36 rfl rfl ?_
        refine x_aload_n (i := 1) (o := some it) dX2_testVerdict_37 rfl rfl ?_
        refine x_getIv (v := 1) dX2_testVerdict_38 fX2_testVerdict_51 (i := 402) rfl rfl hi.1 (t2.trans (if_pos q9)) ?_
        refine x_icmp_eq (tgt := 49) dX2_testVerdict_41 (by decide) (fun _ => ?_) (fun c => absurd (by decide) c)
        refine x_bipush (v := (-3)) dX2_testVerdict_49 (by decide) ?_
        refine x_ireturn dX2_testVerdict_51 rfl (rfl) ⟨Nat.le_refl _, Nat.le_refl _⟩ ?_
        have e8 : (C (p + 2) == -8) = false := by
          rw [q9]; decide
        have es : (X.2.2.2.1 (C (p + 1)).toNatClampNeg == C (p + 3)) = true := by simpa using c27
        refine ⟨?_, rfl⟩
        unfold z_vt
        rw [if_neg c11, es, e8]
        rfl
    · skip
      refine x_bipush (v := 100) dX2_testVerdict_14 (by decide) ?_
      refine x_aload_n (i := 1) (o := some it) dX2_testVerdict_16 rfl rfl ?_
      refine x_getIv (v := C (p + 1)) dX2_testVerdict_17 fX2_testVerdict_38 (i := 401) rfl rfl hi.1 (t1) ?_
      refine x_iadd dX2_testVerdict_20 ?_
      refine x_ireturn dX2_testVerdict_21 rfl (rfl) ⟨Nat.le_refl _, Nat.le_refl _⟩ ?_
      refine ⟨?_, rfl⟩
      rw [show z_vt X C p = 100 + C (p + 1) from if_pos c11]
  · skip
    refine x_aload_n (i := 0) (o := some fa) dX2_testVerdict_0 rfl rfl ?_
    refine x_aload_n (i := 1) (o := some it) dX2_testVerdict_1 rfl rfl ?_
    refine x_getIv (v := C (p + 1)) dX2_testVerdict_2 fX2_testVerdict_38 (i := 401) rfl rfl hi.1 (t1) ?_
    refine x_callV (a := fa) (av := [x_i (C (p + 1))]) (rest := []) (r := (some (x_i (X.2.2.2.1 (C (p + 1)).toNatClampNeg)))) (h1 := h) dX2_testVerdict_5 sX2_testVerdict_44 (by first | (simp only [x_kd_sI, x_kd_sA, x_kd_sJ]; exact hf.1) | exact hf.1) rfl rfl (Nat.le_of_ble_eq_true rfl) ⟨Nat.le_refl _, Nat.le_refl _⟩ (by have k := c_resultOf G hf hX (t := (C (p + 1)).toNatClampNeg) (by omega); rw [← ht.1] at k; exact k) ?_
    show x_E _ _ _ _ 8 _ [x_i (X.2.2.2.1 (C (p + 1)).toNatClampNeg)] _
    refine x_istore_n (i := 2) (lv' := [(0, x_r (some fa)), (1, x_r (some it)), (2, x_i (X.2.2.2.1 (C (p + 1)).toNatClampNeg))]) dX2_testVerdict_8 rfl (by decide) rfl ?_
    refine x_iload_n (i := 2) (x := X.2.2.2.1 (C (p + 1)).toNatClampNeg) dX2_testVerdict_9 rfl rfl ?_
    refine x_iconst (v := (-1)) dX2_testVerdict_10 (by decide) ?_
    refine x_icmp_ne (tgt := 22) dX2_testVerdict_11 (by decide) (fun c11 => ?_) (fun c11 => ?_)
    · skip
      refine x_iload_n (i := 2) (x := X.2.2.2.1 (C (p + 1)).toNatClampNeg) dX2_testVerdict_22 rfl rfl ?_
      refine x_aload_n (i := 1) (o := some it) dX2_testVerdict_23 rfl rfl ?_
      refine x_getIv (v := C (p + 3)) dX2_testVerdict_24 fX2_testVerdict_48 (i := 403) rfl rfl hi.1 (t3) ?_
      refine x_icmp_ne (tgt := 34) dX2_testVerdict_27 (by decide) (fun c27 => ?_) (fun c27 => ?_)
      · skip
        refine x_iconst (v := 0) dX2_testVerdict_34 (by decide) ?_
        refine x_istore_n (i := 3) (lv' := [(0, x_r (some fa)), (1, x_r (some it)), (2, x_i (X.2.2.2.1 (C (p + 1)).toNatClampNeg)), (3, x_i 0)]) dX2_testVerdict_35 rfl (by decide) rfl ?_
        refine x_iload_n (i := 3) (x := 0) dX2_testVerdict_36 rfl rfl ?_
        refine x_aload_n (i := 1) (o := some it) dX2_testVerdict_37 rfl rfl ?_
        refine x_getIv (v := 0) dX2_testVerdict_38 fX2_testVerdict_51 (i := 402) rfl rfl hi.1 (t2.trans (if_neg q9)) ?_
        refine x_icmp_eq (tgt := 49) dX2_testVerdict_41 (by decide) (fun _ => ?_) (fun c => absurd (by decide) c)
        refine x_bipush (v := (-3)) dX2_testVerdict_49 (by decide) ?_
        refine x_ireturn dX2_testVerdict_51 rfl (rfl) ⟨Nat.le_refl _, Nat.le_refl _⟩ ?_
        have e8 : (C (p + 2) == -8) = true := by
          simpa using (show C (p + 2) = -8 from by rcases h89 with z | z; exact z; exact absurd z.2 q9)
        have es : (X.2.2.2.1 (C (p + 1)).toNatClampNeg == C (p + 3)) = false := by simpa using c27
        refine ⟨?_, rfl⟩
        unfold z_vt
        rw [if_neg c11, es, e8]
        rfl
      · skip
        refine x_iconst (v := 1) dX2_testVerdict_30 (by decide) ?_
        refine x_goto (tgt := 35) dX2_testVerdict_31 (by decide) ?_
        refine x_istore_n (i := 3) (lv' := [(0, x_r (some fa)), (1, x_r (some it)), (2, x_i (X.2.2.2.1 (C (p + 1)).toNatClampNeg)), (3, x_i 1)]) dX2_testVerdict_35 rfl (by decide) rfl ?_
        refine x_iload_n (i := 3) (x := 1) dX2_testVerdict_36 rfl rfl ?_
        refine x_aload_n (i := 1) (o := some it) dX2_testVerdict_37 rfl rfl ?_
        refine x_getIv (v := 0) dX2_testVerdict_38 fX2_testVerdict_51 (i := 402) rfl rfl hi.1 (t2.trans (if_neg q9)) ?_
        refine x_icmp_eq (tgt := 49) dX2_testVerdict_41 (by decide) (fun c => absurd c (by decide)) (fun _ => ?_)
        refine x_bipush (v := (-2)) dX2_testVerdict_44 (by decide) ?_
        refine x_goto (tgt := 51) dX2_testVerdict_46 (by decide) ?_
        refine x_ireturn dX2_testVerdict_51 rfl (rfl) ⟨Nat.le_refl _, Nat.le_refl _⟩ ?_
        have e8 : (C (p + 2) == -8) = true := by
          simpa using (show C (p + 2) = -8 from by rcases h89 with z | z; exact z; exact absurd z.2 q9)
        have es : (X.2.2.2.1 (C (p + 1)).toNatClampNeg == C (p + 3)) = true := by simpa using c27
        refine ⟨?_, rfl⟩
        unfold z_vt
        rw [if_neg c11, es, e8]
        rfl
    · skip
      refine x_bipush (v := 100) dX2_testVerdict_14 (by decide) ?_
      refine x_aload_n (i := 1) (o := some it) dX2_testVerdict_16 rfl rfl ?_
      refine x_getIv (v := C (p + 1)) dX2_testVerdict_17 fX2_testVerdict_38 (i := 401) rfl rfl hi.1 (t1) ?_
      refine x_iadd dX2_testVerdict_20 ?_
      refine x_ireturn dX2_testVerdict_21 rfl (rfl) ⟨Nat.le_refl _, Nat.le_refl _⟩ ?_
      refine ⟨?_, rfl⟩
      rw [show z_vt X C p = 100 + C (p + 1) from if_pos c11]
