/-! THE CLASS: Reader: readItem; adding items -/
theorem y_ri.pre {h h' : x_H} {w n a b s1 s2 p : Nat} {q : Bool × Nat} {C : Nat → Int32} {r : Option x_V} {v : Int32} (k : y_ri (x_sI h 802 w v) h' w n b s2 q p C r) (hs : a + s2 ≤ b + s1) : y_ri h h' w n a s1 q p C r := by
  obtain ⟨k1, k2, k3, k4, k5⟩ := k
  refine ⟨(y_F.rf.I (fun _ => ⟨rfl, rfl⟩)).tr k1 (fun _ _ z => z) (fun _ _ _ z => z) (fun _ z => z) (fun _ _ z => z), k2, ?_, k4, k5⟩
  have : x_sz (x_sI h 802 w v) = x_sz h := rfl
  rw [this] at k3
  omega
set_option maxHeartbeats 4000000 in
set_option maxRecDepth 100000 in
theorem c_readItem {G : x_G} {ad st vl : Nat → Nat} {kt : Nat × Option Nat} (hG : x_GS G ad st vl kt) {h : x_H} {w n p rd : Nat} {C : Nat → Int32} (hT : c_T h w n p C) (hw : w + 1 < x_sz h) (hrd : rd < x_sz h ∧ x_kd h rd = 5 ∧ x_fr h 501 rd = some w) : x_Ex G mX5_readItem h [x_r (some rd)] (fun r h' => y_ri h h' w n p 1 (q_item C 1501 p) p C r) := by
  have h15 := hT.2.2.2.1
  have han := hT.2.2.2.2.1
  refine x_enter mwX5_readItem (Nat.le_of_ble_eq_true rfl) ?_
  show x_E _ _ _ _ _ [(0, x_r (some rd))] _ _
  refine x_E.eq (h2 := x_sI h 802 w (nI p)) ?_ rfl rfl rfl (x_sI_id hT.2.2.1).symm
  refine x_aload_n (i := 0) (o := some rd) dX5_readItem_0 rfl rfl ?_
  refine x_getRv (v := some w) dX5_readItem_1 fX5_readItem_18 (i := 501) rfl rfl (by first | exact hrd.2.1 | (simp only [x_kd_sI, x_kd_sR]; exact hrd.2.1)) ((by first | exact hrd.2.2 | (simp only [x_fr_sI]; exact hrd.2.2))) ?_
  refine x_gets (v := x_r (some (ad 5))) dX5_readItem_4 fX5_readItem_96 (fun U hU => ((hG U hU).2.2.1 5 (by decide)).1) ?_
  by_cases q7 : C p = -7
  · skip
    have hbq7 := hT.2.2.2.2.2.2.c q7 (by decide)
    refine x_callV (a := w) (av := [x_r (some (ad 5))]) (rest := []) (r := (some (x_i 1))) (h1 := x_sI h 802 w (nI (p + 1))) dX5_readItem_7 sX5_readItem_34 (by first | exact hT.1.1 | (simp only [x_kd_sI, x_kd_sR]; exact hT.1.1)) rfl rfl (Nat.le_of_ble_eq_true rfl) (by first | exact ⟨Nat.le_refl _, Nat.le_refl _⟩ | exact hFg.le | exact hri.1.le) (d_take_t hG hT (k := 5) (by decide) q7) ?_
    show x_E _ _ _ _ 10 _ [x_i 1] _
    refine x_if_eq (tgt := 18) dX5_readItem_10 (by decide) (fun c => absurd c (by decide)) (fun _ => ?_)
    refine x_aload_n (i := 0) (o := some rd) dX5_readItem_13 rfl rfl ?_
    obtain ⟨rr, h2, hri, hct⟩ := c_readTest hG (h := x_sI h 802 w (nI (p + 1))) (p := p) (rd := rd) (hT.to (by omega)) hw hrd q7
    have hv : ∃ v, rr = some (x_r v) := by
      rcases hri.2.2.2.2 with z | z
      · exact ⟨_, z.2.1⟩
      · exact ⟨_, z.2⟩
    obtain ⟨v, rfl⟩ := hv
    refine x_callV (a := rd) (av := []) (rest := []) (r := (some (x_r v))) (h1 := h2) dX5_readItem_14 sX5_readItem_99 (by first | exact hrd.2.1 | (simp only [x_kd_sI, x_kd_sR]; exact hrd.2.1)) rfl rfl (Nat.le_of_ble_eq_true rfl) (by first | exact ⟨Nat.le_refl _, Nat.le_refl _⟩ | exact hFg.le | exact hri.1.le) (hct) ?_
    show x_E _ _ _ _ 17 _ [x_r v] _
    refine x_areturn dX5_readItem_17 rfl (by first | exact ⟨Nat.le_refl _, Nat.le_refl _⟩ | exact hFg.le | exact hri.1.le) ?_
    rw [show q_item C 1501 p = q_test C (p + 1) from by rw [q_item, if_pos q7]]
    exact hri.pre (by omega)
  · skip
    refine x_callV (a := w) (av := [x_r (some (ad 5))]) (rest := []) (r := (some (x_i 0))) (h1 := x_sI h 802 w (nI p)) dX5_readItem_7 sX5_readItem_34 (by first | exact hT.1.1 | (simp only [x_kd_sI, x_kd_sR]; exact hT.1.1)) rfl rfl (Nat.le_of_ble_eq_true rfl) (by first | exact ⟨Nat.le_refl _, Nat.le_refl _⟩ | exact hFg.le | exact hri.1.le) (d_take_f hG hT (k := 5) (b := p) (by omega) (by decide) q7) ?_
    show x_E _ _ _ _ 10 _ [x_i 0] _
    refine x_if_eq (tgt := 18) dX5_readItem_10 (by decide) (fun _ => ?_) (fun c => absurd (by decide) c)
    refine x_aload_n (i := 0) (o := some rd) dX5_readItem_18 rfl rfl ?_
    refine x_getRv (v := some w) dX5_readItem_19 fX5_readItem_18 (i := 501) rfl rfl (by first | exact hrd.2.1 | (simp only [x_kd_sI, x_kd_sR]; exact hrd.2.1)) ((by first | exact hrd.2.2 | (simp only [x_fr_sI]; exact hrd.2.2))) ?_
    refine x_gets (v := x_r (some (ad 8))) dX5_readItem_22 fX5_readItem_102 (fun U hU => ((hG U hU).2.2.1 8 (by decide)).1) ?_
    by_cases q10 : C p = -10
    · skip
      have hbq10 := hT.2.2.2.2.2.2.c q10 (by decide)
      refine x_callV (a := w) (av := [x_r (some (ad 8))]) (rest := []) (r := (some (x_i 1))) (h1 := x_sI h 802 w (nI (p + 1))) dX5_readItem_25 sX5_readItem_34 (by first | exact hT.1.1 | (simp only [x_kd_sI, x_kd_sR]; exact hT.1.1)) rfl rfl (Nat.le_of_ble_eq_true rfl) (by first | exact ⟨Nat.le_refl _, Nat.le_refl _⟩ | exact hFg.le | exact hri.1.le) (d_take_t hG hT (k := 8) (by decide) q10) ?_
      show x_E _ _ _ _ 28 _ [x_i 1] _
      refine x_if_eq (tgt := 61) dX5_readItem_28 (by decide) (fun c => absurd c (by decide)) (fun _ => ?_)
      refine x_aload_n (i := 0) (o := some rd) dX5_readItem_31 rfl rfl ?_
      refine x_getRv (v := some w) dX5_readItem_32 fX5_readItem_18 (i := 501) rfl rfl (by first | exact hrd.2.1 | (simp only [x_kd_sI, x_kd_sR]; exact hrd.2.1)) ((by first | exact hrd.2.2 | (simp only [x_fr_sI]; exact hrd.2.2))) ?_
      refine x_iconst (v := 0) dX5_readItem_35 (by decide) ?_
      refine x_bipush (v := 19) dX5_readItem_36 (by decide) ?_
      by_cases qn : q_n C 0 19 (p + 1)
      · skip
        have hbqn := hT.2.2.2.2.2.2.n qn
        refine x_callV (a := w) (av := [x_i 0, x_i 19]) (rest := []) (r := (some (x_i (C (p + 1))))) (h1 := x_sI h 802 w (nI (p + 2))) dX5_readItem_38 sX5_readItem_49 (by first | exact hT.1.1 | (simp only [x_kd_sI, x_kd_sR]; exact hT.1.1)) rfl rfl (Nat.le_of_ble_eq_true rfl) (by first | exact ⟨Nat.le_refl _, Nat.le_refl _⟩ | exact hFg.le | exact hri.1.le) (d_num_t G hT qn) ?_
        show x_E _ _ _ _ 41 _ [x_i (C (p + 1))] _
        refine x_istore_n (i := 1) (lv' := [(0, x_r (some rd)), (1, x_i (C (p + 1)))]) dX5_readItem_41 rfl (by decide) rfl ?_
        refine x_iload_n (i := 1) (x := C (p + 1)) dX5_readItem_42 rfl rfl ?_
        refine x_iconst (v := (-1)) dX5_readItem_43 (by decide) ?_
        refine x_icmp_ne (tgt := 51) dX5_readItem_44 (by decide) (fun c44 => ?_) (fun c44 => ?_)
        · skip
          refine x_new dX5_readItem_51 nX5_readItem_105 (by first | exact ⟨Nat.le_refl _, Nat.le_refl _⟩ | exact hFg.le | exact hri.1.le) ?_
          show x_E _ _ _ _ 54 _ [x_r (some (x_sz h))] _
          refine x_dup dX5_readItem_54 rfl ?_
          refine x_iconst (v := 1) dX5_readItem_55 (by decide) ?_
          refine x_iload_n (i := 1) (x := C (p + 1)) dX5_readItem_56 rfl rfl ?_
          obtain ⟨_, g, ⟨rfl, hob⟩, hca⟩ := c_n_it G (h := x_nO (x_sI h 802 w (nI (p + 2))) 4 7) (t := x_sz h) x_nO_k 1 (C (p + 1))
          refine x_callI (a := x_sz h) (av := [x_i 1, x_i (C (p + 1))]) (rest := [x_r (some (x_sz h))]) (r := none) (h1 := g) dX5_readItem_57 sX5_readItem_107 rfl rfl (Nat.le_of_ble_eq_true rfl) y_nO_F.le (hca) ?_
          show x_E _ _ _ _ 60 _ [x_r (some (x_sz h))] _
          have hFg : y_F h g (fun i q => i = 802 ∧ q = w) (fun _ => False) := y_nO_F.ob hob (Nat.le_refl _)
          have h8g : x_fi g 802 w = nI (p + 2) := (hob.2.2.2.2.2.2.2.1 802 w (by omega)).1.trans (x_nO_at (by omega))
          have hTg : c_T g w n (p + 2) C := hT.F hw hFg (by omega) (by omega) (fun z => z) h8g (by omega)
          have hfi := hob.2.2.2.2.2.2.2.2.1
          have hfr := hob.2.2.2.2.2.2.2.2.2
          have hsg : x_sz g = x_sz h + 1 := hob.1.trans rfl
          have hug : x_us g = x_us h + 7 := hob.2.1.trans rfl
          refine x_areturn dX5_readItem_60 rfl (by first | exact ⟨Nat.le_refl _, Nat.le_refl _⟩ | exact hFg.le | exact hri.1.le) ?_
          rw [show q_item C 1501 p = (true, p + 2) from by rw [q_item, if_neg (by rw [q10]; decide), if_pos q10, if_pos qn]]
          refine ⟨hFg, hTg, ?_, ?_, Or.inl ⟨rfl, rfl, by omega, ⟨(congrFun hob.2.2.1 _).trans x_nO_k, ?_, fun z => ?_, fun _ => hfi 401, fun z => ?_⟩, hfr 404⟩⟩
          · show p + 2 * (x_sz g - x_sz h) ≤ p + 2 + 1
            omega
          · omega
          · rw [show z_ik C p = 1 from by unfold z_ik; rw [if_neg (by rw [q10]; decide), if_pos q10]]
            exact hfi 400
          · rw [q10] at z; exact absurd z (by decide)
          · rw [q10] at z; exact absurd z (by decide)
        · skip
          exact absurd c44 (z_neg1 qn.1)
      · skip
        refine x_callV (a := w) (av := [x_i 0, x_i 19]) (rest := []) (r := (some (x_i ((-1))))) (h1 := x_sI h 802 w (nI (p + 1))) dX5_readItem_38 sX5_readItem_49 (by first | exact hT.1.1 | (simp only [x_kd_sI, x_kd_sR]; exact hT.1.1)) rfl rfl (Nat.le_of_ble_eq_true rfl) (by first | exact ⟨Nat.le_refl _, Nat.le_refl _⟩ | exact hFg.le | exact hri.1.le) (d_num_f G hT (b := p + 1) (by omega) (by decide) qn) ?_
        show x_E _ _ _ _ 41 _ [x_i ((-1))] _
        refine x_istore_n (i := 1) (lv' := [(0, x_r (some rd)), (1, x_i ((-1)))]) dX5_readItem_41 rfl (by decide) rfl ?_
        refine x_iload_n (i := 1) (x := (-1)) dX5_readItem_42 rfl rfl ?_
        refine x_iconst (v := (-1)) dX5_readItem_43 (by decide) ?_
        refine x_icmp_ne (tgt := 51) dX5_readItem_44 (by decide) (fun c => absurd c (by decide)) (fun _ => ?_)
        refine x_null dX5_readItem_47 ?_
        refine x_goto (tgt := 60) dX5_readItem_48 (by decide) ?_
        refine x_areturn dX5_readItem_60 rfl (by first | exact ⟨Nat.le_refl _, Nat.le_refl _⟩ | exact hFg.le | exact hri.1.le) ?_
        rw [show q_item C 1501 p = (false, p + 1) from by rw [q_item, if_neg (by rw [q10]; decide), if_pos q10, if_neg qn]]
        refine ⟨y_F.rf.I (fun _ => ⟨rfl, rfl⟩), hT.to (b := p + 1) (by omega), ?_, ?_, Or.inr ⟨rfl, rfl⟩⟩
        · show p + 2 * (x_sz h - x_sz h) ≤ p + 1 + 1
          omega
        · show x_us h - x_us h ≤ 9 * (x_sz h - x_sz h)
          omega
    · skip
      refine x_callV (a := w) (av := [x_r (some (ad 8))]) (rest := []) (r := (some (x_i 0))) (h1 := x_sI h 802 w (nI p)) dX5_readItem_25 sX5_readItem_34 (by first | exact hT.1.1 | (simp only [x_kd_sI, x_kd_sR]; exact hT.1.1)) rfl rfl (Nat.le_of_ble_eq_true rfl) (by first | exact ⟨Nat.le_refl _, Nat.le_refl _⟩ | exact hFg.le | exact hri.1.le) (d_take_f hG hT (k := 8) (b := p) (by omega) (by decide) q10) ?_
      show x_E _ _ _ _ 28 _ [x_i 0] _
      refine x_if_eq (tgt := 61) dX5_readItem_28 (by decide) (fun _ => ?_) (fun c => absurd (by decide) c)
      refine x_aload_n (i := 0) (o := some rd) dX5_readItem_61 rfl rfl ?_
      refine x_getRv (v := some w) dX5_readItem_62 fX5_readItem_18 (i := 501) rfl rfl (by first | exact hrd.2.1 | (simp only [x_kd_sI, x_kd_sR]; exact hrd.2.1)) ((by first | exact hrd.2.2 | (simp only [x_fr_sI]; exact hrd.2.2))) ?_
      refine x_gets (v := x_r (some (ad 9))) dX5_readItem_65 fX5_readItem_108 (fun U hU => ((hG U hU).2.2.1 9 (by decide)).1) ?_
      by_cases q11 : C p = -11
      · skip
        have hbq11 := hT.2.2.2.2.2.2.c q11 (by decide)
        refine x_callV (a := w) (av := [x_r (some (ad 9))]) (rest := []) (r := (some (x_i 1))) (h1 := x_sI h 802 w (nI (p + 1))) dX5_readItem_68 sX5_readItem_34 (by first | exact hT.1.1 | (simp only [x_kd_sI, x_kd_sR]; exact hT.1.1)) rfl rfl (Nat.le_of_ble_eq_true rfl) (by first | exact ⟨Nat.le_refl _, Nat.le_refl _⟩ | exact hFg.le | exact hri.1.le) (d_take_t hG hT (k := 9) (by decide) q11) ?_
        show x_E _ _ _ _ 71 _ [x_i 1] _
        refine x_if_eq (tgt := 81) dX5_readItem_71 (by decide) (fun c => absurd c (by decide)) (fun _ => ?_)
        refine x_aload_n (i := 0) (o := some rd) dX5_readItem_74 rfl rfl ?_
        obtain ⟨rr, h2, hri, hct⟩ := c_readSum hG (h := x_sI h 802 w (nI (p + 1))) (p := p) (rd := rd) (hT.to (by omega)) hw hrd q11
        have hv : ∃ v, rr = some (x_r v) := by
          rcases hri.2.2.2.2 with z | z
          · exact ⟨_, z.2.1⟩
          · exact ⟨_, z.2⟩
        obtain ⟨v, rfl⟩ := hv
        refine x_callV (a := rd) (av := []) (rest := []) (r := (some (x_r v))) (h1 := h2) dX5_readItem_75 sX5_readItem_111 (by first | exact hrd.2.1 | (simp only [x_kd_sI, x_kd_sR]; exact hrd.2.1)) rfl rfl (Nat.le_of_ble_eq_true rfl) (by first | exact ⟨Nat.le_refl _, Nat.le_refl _⟩ | exact hFg.le | exact hri.1.le) (hct) ?_
        show x_E _ _ _ _ 78 _ [x_r v] _
        refine x_goto (tgt := 82) dX5_readItem_78 (by decide) ?_
        refine x_areturn dX5_readItem_82 rfl (by first | exact ⟨Nat.le_refl _, Nat.le_refl _⟩ | exact hFg.le | exact hri.1.le) ?_
        rw [show q_item C 1501 p = q_sum C 1501 (p + 1) from by rw [q_item, if_neg (by rw [q11]; decide), if_neg (by rw [q11]; decide), if_pos q11]]
        exact hri.pre (by omega)
      · skip
        refine x_callV (a := w) (av := [x_r (some (ad 9))]) (rest := []) (r := (some (x_i 0))) (h1 := x_sI h 802 w (nI p)) dX5_readItem_68 sX5_readItem_34 (by first | exact hT.1.1 | (simp only [x_kd_sI, x_kd_sR]; exact hT.1.1)) rfl rfl (Nat.le_of_ble_eq_true rfl) (by first | exact ⟨Nat.le_refl _, Nat.le_refl _⟩ | exact hFg.le | exact hri.1.le) (d_take_f hG hT (k := 9) (b := p) (by omega) (by decide) q11) ?_
        show x_E _ _ _ _ 71 _ [x_i 0] _
        refine x_if_eq (tgt := 81) dX5_readItem_71 (by decide) (fun _ => ?_) (fun c => absurd (by decide) c)
        refine x_null dX5_readItem_81 ?_
        refine x_areturn dX5_readItem_82 rfl (by first | exact ⟨Nat.le_refl _, Nat.le_refl _⟩ | exact hFg.le | exact hri.1.le) ?_
        rw [show q_item C 1501 p = (false, p) from by rw [q_item, if_neg q7, if_neg q10, if_neg q11]]
        refine ⟨y_F.rf.I (fun _ => ⟨rfl, rfl⟩), hT.to (b := p) (by omega), ?_, ?_, Or.inr ⟨rfl, rfl⟩⟩
        · show p + 2 * (x_sz h - x_sz h) ≤ p + 1
          omega
        · show x_us h - x_us h ≤ 9 * (x_sz h - x_sz h)
          omega
/-- an item is put behind the others -/
theorem c_addItemL (G : x_G) {C : Nat → Int32} {h : x_H} {i t a : Nat} {ts L : List Nat} (hk : x_kd h i = 6) (h5 : x_fr h 607 i = ts.head?) (h6 : x_fr h 608 i = ts.getLast?) (hc : x_fi h 604 i = nI ts.length) (hs : y_is C h ts L) (ht : y_it C h t a) (hn : x_fr h 404 t = none) (hlt : t < x_sz h) (hgt : ∀ x ∈ ts, x < t) : x_Ex G mX6_addItem h [x_r (some i), x_r (some t)] (fun r h3 => r = none ∧ (x_sz h3 = x_sz h ∧ x_us h3 = x_us h ∧ x_fi h3 604 i = nI (ts.length + 1)) ∧ y_F h h3 (fun f q => ((f = 604 ∨ f = 607 ∨ f = 608) ∧ q = i) ∨ (f = 404 ∧ q ∈ ts)) (fun _ => False) ∧ y_is C h3 (ts ++ [t]) (L ++ [a]) ∧ x_fr h3 607 i = (ts ++ [t]).head? ∧ x_fr h3 608 i = (ts ++ [t]).getLast?) := by
  obtain ⟨s1, s2, s3, s4⟩ := hs
  have fin : ∀ h3, (x_sz h3 = x_sz h ∧ x_us h3 = x_us h) → y_F h h3 (fun f q => ((f = 604 ∨ f = 607 ∨ f = 608) ∧ q = i) ∨ (f = 404 ∧ q ∈ ts)) (fun _ => False) → (∀ x, ts.getLast? = some x → x_fr h3 404 x = some t) → (∀ x ∈ ts, ¬ ts.getLast? = some x → x_fr h3 404 x = x_fr h 404 x) → y_is C h3 (ts ++ [t]) (L ++ [a]) := by
    intro h3 hz k g1 g2
    have e7 : ∀ x b, x < x_sz h → y_it C h x b → y_it C h3 x b := by
      intro x b hx m
      exact m.F hx k (fun f z1 z2 z3 => by omega) (fun f q z1 z2 => by omega)
    refine ⟨by rw [List.length_append, List.length_append, s1]; rfl, ⟨List.pairwise_append.mpr ⟨s2.1, List.pairwise_singleton _ _, fun x hx y hy => ?_⟩, fun x hx => ?_⟩, y_lk_add s3 s2.1 ?_ g2 g1, fun j x b hj hb => ?_⟩
    · cases List.mem_singleton.mp hy
      exact hgt x hx
    · rw [hz.1]
      rcases List.mem_append.mp hx with hx | hx
      · exact s2.2 x hx
      · cases List.mem_singleton.mp hx
        exact hlt
    · rw [k.fr hlt (fun z => by
        rcases z with z | z
        · omega
        · exact absurd (hgt t z.2) (Nat.lt_irrefl _))]
      exact hn
    · rcases Nat.lt_trichotomy j ts.length with hl | hl | hl
      · rw [List.getElem?_append_left hl] at hj
        rw [List.getElem?_append_left (by omega)] at hb
        exact e7 x b (s2.2 x (List.mem_of_getElem? hj)) (s4 j x b hj hb)
      · rw [List.getElem?_append_right (by omega), show j - ts.length = 0 by omega] at hj
        rw [List.getElem?_append_right (by omega), show j - L.length = 0 by omega] at hb
        cases hj
        cases hb
        exact e7 t a hlt ht
      · rw [List.getElem?_eq_none (by simp; omega)] at hj
        cases hj
  rcases List.eq_nil_or_concat ts with rfl | ⟨l0, l, rfl⟩
  · have kF : y_F h (x_sI (x_sR (x_sR h 607 i (some t)) 608 i (some t)) 604 i (nI (([] : List Nat).length + 1))) (fun f q => ((f = 604 ∨ f = 607 ∨ f = 608) ∧ q = i) ∨ (f = 404 ∧ q ∈ ([] : List Nat))) (fun _ => False) := ((y_F.rf.Rf (fun _ => Or.inl ⟨by omega, rfl⟩)).Rf (fun _ => Or.inl ⟨by omega, rfl⟩)).I (fun _ => Or.inl ⟨by omega, rfl⟩)
    refine ⟨none, x_sI (x_sR (x_sR h 607 i (some t)) 608 i (some t)) 604 i (nI (([] : List Nat).length + 1)), ⟨rfl, ⟨rfl, rfl, ?_⟩, kF, fin _ ⟨rfl, rfl⟩ kF (fun x hx => by simp at hx) (fun x hx => by simp at hx), ?_, ?_⟩, c_addItem_0 G hk h6 hc⟩
    · rw [x_fi_sI, if_pos ⟨rfl, rfl⟩]
    · rw [x_fr_sI, x_fr_sR, if_neg (by omega), x_fr_sR, if_pos ⟨rfl, rfl⟩]
      rfl
    · rw [x_fr_sI, x_fr_sR, if_pos ⟨rfl, rfl⟩]
      rfl
  · rw [List.concat_eq_append] at *
    have hm : l ∈ l0 ++ [l] := by simp
    have hl6 : x_fr h 608 i = some l := by rw [h6]; simp
    have hkl : x_kd h l = 4 := by
      obtain ⟨b, hb⟩ : ∃ b, L[l0.length]? = some b := ⟨_, List.getElem?_eq_getElem (by rw [← s1]; simp)⟩
      exact (s4 l0.length l b (by simp) hb).1
    have kF : y_F h (x_sI (x_sR (x_sR h 404 l (some t)) 608 i (some t)) 604 i (nI ((l0 ++ [l]).length + 1))) (fun f q => ((f = 604 ∨ f = 607 ∨ f = 608) ∧ q = i) ∨ (f = 404 ∧ q ∈ l0 ++ [l])) (fun _ => False) := ((y_F.rf.Rf (fun _ => Or.inr ⟨rfl, hm⟩)).Rf (fun _ => Or.inl ⟨by omega, rfl⟩)).I (fun _ => Or.inl ⟨by omega, rfl⟩)
    refine ⟨none, x_sI (x_sR (x_sR h 404 l (some t)) 608 i (some t)) 604 i (nI ((l0 ++ [l]).length + 1)), ⟨rfl, ⟨rfl, rfl, ?_⟩, kF, fin _ ⟨rfl, rfl⟩ kF (fun x hx => ?_) (fun x hx hx2 => ?_), ?_, ?_⟩, c_addItem_1 G hk hl6 hkl hc⟩
    · rw [x_fi_sI, if_pos ⟨rfl, rfl⟩]
    · have : x = l := by simpa using hx.symm
      subst this
      rw [x_fr_sI, x_fr_sR, if_neg (by omega), x_fr_sR, if_pos ⟨rfl, rfl⟩]
    · rw [x_fr_sI, x_fr_sR, if_neg (by omega), x_fr_sR, if_neg (fun z => hx2 (by rw [z.2]; simp))]
    · rw [x_fr_sI, x_fr_sR, if_neg (by omega), x_fr_sR, if_neg (by omega), h5]
      cases l0 <;> rfl
    · rw [x_fr_sI, x_fr_sR, if_pos ⟨rfl, rfl⟩]
      simp
