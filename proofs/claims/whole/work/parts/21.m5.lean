/-! THE REFERENCE: sums, items, rules, all -/
def q_more (C : Nat → Int32) (f b : Nat) : Bool × Nat := if C b = -14 then q_sum C f b else if C b = -15 then q_sum C f b else q_cmp C b
theorem q_sum_s (C : Nat → Int32) (f a : Nat) : q_sum C (f + 1) a = match q_term C a with
    | (false, b) => (false, b)
    | (true, b) => q_more C f b := rfl
def q_aft (C : Nat → Int32) (F f b : Nat) : Bool × Nat := if C b = -5 then q_items C F f (b + 1) else if C b = -6 then (true, b + 1) else (false, b)
theorem q_items_s (C : Nat → Int32) (F f a : Nat) : q_items C F (f + 1) a = match q_item C F a with
    | (false, b) => (false, b)
    | (true, b) => q_aft C F f b := rfl
set_option maxHeartbeats 4000000 in
set_option maxRecDepth 100000 in
theorem l_eatsSum (G : x_G) {h : x_H} {m : Nat} {l : List (Nat × Nat)} {C : Nat → Int32} (hr : m_R h m l C)  (h0 : x_H) (hz : x_sz h0 = x_sz h ∧ x_us h0 = x_us h) : ∀ (f b : Nat), b ≤ l.length → l.length - b < f → x_E G mX10_eatsSum (x_D G mX10_eatsSum h0 (fun r h1 => r = some (x_i (if (q_more C f b).1 = true then 1 else 0)) ∧ h1 = m_A h m (q_more C f b).2)) h0 5 [(0, x_r (some m)), (1, x_i 1)] [] (m_A h m b) := by
  have hll := hr.ll
  have hle : x_sz h0 ≤ x_sz h ∧ x_us h0 ≤ x_us h := ⟨Nat.le_of_eq hz.1, Nat.le_of_eq hz.2⟩
  intro f
  induction f with
  | zero => intro b hb hf; omega
  | succ f ih =>
    intro b hb hf
    refine x_iload_n (i := 1) (x := 1) dX10_eatsSum_5 rfl rfl ?_
    refine x_if_eq (tgt := 37) dX10_eatsSum_6 (by decide) (fun c => absurd c (by decide)) (fun _ => ?_)
    refine x_aload_n (i := 0) (o := some m) dX10_eatsSum_9 rfl rfl ?_
    refine x_ldc2 (v := 6181123443) dX10_eatsSum_10 kX10_eatsSum_98 ?_
    by_cases hc1 : C b = -14
    · skip
      have hc1b := hr.N.c hc1 (by decide)
      refine x_callV (a := m) (av := [x_l 6181123443]) (rest := []) (r := (some (x_i 1))) (h1 := m_A h m b) dX10_eatsSum_13 sX10_eatsSum_90 (mPk_0 hr.1) rfl rfl (Nat.le_of_ble_eq_true rfl) hle (e_sees_t G hr (a := b) (by omega) z_K_plus hc1) ?_
      show x_E _ _ _ _ 16 _ [x_i 1] _
      refine x_if_ne (tgt := 29) dX10_eatsSum_16 (by decide) (fun _ => ?_) (fun c => absurd c (by decide))
      refine x_aload_n (i := 0) (o := some m) dX10_eatsSum_29 rfl rfl ?_
      rcases hq3 : q_term C b with ⟨_ | _, b2⟩
      · skip
        have hq3b := q_term_st hr.N (a := b) (by omega)
        rw [hq3] at hq3b
        obtain ⟨hq3c, hq3d, hq3e⟩ := hq3b
        dsimp only at hq3c hq3d
        refine x_callV (a := m) (av := []) (rest := []) (r := (some (x_i 0))) (h1 := m_A h m b2) dX10_eatsSum_30 sX10_eatsSum_116 (mPk_0 hr.1) rfl rfl (Nat.le_of_ble_eq_true rfl) hle (e_eatsTerm G hr (a := b) (by omega) hq3) ?_
        show x_E _ _ _ _ 33 _ [x_i 0] _
        refine x_istore_n (i := 1) (lv' := [(0, x_r (some m)), (1, x_i 0)]) dX10_eatsSum_33 rfl (by decide) rfl ?_
        refine x_goto (tgt := 5) dX10_eatsSum_34 (by decide) ?_
        refine x_iload_n (i := 1) (x := 0) dX10_eatsSum_5 rfl rfl ?_
        refine x_if_eq (tgt := 37) dX10_eatsSum_6 (by decide) (fun _ => ?_) (fun c => absurd (by decide) c)
        refine x_iload_n (i := 1) (x := 0) dX10_eatsSum_37 rfl rfl ?_
        refine x_if_eq (tgt := 75) dX10_eatsSum_38 (by decide) (fun _ => ?_) (fun c => absurd (by decide) c)
        refine x_iconst (v := 0) dX10_eatsSum_75 (by decide) ?_
        refine x_ireturn dX10_eatsSum_76 rfl (rfl) hle ?_
        exact ⟨by simp only [q_more, q_cmp, q_sum_s, if_pos hc1, hq3, reduceIte, Bool.false_eq_true], by simp only [q_more, q_cmp, q_sum_s, if_pos hc1, hq3]⟩
      · skip
        have hq3b := q_term_st hr.N (a := b) (by omega)
        rw [hq3] at hq3b
        obtain ⟨hq3c, hq3d, hq3e⟩ := hq3b
        have hq3e := hq3e rfl
        dsimp only at hq3c hq3d hq3e
        refine x_callV (a := m) (av := []) (rest := []) (r := (some (x_i 1))) (h1 := m_A h m b2) dX10_eatsSum_30 sX10_eatsSum_116 (mPk_0 hr.1) rfl rfl (Nat.le_of_ble_eq_true rfl) hle (e_eatsTerm G hr (a := b) (by omega) hq3) ?_
        show x_E _ _ _ _ 33 _ [x_i 1] _
        refine x_istore_n (i := 1) (lv' := [(0, x_r (some m)), (1, x_i 1)]) dX10_eatsSum_33 rfl (by decide) rfl ?_
        refine x_goto (tgt := 5) dX10_eatsSum_34 (by decide) ?_
        simp only [q_more, q_sum_s, if_pos hc1, hq3]
        exact ih b2 (by omega) (by omega)
    · skip
      refine x_callV (a := m) (av := [x_l 6181123443]) (rest := []) (r := (some (x_i 0))) (h1 := m_A h m b) dX10_eatsSum_13 sX10_eatsSum_90 (mPk_0 hr.1) rfl rfl (Nat.le_of_ble_eq_true rfl) hle (e_sees_f G hr (a := b) (by omega) z_K_plus hc1) ?_
      show x_E _ _ _ _ 16 _ [x_i 0] _
      refine x_if_ne (tgt := 29) dX10_eatsSum_16 (by decide) (fun c => absurd c (by decide)) (fun _ => ?_)
      refine x_aload_n (i := 0) (o := some m) dX10_eatsSum_19 rfl rfl ?_
      refine x_ldc2 (v := 1569431909747) dX10_eatsSum_20 kX10_eatsSum_103 ?_
      by_cases hc4 : C b = -15
      · skip
        have hc4b := hr.N.c hc4 (by decide)
        refine x_callV (a := m) (av := [x_l 1569431909747]) (rest := []) (r := (some (x_i 1))) (h1 := m_A h m b) dX10_eatsSum_23 sX10_eatsSum_90 (mPk_0 hr.1) rfl rfl (Nat.le_of_ble_eq_true rfl) hle (e_sees_t G hr (a := b) (by omega) z_K_minus hc4) ?_
        show x_E _ _ _ _ 26 _ [x_i 1] _
        refine x_if_eq (tgt := 37) dX10_eatsSum_26 (by decide) (fun c => absurd c (by decide)) (fun _ => ?_)
        refine x_aload_n (i := 0) (o := some m) dX10_eatsSum_29 rfl rfl ?_
        rcases hq6 : q_term C b with ⟨_ | _, b5⟩
        · skip
          have hq6b := q_term_st hr.N (a := b) (by omega)
          rw [hq6] at hq6b
          obtain ⟨hq6c, hq6d, hq6e⟩ := hq6b
          dsimp only at hq6c hq6d
          refine x_callV (a := m) (av := []) (rest := []) (r := (some (x_i 0))) (h1 := m_A h m b5) dX10_eatsSum_30 sX10_eatsSum_116 (mPk_0 hr.1) rfl rfl (Nat.le_of_ble_eq_true rfl) hle (e_eatsTerm G hr (a := b) (by omega) hq6) ?_
          show x_E _ _ _ _ 33 _ [x_i 0] _
          refine x_istore_n (i := 1) (lv' := [(0, x_r (some m)), (1, x_i 0)]) dX10_eatsSum_33 rfl (by decide) rfl ?_
          refine x_goto (tgt := 5) dX10_eatsSum_34 (by decide) ?_
          refine x_iload_n (i := 1) (x := 0) dX10_eatsSum_5 rfl rfl ?_
          refine x_if_eq (tgt := 37) dX10_eatsSum_6 (by decide) (fun _ => ?_) (fun c => absurd (by decide) c)
          refine x_iload_n (i := 1) (x := 0) dX10_eatsSum_37 rfl rfl ?_
          refine x_if_eq (tgt := 75) dX10_eatsSum_38 (by decide) (fun _ => ?_) (fun c => absurd (by decide) c)
          refine x_iconst (v := 0) dX10_eatsSum_75 (by decide) ?_
          refine x_ireturn dX10_eatsSum_76 rfl (rfl) hle ?_
          exact ⟨by simp only [q_more, q_cmp, q_sum_s, if_neg hc1, if_pos hc4, hq6, reduceIte, Bool.false_eq_true], by simp only [q_more, q_cmp, q_sum_s, if_neg hc1, if_pos hc4, hq6]⟩
        · skip
          have hq6b := q_term_st hr.N (a := b) (by omega)
          rw [hq6] at hq6b
          obtain ⟨hq6c, hq6d, hq6e⟩ := hq6b
          have hq6e := hq6e rfl
          dsimp only at hq6c hq6d hq6e
          refine x_callV (a := m) (av := []) (rest := []) (r := (some (x_i 1))) (h1 := m_A h m b5) dX10_eatsSum_30 sX10_eatsSum_116 (mPk_0 hr.1) rfl rfl (Nat.le_of_ble_eq_true rfl) hle (e_eatsTerm G hr (a := b) (by omega) hq6) ?_
          show x_E _ _ _ _ 33 _ [x_i 1] _
          refine x_istore_n (i := 1) (lv' := [(0, x_r (some m)), (1, x_i 1)]) dX10_eatsSum_33 rfl (by decide) rfl ?_
          refine x_goto (tgt := 5) dX10_eatsSum_34 (by decide) ?_
          simp only [q_more, q_sum_s, if_neg hc1, if_pos hc4, hq6]
          exact ih b5 (by omega) (by omega)
      · skip
        refine x_callV (a := m) (av := [x_l 1569431909747]) (rest := []) (r := (some (x_i 0))) (h1 := m_A h m b) dX10_eatsSum_23 sX10_eatsSum_90 (mPk_0 hr.1) rfl rfl (Nat.le_of_ble_eq_true rfl) hle (e_sees_f G hr (a := b) (by omega) z_K_minus hc4) ?_
        show x_E _ _ _ _ 26 _ [x_i 0] _
        refine x_if_eq (tgt := 37) dX10_eatsSum_26 (by decide) (fun _ => ?_) (fun c => absurd (by decide) c)
        refine x_iload_n (i := 1) (x := 1) dX10_eatsSum_37 rfl rfl ?_
        refine x_if_eq (tgt := 75) dX10_eatsSum_38 (by decide) (fun c => absurd c (by decide)) (fun _ => ?_)
        refine x_aload_n (i := 0) (o := some m) dX10_eatsSum_41 rfl rfl ?_
        refine x_ldc2 (v := 6164997490) dX10_eatsSum_42 kX10_eatsSum_120 ?_
        by_cases hc7 : C b = -12
        · skip
          have hc7b := hr.N.c hc7 (by decide)
          refine x_callV (a := m) (av := [x_l 6164997490]) (rest := []) (r := (some (x_i 1))) (h1 := m_A h m (b + 1)) dX10_eatsSum_45 sX10_eatsSum_100 (mPk_0 hr.1) rfl rfl (Nat.le_of_ble_eq_true rfl) hle (e_eats_t G hr (a := b) (by omega) z_K_over hc7) ?_
          show x_E _ _ _ _ 48 _ [x_i 1] _
          refine x_if_ne (tgt := 61) dX10_eatsSum_48 (by decide) (fun _ => ?_) (fun c => absurd c (by decide))
          refine x_aload_n (i := 0) (o := some m) dX10_eatsSum_61 rfl rfl ?_
          refine x_iconst (v := 0) dX10_eatsSum_62 (by decide) ?_
          refine x_ldc (v := 999999999) dX10_eatsSum_63 kX10_eatsSum_113 ?_
          by_cases hc8 : q_n C 0 999999999 (b + 1)
          · skip
            have hc8b := hr.N.n hc8
            refine x_callV (a := m) (av := [x_i 0, x_i 999999999]) (rest := []) (r := (some (x_i 1))) (h1 := m_A h m (b + 2)) dX10_eatsSum_65 sX10_eatsSum_105 (mPk_0 hr.1) rfl rfl (Nat.le_of_ble_eq_true rfl) hle (e_eatsNumber_t G hr (a := b + 1) (by omega) hc8) ?_
            show x_E _ _ _ _ 68 _ [x_i 1] _
            refine x_if_eq (tgt := 75) dX10_eatsSum_68 (by decide) (fun c => absurd c (by decide)) (fun _ => ?_)
            refine x_iconst (v := 1) dX10_eatsSum_71 (by decide) ?_
            refine x_goto (tgt := 76) dX10_eatsSum_72 (by decide) ?_
            refine x_ireturn dX10_eatsSum_76 rfl (rfl) hle ?_
            exact ⟨by simp only [q_more, q_cmp, q_sum_s, if_neg hc1, if_neg hc4, if_pos hc7, if_pos hc8, reduceIte, Bool.false_eq_true], by simp only [q_more, q_cmp, q_sum_s, if_neg hc1, if_neg hc4, if_pos hc7, if_pos hc8]⟩
          · skip
            refine x_callV (a := m) (av := [x_i 0, x_i 999999999]) (rest := []) (r := (some (x_i 0))) (h1 := m_A h m (b + 1)) dX10_eatsSum_65 sX10_eatsSum_105 (mPk_0 hr.1) rfl rfl (Nat.le_of_ble_eq_true rfl) hle (e_eatsNumber_f G hr (a := b + 1) (by omega) hc8) ?_
            show x_E _ _ _ _ 68 _ [x_i 0] _
            refine x_if_eq (tgt := 75) dX10_eatsSum_68 (by decide) (fun _ => ?_) (fun c => absurd (by decide) c)
            refine x_iconst (v := 0) dX10_eatsSum_75 (by decide) ?_
            refine x_ireturn dX10_eatsSum_76 rfl (rfl) hle ?_
            exact ⟨by simp only [q_more, q_cmp, q_sum_s, if_neg hc1, if_neg hc4, if_pos hc7, if_neg hc8, reduceIte, Bool.false_eq_true], by simp only [q_more, q_cmp, q_sum_s, if_neg hc1, if_neg hc4, if_pos hc7, if_neg hc8]⟩
        · skip
          refine x_callV (a := m) (av := [x_l 6164997490]) (rest := []) (r := (some (x_i 0))) (h1 := m_A h m b) dX10_eatsSum_45 sX10_eatsSum_100 (mPk_0 hr.1) rfl rfl (Nat.le_of_ble_eq_true rfl) hle (e_eats_f G hr (a := b) (by omega) z_K_over hc7) ?_
          show x_E _ _ _ _ 48 _ [x_i 0] _
          refine x_if_ne (tgt := 61) dX10_eatsSum_48 (by decide) (fun c => absurd c (by decide)) (fun _ => ?_)
          refine x_aload_n (i := 0) (o := some m) dX10_eatsSum_51 rfl rfl ?_
          refine x_ldc2 (v := 1603874874738) dX10_eatsSum_52 kX10_eatsSum_122 ?_
          by_cases hc9 : C b = -13
          · skip
            have hc9b := hr.N.c hc9 (by decide)
            refine x_callV (a := m) (av := [x_l 1603874874738]) (rest := []) (r := (some (x_i 1))) (h1 := m_A h m (b + 1)) dX10_eatsSum_55 sX10_eatsSum_100 (mPk_0 hr.1) rfl rfl (Nat.le_of_ble_eq_true rfl) hle (e_eats_t G hr (a := b) (by omega) z_K_under hc9) ?_
            show x_E _ _ _ _ 58 _ [x_i 1] _
            refine x_if_eq (tgt := 75) dX10_eatsSum_58 (by decide) (fun c => absurd c (by decide)) (fun _ => ?_)
            refine x_aload_n (i := 0) (o := some m) dX10_eatsSum_61 rfl rfl ?_
            refine x_iconst (v := 0) dX10_eatsSum_62 (by decide) ?_
            refine x_ldc (v := 999999999) dX10_eatsSum_63 kX10_eatsSum_113 ?_
            by_cases hc10 : q_n C 0 999999999 (b + 1)
            · skip
              have hc10b := hr.N.n hc10
              refine x_callV (a := m) (av := [x_i 0, x_i 999999999]) (rest := []) (r := (some (x_i 1))) (h1 := m_A h m (b + 2)) dX10_eatsSum_65 sX10_eatsSum_105 (mPk_0 hr.1) rfl rfl (Nat.le_of_ble_eq_true rfl) hle (e_eatsNumber_t G hr (a := b + 1) (by omega) hc10) ?_
              show x_E _ _ _ _ 68 _ [x_i 1] _
              refine x_if_eq (tgt := 75) dX10_eatsSum_68 (by decide) (fun c => absurd c (by decide)) (fun _ => ?_)
              refine x_iconst (v := 1) dX10_eatsSum_71 (by decide) ?_
              refine x_goto (tgt := 76) dX10_eatsSum_72 (by decide) ?_
              refine x_ireturn dX10_eatsSum_76 rfl (rfl) hle ?_
              exact ⟨by simp only [q_more, q_cmp, q_sum_s, if_neg hc1, if_neg hc4, if_neg hc7, if_pos hc9, if_pos hc10, reduceIte, Bool.false_eq_true], by simp only [q_more, q_cmp, q_sum_s, if_neg hc1, if_neg hc4, if_neg hc7, if_pos hc9, if_pos hc10]⟩
            · skip
              refine x_callV (a := m) (av := [x_i 0, x_i 999999999]) (rest := []) (r := (some (x_i 0))) (h1 := m_A h m (b + 1)) dX10_eatsSum_65 sX10_eatsSum_105 (mPk_0 hr.1) rfl rfl (Nat.le_of_ble_eq_true rfl) hle (e_eatsNumber_f G hr (a := b + 1) (by omega) hc10) ?_
              show x_E _ _ _ _ 68 _ [x_i 0] _
              refine x_if_eq (tgt := 75) dX10_eatsSum_68 (by decide) (fun _ => ?_) (fun c => absurd (by decide) c)
              refine x_iconst (v := 0) dX10_eatsSum_75 (by decide) ?_
              refine x_ireturn dX10_eatsSum_76 rfl (rfl) hle ?_
              exact ⟨by simp only [q_more, q_cmp, q_sum_s, if_neg hc1, if_neg hc4, if_neg hc7, if_pos hc9, if_neg hc10, reduceIte, Bool.false_eq_true], by simp only [q_more, q_cmp, q_sum_s, if_neg hc1, if_neg hc4, if_neg hc7, if_pos hc9, if_neg hc10]⟩
          · skip
            refine x_callV (a := m) (av := [x_l 1603874874738]) (rest := []) (r := (some (x_i 0))) (h1 := m_A h m b) dX10_eatsSum_55 sX10_eatsSum_100 (mPk_0 hr.1) rfl rfl (Nat.le_of_ble_eq_true rfl) hle (e_eats_f G hr (a := b) (by omega) z_K_under hc9) ?_
            show x_E _ _ _ _ 58 _ [x_i 0] _
            refine x_if_eq (tgt := 75) dX10_eatsSum_58 (by decide) (fun _ => ?_) (fun c => absurd (by decide) c)
            refine x_iconst (v := 0) dX10_eatsSum_75 (by decide) ?_
            refine x_ireturn dX10_eatsSum_76 rfl (rfl) hle ?_
            exact ⟨by simp only [q_more, q_cmp, q_sum_s, if_neg hc1, if_neg hc4, if_neg hc7, if_neg hc9, reduceIte, Bool.false_eq_true], by simp only [q_more, q_cmp, q_sum_s, if_neg hc1, if_neg hc4, if_neg hc7, if_neg hc9]⟩
set_option maxHeartbeats 4000000 in
set_option maxRecDepth 100000 in
theorem c_eatsSum (G : x_G) {h : x_H} {m : Nat} {l : List (Nat × Nat)} {C : Nat → Int32} (hr : m_R h m l C) {a : Nat} (ha : a ≤ l.length) {F : Nat} (hF : l.length - a < F) : x_Call G mX10_eatsSum (m_A h m a) [x_r (some m)] (some (x_i (if (q_sum C F a).1 = true then 1 else 0))) (m_A h m (q_sum C F a).2) := by
  have hll := hr.ll
  obtain ⟨f, rfl⟩ : ∃ f, F = f + 1 := ⟨F - 1, by omega⟩
  refine x_Ex.call (x_enter mwX10_eatsSum (Nat.le_of_ble_eq_true rfl) ?_)
  show x_E _ _ _ _ _ [(0, x_r (some m))] _ _
  refine x_aload_n (i := 0) (o := some m) dX10_eatsSum_0 rfl rfl ?_
  rcases hq12 : q_term C a with ⟨_ | _, b11⟩
  · skip
    have hq12b := q_term_st hr.N (a := a) (by omega)
    rw [hq12] at hq12b
    obtain ⟨hq12c, hq12d, hq12e⟩ := hq12b
    dsimp only at hq12c hq12d
    refine x_callV (a := m) (av := []) (rest := []) (r := (some (x_i 0))) (h1 := m_A h m b11) dX10_eatsSum_1 sX10_eatsSum_116 (mPk_0 hr.1) rfl rfl (Nat.le_of_ble_eq_true rfl) ⟨Nat.le_refl _, Nat.le_refl _⟩ (e_eatsTerm G hr (a := a) (by omega) hq12) ?_
    show x_E _ _ _ _ 4 _ [x_i 0] _
    refine x_istore_n (i := 1) (lv' := [(0, x_r (some m)), (1, x_i 0)]) dX10_eatsSum_4 rfl (by decide) rfl ?_
    refine x_iload_n (i := 1) (x := 0) dX10_eatsSum_5 rfl rfl ?_
    refine x_if_eq (tgt := 37) dX10_eatsSum_6 (by decide) (fun _ => ?_) (fun c => absurd (by decide) c)
    refine x_iload_n (i := 1) (x := 0) dX10_eatsSum_37 rfl rfl ?_
    refine x_if_eq (tgt := 75) dX10_eatsSum_38 (by decide) (fun _ => ?_) (fun c => absurd (by decide) c)
    refine x_iconst (v := 0) dX10_eatsSum_75 (by decide) ?_
    refine x_ireturn dX10_eatsSum_76 rfl (rfl) ⟨Nat.le_refl _, Nat.le_refl _⟩ ?_
    exact ⟨by simp only [q_sum_s, hq12, reduceIte, Bool.false_eq_true], by simp only [q_sum_s, hq12]⟩
  · skip
    have hq12b := q_term_st hr.N (a := a) (by omega)
    rw [hq12] at hq12b
    obtain ⟨hq12c, hq12d, hq12e⟩ := hq12b
    have hq12e := hq12e rfl
    dsimp only at hq12c hq12d hq12e
    refine x_callV (a := m) (av := []) (rest := []) (r := (some (x_i 1))) (h1 := m_A h m b11) dX10_eatsSum_1 sX10_eatsSum_116 (mPk_0 hr.1) rfl rfl (Nat.le_of_ble_eq_true rfl) ⟨Nat.le_refl _, Nat.le_refl _⟩ (e_eatsTerm G hr (a := a) (by omega) hq12) ?_
    show x_E _ _ _ _ 4 _ [x_i 1] _
    refine x_istore_n (i := 1) (lv' := [(0, x_r (some m)), (1, x_i 1)]) dX10_eatsSum_4 rfl (by decide) rfl ?_
    simp only [q_sum_s, hq12]
    exact l_eatsSum G hr (m_A h m a) ⟨rfl, rfl⟩ f b11 (by omega) (by omega)
theorem e_eatsSum (G : x_G) {h : x_H} {m : Nat} {l : List (Nat × Nat)} {C : Nat → Int32} (hr : m_R h m l C) {a : Nat} (ha : a ≤ l.length) {F : Nat} (hF : l.length - a < F) {b : Nat} {g : Bool} (hq : q_sum C F a = (g, b)) : x_Call G mX10_eatsSum (m_A h m a) [x_r (some m)] (some (x_i (if g = true then 1 else 0))) (m_A h m b) := by
  have k := c_eatsSum G hr ha hF
  rw [hq] at k
  exact k
set_option maxHeartbeats 4000000 in
set_option maxRecDepth 100000 in
theorem c_eatsItem (G : x_G) {h : x_H} {m : Nat} {l : List (Nat × Nat)} {C : Nat → Int32} (hr : m_R h m l C) {a : Nat} (ha : a ≤ l.length) {F : Nat} (hF : l.length < F) : x_Call G mX10_eatsItem (m_A h m a) [x_r (some m)] (some (x_i (if (q_item C F a).1 = true then 1 else 0))) (m_A h m (q_item C F a).2) := by
  have hll := hr.ll
  refine x_Ex.call (x_enter mwX10_eatsItem (Nat.le_of_ble_eq_true rfl) ?_)
  show x_E _ _ _ _ _ [(0, x_r (some m))] _ _
  refine x_aload_n (i := 0) (o := some m) dX10_eatsItem_0 rfl rfl ?_
  refine x_ldc2 (v := 6247773044) dX10_eatsItem_1 kX10_eatsItem_124 ?_
  by_cases hc13 : C a = -7
  · skip
    have hc13b := hr.N.c hc13 (by decide)
    refine x_callV (a := m) (av := [x_l 6247773044]) (rest := []) (r := (some (x_i 1))) (h1 := m_A h m (a + 1)) dX10_eatsItem_4 sX10_eatsItem_100 (mPk_0 hr.1) rfl rfl (Nat.le_of_ble_eq_true rfl) ⟨Nat.le_refl _, Nat.le_refl _⟩ (e_eats_t G hr (a := a) (by omega) z_K_test hc13) ?_
    show x_E _ _ _ _ 7 _ [x_i 1] _
    refine x_if_eq (tgt := 56) dX10_eatsItem_7 (by decide) (fun c => absurd c (by decide)) (fun _ => ?_)
    refine x_aload_n (i := 0) (o := some m) dX10_eatsItem_10 rfl rfl ?_
    refine x_iconst (v := 0) dX10_eatsItem_11 (by decide) ?_
    refine x_bipush (v := 7) dX10_eatsItem_12 (by decide) ?_
    by_cases hc14 : q_n C 0 7 (a + 1)
    · skip
      have hc14b := hr.N.n hc14
      refine x_callV (a := m) (av := [x_i 0, x_i 7]) (rest := []) (r := (some (x_i 1))) (h1 := m_A h m (a + 2)) dX10_eatsItem_14 sX10_eatsItem_105 (mPk_0 hr.1) rfl rfl (Nat.le_of_ble_eq_true rfl) ⟨Nat.le_refl _, Nat.le_refl _⟩ (e_eatsNumber_t G hr (a := a + 1) (by omega) hc14) ?_
      show x_E _ _ _ _ 17 _ [x_i 1] _
      refine x_if_eq (tgt := 54) dX10_eatsItem_17 (by decide) (fun c => absurd c (by decide)) (fun _ => ?_)
      refine x_aload_n (i := 0) (o := some m) dX10_eatsItem_20 rfl rfl ?_
      refine x_ldc2 (v := 92531) dX10_eatsItem_21 kX10_eatsItem_126 ?_
      by_cases hc15 : C (a + 2) = -8
      · skip
        have hc15b := hr.N.c hc15 (by decide)
        refine x_callV (a := m) (av := [x_l 92531]) (rest := []) (r := (some (x_i 1))) (h1 := m_A h m (a + 3)) dX10_eatsItem_24 sX10_eatsItem_100 (mPk_0 hr.1) rfl rfl (Nat.le_of_ble_eq_true rfl) ⟨Nat.le_refl _, Nat.le_refl _⟩ (e_eats_t G hr (a := a + 2) (by omega) z_K_is hc15) ?_
        show x_E _ _ _ _ 27 _ [x_i 1] _
        refine x_if_ne (tgt := 40) dX10_eatsItem_27 (by decide) (fun _ => ?_) (fun c => absurd c (by decide))
        refine x_aload_n (i := 0) (o := some m) dX10_eatsItem_40 rfl rfl ?_
        refine x_iconst (v := 0) dX10_eatsItem_41 (by decide) ?_
        refine x_bipush (v := 9) dX10_eatsItem_42 (by decide) ?_
        by_cases hc16 : q_n C 0 9 (a + 3)
        · skip
          have hc16b := hr.N.n hc16
          refine x_callV (a := m) (av := [x_i 0, x_i 9]) (rest := []) (r := (some (x_i 1))) (h1 := m_A h m (a + 4)) dX10_eatsItem_44 sX10_eatsItem_105 (mPk_0 hr.1) rfl rfl (Nat.le_of_ble_eq_true rfl) ⟨Nat.le_refl _, Nat.le_refl _⟩ (e_eatsNumber_t G hr (a := a + 3) (by omega) hc16) ?_
          show x_E _ _ _ _ 47 _ [x_i 1] _
          refine x_if_eq (tgt := 54) dX10_eatsItem_47 (by decide) (fun c => absurd c (by decide)) (fun _ => ?_)
          refine x_iconst (v := 1) dX10_eatsItem_50 (by decide) ?_
          refine x_goto (tgt := 55) dX10_eatsItem_51 (by decide) ?_
          refine x_ireturn dX10_eatsItem_55 rfl (rfl) ⟨Nat.le_refl _, Nat.le_refl _⟩ ?_
          exact ⟨by simp only [q_item, q_test, if_pos hc13, if_pos hc14, if_pos hc15, if_pos hc16, reduceIte, Bool.false_eq_true], by simp only [q_item, q_test, if_pos hc13, if_pos hc14, if_pos hc15, if_pos hc16]⟩
        · skip
          refine x_callV (a := m) (av := [x_i 0, x_i 9]) (rest := []) (r := (some (x_i 0))) (h1 := m_A h m (a + 3)) dX10_eatsItem_44 sX10_eatsItem_105 (mPk_0 hr.1) rfl rfl (Nat.le_of_ble_eq_true rfl) ⟨Nat.le_refl _, Nat.le_refl _⟩ (e_eatsNumber_f G hr (a := a + 3) (by omega) hc16) ?_
          show x_E _ _ _ _ 47 _ [x_i 0] _
          refine x_if_eq (tgt := 54) dX10_eatsItem_47 (by decide) (fun _ => ?_) (fun c => absurd (by decide) c)
          refine x_iconst (v := 0) dX10_eatsItem_54 (by decide) ?_
          refine x_ireturn dX10_eatsItem_55 rfl (rfl) ⟨Nat.le_refl _, Nat.le_refl _⟩ ?_
          exact ⟨by simp only [q_item, q_test, if_pos hc13, if_pos hc14, if_pos hc15, if_neg hc16, reduceIte, Bool.false_eq_true], by simp only [q_item, q_test, if_pos hc13, if_pos hc14, if_pos hc15, if_neg hc16]⟩
      · skip
        refine x_callV (a := m) (av := [x_l 92531]) (rest := []) (r := (some (x_i 0))) (h1 := m_A h m (a + 2)) dX10_eatsItem_24 sX10_eatsItem_100 (mPk_0 hr.1) rfl rfl (Nat.le_of_ble_eq_true rfl) ⟨Nat.le_refl _, Nat.le_refl _⟩ (e_eats_f G hr (a := a + 2) (by omega) z_K_is hc15) ?_
        show x_E _ _ _ _ 27 _ [x_i 0] _
        refine x_if_ne (tgt := 40) dX10_eatsItem_27 (by decide) (fun c => absurd c (by decide)) (fun _ => ?_)
        refine x_aload_n (i := 0) (o := some m) dX10_eatsItem_30 rfl rfl ?_
        refine x_ldc2 (v := 24014708) dX10_eatsItem_31 kX10_eatsItem_128 ?_
        by_cases hc17 : C (a + 2) = -9
        · skip
          have hc17b := hr.N.c hc17 (by decide)
          refine x_callV (a := m) (av := [x_l 24014708]) (rest := []) (r := (some (x_i 1))) (h1 := m_A h m (a + 3)) dX10_eatsItem_34 sX10_eatsItem_100 (mPk_0 hr.1) rfl rfl (Nat.le_of_ble_eq_true rfl) ⟨Nat.le_refl _, Nat.le_refl _⟩ (e_eats_t G hr (a := a + 2) (by omega) z_K_not hc17) ?_
          show x_E _ _ _ _ 37 _ [x_i 1] _
          refine x_if_eq (tgt := 54) dX10_eatsItem_37 (by decide) (fun c => absurd c (by decide)) (fun _ => ?_)
          refine x_aload_n (i := 0) (o := some m) dX10_eatsItem_40 rfl rfl ?_
          refine x_iconst (v := 0) dX10_eatsItem_41 (by decide) ?_
          refine x_bipush (v := 9) dX10_eatsItem_42 (by decide) ?_
          by_cases hc18 : q_n C 0 9 (a + 3)
          · skip
            have hc18b := hr.N.n hc18
            refine x_callV (a := m) (av := [x_i 0, x_i 9]) (rest := []) (r := (some (x_i 1))) (h1 := m_A h m (a + 4)) dX10_eatsItem_44 sX10_eatsItem_105 (mPk_0 hr.1) rfl rfl (Nat.le_of_ble_eq_true rfl) ⟨Nat.le_refl _, Nat.le_refl _⟩ (e_eatsNumber_t G hr (a := a + 3) (by omega) hc18) ?_
            show x_E _ _ _ _ 47 _ [x_i 1] _
            refine x_if_eq (tgt := 54) dX10_eatsItem_47 (by decide) (fun c => absurd c (by decide)) (fun _ => ?_)
            refine x_iconst (v := 1) dX10_eatsItem_50 (by decide) ?_
            refine x_goto (tgt := 55) dX10_eatsItem_51 (by decide) ?_
            refine x_ireturn dX10_eatsItem_55 rfl (rfl) ⟨Nat.le_refl _, Nat.le_refl _⟩ ?_
            exact ⟨by simp only [q_item, q_test, if_pos hc13, if_pos hc14, if_neg hc15, if_pos hc17, if_pos hc18, reduceIte, Bool.false_eq_true], by simp only [q_item, q_test, if_pos hc13, if_pos hc14, if_neg hc15, if_pos hc17, if_pos hc18]⟩
          · skip
            refine x_callV (a := m) (av := [x_i 0, x_i 9]) (rest := []) (r := (some (x_i 0))) (h1 := m_A h m (a + 3)) dX10_eatsItem_44 sX10_eatsItem_105 (mPk_0 hr.1) rfl rfl (Nat.le_of_ble_eq_true rfl) ⟨Nat.le_refl _, Nat.le_refl _⟩ (e_eatsNumber_f G hr (a := a + 3) (by omega) hc18) ?_
            show x_E _ _ _ _ 47 _ [x_i 0] _
            refine x_if_eq (tgt := 54) dX10_eatsItem_47 (by decide) (fun _ => ?_) (fun c => absurd (by decide) c)
            refine x_iconst (v := 0) dX10_eatsItem_54 (by decide) ?_
            refine x_ireturn dX10_eatsItem_55 rfl (rfl) ⟨Nat.le_refl _, Nat.le_refl _⟩ ?_
            exact ⟨by simp only [q_item, q_test, if_pos hc13, if_pos hc14, if_neg hc15, if_pos hc17, if_neg hc18, reduceIte, Bool.false_eq_true], by simp only [q_item, q_test, if_pos hc13, if_pos hc14, if_neg hc15, if_pos hc17, if_neg hc18]⟩
        · skip
          refine x_callV (a := m) (av := [x_l 24014708]) (rest := []) (r := (some (x_i 0))) (h1 := m_A h m (a + 2)) dX10_eatsItem_34 sX10_eatsItem_100 (mPk_0 hr.1) rfl rfl (Nat.le_of_ble_eq_true rfl) ⟨Nat.le_refl _, Nat.le_refl _⟩ (e_eats_f G hr (a := a + 2) (by omega) z_K_not hc17) ?_
          show x_E _ _ _ _ 37 _ [x_i 0] _
          refine x_if_eq (tgt := 54) dX10_eatsItem_37 (by decide) (fun _ => ?_) (fun c => absurd (by decide) c)
          refine x_iconst (v := 0) dX10_eatsItem_54 (by decide) ?_
          refine x_ireturn dX10_eatsItem_55 rfl (rfl) ⟨Nat.le_refl _, Nat.le_refl _⟩ ?_
          exact ⟨by simp only [q_item, q_test, if_pos hc13, if_pos hc14, if_neg hc15, if_neg hc17, reduceIte, Bool.false_eq_true], by simp only [q_item, q_test, if_pos hc13, if_pos hc14, if_neg hc15, if_neg hc17]⟩
    · skip
      refine x_callV (a := m) (av := [x_i 0, x_i 7]) (rest := []) (r := (some (x_i 0))) (h1 := m_A h m (a + 1)) dX10_eatsItem_14 sX10_eatsItem_105 (mPk_0 hr.1) rfl rfl (Nat.le_of_ble_eq_true rfl) ⟨Nat.le_refl _, Nat.le_refl _⟩ (e_eatsNumber_f G hr (a := a + 1) (by omega) hc14) ?_
      show x_E _ _ _ _ 17 _ [x_i 0] _
      refine x_if_eq (tgt := 54) dX10_eatsItem_17 (by decide) (fun _ => ?_) (fun c => absurd (by decide) c)
      refine x_iconst (v := 0) dX10_eatsItem_54 (by decide) ?_
      refine x_ireturn dX10_eatsItem_55 rfl (rfl) ⟨Nat.le_refl _, Nat.le_refl _⟩ ?_
      exact ⟨by simp only [q_item, q_test, if_pos hc13, if_neg hc14, reduceIte, Bool.false_eq_true], by simp only [q_item, q_test, if_pos hc13, if_neg hc14]⟩
  · skip
    refine x_callV (a := m) (av := [x_l 6247773044]) (rest := []) (r := (some (x_i 0))) (h1 := m_A h m a) dX10_eatsItem_4 sX10_eatsItem_100 (mPk_0 hr.1) rfl rfl (Nat.le_of_ble_eq_true rfl) ⟨Nat.le_refl _, Nat.le_refl _⟩ (e_eats_f G hr (a := a) (by omega) z_K_test hc13) ?_
    show x_E _ _ _ _ 7 _ [x_i 0] _
    refine x_if_eq (tgt := 56) dX10_eatsItem_7 (by decide) (fun _ => ?_) (fun c => absurd (by decide) c)
    refine x_aload_n (i := 0) (o := some m) dX10_eatsItem_56 rfl rfl ?_
    refine x_ldc2 (v := 1548057601139) dX10_eatsItem_57 kX10_eatsItem_130 ?_
    by_cases hc19 : C a = -10
    · skip
      have hc19b := hr.N.c hc19 (by decide)
      refine x_callV (a := m) (av := [x_l 1548057601139]) (rest := []) (r := (some (x_i 1))) (h1 := m_A h m (a + 1)) dX10_eatsItem_60 sX10_eatsItem_100 (mPk_0 hr.1) rfl rfl (Nat.le_of_ble_eq_true rfl) ⟨Nat.le_refl _, Nat.le_refl _⟩ (e_eats_t G hr (a := a) (by omega) z_K_holds hc19) ?_
      show x_E _ _ _ _ 63 _ [x_i 1] _
      refine x_if_eq (tgt := 74) dX10_eatsItem_63 (by decide) (fun c => absurd c (by decide)) (fun _ => ?_)
      refine x_aload_n (i := 0) (o := some m) dX10_eatsItem_66 rfl rfl ?_
      refine x_iconst (v := 0) dX10_eatsItem_67 (by decide) ?_
      refine x_bipush (v := 19) dX10_eatsItem_68 (by decide) ?_
      by_cases hc20 : q_n C 0 19 (a + 1)
      · skip
        have hc20b := hr.N.n hc20
        refine x_callV (a := m) (av := [x_i 0, x_i 19]) (rest := []) (r := (some (x_i 1))) (h1 := m_A h m (a + 2)) dX10_eatsItem_70 sX10_eatsItem_105 (mPk_0 hr.1) rfl rfl (Nat.le_of_ble_eq_true rfl) ⟨Nat.le_refl _, Nat.le_refl _⟩ (e_eatsNumber_t G hr (a := a + 1) (by omega) hc20) ?_
        show x_E _ _ _ _ 73 _ [x_i 1] _
        refine x_ireturn dX10_eatsItem_73 rfl (rfl) ⟨Nat.le_refl _, Nat.le_refl _⟩ ?_
        exact ⟨by simp only [q_item, q_test, if_neg hc13, if_pos hc19, if_pos hc20, reduceIte, Bool.false_eq_true], by simp only [q_item, q_test, if_neg hc13, if_pos hc19, if_pos hc20]⟩
      · skip
        refine x_callV (a := m) (av := [x_i 0, x_i 19]) (rest := []) (r := (some (x_i 0))) (h1 := m_A h m (a + 1)) dX10_eatsItem_70 sX10_eatsItem_105 (mPk_0 hr.1) rfl rfl (Nat.le_of_ble_eq_true rfl) ⟨Nat.le_refl _, Nat.le_refl _⟩ (e_eatsNumber_f G hr (a := a + 1) (by omega) hc20) ?_
        show x_E _ _ _ _ 73 _ [x_i 0] _
        refine x_ireturn dX10_eatsItem_73 rfl (rfl) ⟨Nat.le_refl _, Nat.le_refl _⟩ ?_
        exact ⟨by simp only [q_item, q_test, if_neg hc13, if_pos hc19, if_neg hc20, reduceIte, Bool.false_eq_true], by simp only [q_item, q_test, if_neg hc13, if_pos hc19, if_neg hc20]⟩
    · skip
      refine x_callV (a := m) (av := [x_l 1548057601139]) (rest := []) (r := (some (x_i 0))) (h1 := m_A h m a) dX10_eatsItem_60 sX10_eatsItem_100 (mPk_0 hr.1) rfl rfl (Nat.le_of_ble_eq_true rfl) ⟨Nat.le_refl _, Nat.le_refl _⟩ (e_eats_f G hr (a := a) (by omega) z_K_holds hc19) ?_
      show x_E _ _ _ _ 63 _ [x_i 0] _
      refine x_if_eq (tgt := 74) dX10_eatsItem_63 (by decide) (fun _ => ?_) (fun c => absurd (by decide) c)
      refine x_aload_n (i := 0) (o := some m) dX10_eatsItem_74 rfl rfl ?_
      refine x_ldc2 (v := 24343917) dX10_eatsItem_75 kX10_eatsItem_132 ?_
      by_cases hc21 : C a = -11
      · skip
        have hc21b := hr.N.c hc21 (by decide)
        refine x_callV (a := m) (av := [x_l 24343917]) (rest := []) (r := (some (x_i 1))) (h1 := m_A h m (a + 1)) dX10_eatsItem_78 sX10_eatsItem_100 (mPk_0 hr.1) rfl rfl (Nat.le_of_ble_eq_true rfl) ⟨Nat.le_refl _, Nat.le_refl _⟩ (e_eats_t G hr (a := a) (by omega) z_K_sum hc21) ?_
        show x_E _ _ _ _ 81 _ [x_i 1] _
        refine x_if_eq (tgt := 95) dX10_eatsItem_81 (by decide) (fun c => absurd c (by decide)) (fun _ => ?_)
        refine x_aload_n (i := 0) (o := some m) dX10_eatsItem_84 rfl rfl ?_
        rcases hq23 : q_sum C F (a + 1) with ⟨_ | _, b22⟩
        · skip
          have hq23b := q_sum_st hr.N F (a + 1) (by omega)
          rw [hq23] at hq23b
          obtain ⟨hq23c, hq23d, hq23e⟩ := hq23b
          dsimp only at hq23c hq23d
          refine x_callV (a := m) (av := []) (rest := []) (r := (some (x_i 0))) (h1 := m_A h m b22) dX10_eatsItem_85 sX10_eatsItem_134 (mPk_0 hr.1) rfl rfl (Nat.le_of_ble_eq_true rfl) ⟨Nat.le_refl _, Nat.le_refl _⟩ (e_eatsSum G hr (a := a + 1) (by omega) (F := F) (by omega) hq23) ?_
          show x_E _ _ _ _ 88 _ [x_i 0] _
          refine x_if_eq (tgt := 95) dX10_eatsItem_88 (by decide) (fun _ => ?_) (fun c => absurd (by decide) c)
          refine x_iconst (v := 0) dX10_eatsItem_95 (by decide) ?_
          refine x_ireturn dX10_eatsItem_96 rfl (rfl) ⟨Nat.le_refl _, Nat.le_refl _⟩ ?_
          exact ⟨by simp only [q_item, q_test, if_neg hc13, if_neg hc19, if_pos hc21, hq23, reduceIte, Bool.false_eq_true], by simp only [q_item, q_test, if_neg hc13, if_neg hc19, if_pos hc21, hq23]⟩
        · skip
          have hq23b := q_sum_st hr.N F (a + 1) (by omega)
          rw [hq23] at hq23b
          obtain ⟨hq23c, hq23d, hq23e⟩ := hq23b
          have hq23e := hq23e rfl
          dsimp only at hq23c hq23d hq23e
          refine x_callV (a := m) (av := []) (rest := []) (r := (some (x_i 1))) (h1 := m_A h m b22) dX10_eatsItem_85 sX10_eatsItem_134 (mPk_0 hr.1) rfl rfl (Nat.le_of_ble_eq_true rfl) ⟨Nat.le_refl _, Nat.le_refl _⟩ (e_eatsSum G hr (a := a + 1) (by omega) (F := F) (by omega) hq23) ?_
          show x_E _ _ _ _ 88 _ [x_i 1] _
          refine x_if_eq (tgt := 95) dX10_eatsItem_88 (by decide) (fun c => absurd c (by decide)) (fun _ => ?_)
          refine x_iconst (v := 1) dX10_eatsItem_91 (by decide) ?_
          refine x_goto (tgt := 96) dX10_eatsItem_92 (by decide) ?_
          refine x_ireturn dX10_eatsItem_96 rfl (rfl) ⟨Nat.le_refl _, Nat.le_refl _⟩ ?_
          exact ⟨by simp only [q_item, q_test, if_neg hc13, if_neg hc19, if_pos hc21, hq23, reduceIte, Bool.false_eq_true], by simp only [q_item, q_test, if_neg hc13, if_neg hc19, if_pos hc21, hq23]⟩
      · skip
        refine x_callV (a := m) (av := [x_l 24343917]) (rest := []) (r := (some (x_i 0))) (h1 := m_A h m a) dX10_eatsItem_78 sX10_eatsItem_100 (mPk_0 hr.1) rfl rfl (Nat.le_of_ble_eq_true rfl) ⟨Nat.le_refl _, Nat.le_refl _⟩ (e_eats_f G hr (a := a) (by omega) z_K_sum hc21) ?_
        show x_E _ _ _ _ 81 _ [x_i 0] _
        refine x_if_eq (tgt := 95) dX10_eatsItem_81 (by decide) (fun _ => ?_) (fun c => absurd (by decide) c)
        refine x_iconst (v := 0) dX10_eatsItem_95 (by decide) ?_
        refine x_ireturn dX10_eatsItem_96 rfl (rfl) ⟨Nat.le_refl _, Nat.le_refl _⟩ ?_
        exact ⟨by simp only [q_item, q_test, if_neg hc13, if_neg hc19, if_neg hc21, reduceIte, Bool.false_eq_true], by simp only [q_item, q_test, if_neg hc13, if_neg hc19, if_neg hc21]⟩
theorem e_eatsItem (G : x_G) {h : x_H} {m : Nat} {l : List (Nat × Nat)} {C : Nat → Int32} (hr : m_R h m l C) {a : Nat} (ha : a ≤ l.length) {F : Nat} (hF : l.length < F) {b : Nat} {g : Bool} (hq : q_item C F a = (g, b)) : x_Call G mX10_eatsItem (m_A h m a) [x_r (some m)] (some (x_i (if g = true then 1 else 0))) (m_A h m b) := by
  have k := c_eatsItem G hr ha hF
  rw [hq] at k
  exact k
set_option maxHeartbeats 4000000 in
set_option maxRecDepth 100000 in
theorem l_eatsRule (G : x_G) {h : x_H} {m : Nat} {l : List (Nat × Nat)} {C : Nat → Int32} (hr : m_R h m l C)  {F : Nat} (hF : l.length < F) (h0 : x_H) (hz : x_sz h0 = x_sz h ∧ x_us h0 = x_us h) : ∀ (f b : Nat), b ≤ l.length → l.length - b < f → x_E G mX10_eatsRule (x_D G mX10_eatsRule h0 (fun r h1 => r = some (x_i (if (q_aft C F f b).1 = true then 1 else 0)) ∧ h1 = m_A h m (q_aft C F f b).2)) h0 43 [(0, x_r (some m)), (1, x_i 1)] [] (m_A h m b) := by
  have hll := hr.ll
  have hle : x_sz h0 ≤ x_sz h ∧ x_us h0 ≤ x_us h := ⟨Nat.le_of_eq hz.1, Nat.le_of_eq hz.2⟩
  intro f
  induction f with
  | zero => intro b hb hf; omega
  | succ f ih =>
    intro b hb hf
    refine x_iload_n (i := 1) (x := 1) dX10_eatsRule_43 rfl rfl ?_
    refine x_if_eq (tgt := 65) dX10_eatsRule_44 (by decide) (fun c => absurd c (by decide)) (fun _ => ?_)
    refine x_aload_n (i := 0) (o := some m) dX10_eatsRule_47 rfl rfl ?_
    refine x_ldc2 (v := 23162468) dX10_eatsRule_48 kX10_eatsRule_144 ?_
    by_cases hc24 : C b = -5
    · skip
      have hc24b := hr.N.c hc24 (by decide)
      refine x_callV (a := m) (av := [x_l 23162468]) (rest := []) (r := (some (x_i 1))) (h1 := m_A h m (b + 1)) dX10_eatsRule_51 sX10_eatsRule_100 (mPk_0 hr.1) rfl rfl (Nat.le_of_ble_eq_true rfl) hle (e_eats_t G hr (a := b) (by omega) z_K_and hc24) ?_
      show x_E _ _ _ _ 54 _ [x_i 1] _
      refine x_if_eq (tgt := 65) dX10_eatsRule_54 (by decide) (fun c => absurd c (by decide)) (fun _ => ?_)
      refine x_aload_n (i := 0) (o := some m) dX10_eatsRule_57 rfl rfl ?_
      rcases hq26 : q_item C F (b + 1) with ⟨_ | _, b25⟩
      · skip
        have hq26b := q_item_st (F := F) hr.N (a := b + 1) (by omega)
        rw [hq26] at hq26b
        obtain ⟨hq26c, hq26d, hq26e⟩ := hq26b
        dsimp only at hq26c hq26d
        refine x_callV (a := m) (av := []) (rest := []) (r := (some (x_i 0))) (h1 := m_A h m b25) dX10_eatsRule_58 sX10_eatsRule_141 (mPk_0 hr.1) rfl rfl (Nat.le_of_ble_eq_true rfl) hle (e_eatsItem G hr (a := b + 1) (by omega) (F := F) hF hq26) ?_
        show x_E _ _ _ _ 61 _ [x_i 0] _
        refine x_istore_n (i := 1) (lv' := [(0, x_r (some m)), (1, x_i 0)]) dX10_eatsRule_61 rfl (by decide) rfl ?_
        refine x_goto (tgt := 43) dX10_eatsRule_62 (by decide) ?_
        refine x_iload_n (i := 1) (x := 0) dX10_eatsRule_43 rfl rfl ?_
        refine x_if_eq (tgt := 65) dX10_eatsRule_44 (by decide) (fun _ => ?_) (fun c => absurd (by decide) c)
        refine x_iload_n (i := 1) (x := 0) dX10_eatsRule_65 rfl rfl ?_
        refine x_if_eq (tgt := 83) dX10_eatsRule_66 (by decide) (fun _ => ?_) (fun c => absurd (by decide) c)
        refine x_iconst (v := 0) dX10_eatsRule_83 (by decide) ?_
        refine x_ireturn dX10_eatsRule_84 rfl (rfl) hle ?_
        exact ⟨by simp only [q_aft, q_items_s, if_pos hc24, hq26, reduceIte, Bool.false_eq_true], by simp only [q_aft, q_items_s, if_pos hc24, hq26]⟩
      · skip
        have hq26b := q_item_st (F := F) hr.N (a := b + 1) (by omega)
        rw [hq26] at hq26b
        obtain ⟨hq26c, hq26d, hq26e⟩ := hq26b
        have hq26e := hq26e rfl
        dsimp only at hq26c hq26d hq26e
        refine x_callV (a := m) (av := []) (rest := []) (r := (some (x_i 1))) (h1 := m_A h m b25) dX10_eatsRule_58 sX10_eatsRule_141 (mPk_0 hr.1) rfl rfl (Nat.le_of_ble_eq_true rfl) hle (e_eatsItem G hr (a := b + 1) (by omega) (F := F) hF hq26) ?_
        show x_E _ _ _ _ 61 _ [x_i 1] _
        refine x_istore_n (i := 1) (lv' := [(0, x_r (some m)), (1, x_i 1)]) dX10_eatsRule_61 rfl (by decide) rfl ?_
        refine x_goto (tgt := 43) dX10_eatsRule_62 (by decide) ?_
        simp only [q_aft, q_items_s, if_pos hc24, hq26]
        exact ih b25 (by omega) (by omega)
    · skip
      refine x_callV (a := m) (av := [x_l 23162468]) (rest := []) (r := (some (x_i 0))) (h1 := m_A h m b) dX10_eatsRule_51 sX10_eatsRule_100 (mPk_0 hr.1) rfl rfl (Nat.le_of_ble_eq_true rfl) hle (e_eats_f G hr (a := b) (by omega) z_K_and hc24) ?_
      show x_E _ _ _ _ 54 _ [x_i 0] _
      refine x_if_eq (tgt := 65) dX10_eatsRule_54 (by decide) (fun _ => ?_) (fun c => absurd (by decide) c)
      refine x_iload_n (i := 1) (x := 1) dX10_eatsRule_65 rfl rfl ?_
      refine x_if_eq (tgt := 83) dX10_eatsRule_66 (by decide) (fun c => absurd c (by decide)) (fun _ => ?_)
      refine x_aload_n (i := 0) (o := some m) dX10_eatsRule_69 rfl rfl ?_
      refine x_ldc2 (v := 23424612) dX10_eatsRule_70 kX10_eatsRule_146 ?_
      by_cases hc27 : C b = -6
      · skip
        have hc27b := hr.N.c hc27 (by decide)
        refine x_callV (a := m) (av := [x_l 23424612]) (rest := []) (r := (some (x_i 1))) (h1 := m_A h m (b + 1)) dX10_eatsRule_73 sX10_eatsRule_100 (mPk_0 hr.1) rfl rfl (Nat.le_of_ble_eq_true rfl) hle (e_eats_t G hr (a := b) (by omega) z_K_end hc27) ?_
        show x_E _ _ _ _ 76 _ [x_i 1] _
        refine x_if_eq (tgt := 83) dX10_eatsRule_76 (by decide) (fun c => absurd c (by decide)) (fun _ => ?_)
        refine x_iconst (v := 1) dX10_eatsRule_79 (by decide) ?_
        refine x_goto (tgt := 84) dX10_eatsRule_80 (by decide) ?_
        refine x_ireturn dX10_eatsRule_84 rfl (rfl) hle ?_
        exact ⟨by simp only [q_aft, q_items_s, if_neg hc24, if_pos hc27, reduceIte, Bool.false_eq_true], by simp only [q_aft, q_items_s, if_neg hc24, if_pos hc27]⟩
      · skip
        refine x_callV (a := m) (av := [x_l 23424612]) (rest := []) (r := (some (x_i 0))) (h1 := m_A h m b) dX10_eatsRule_73 sX10_eatsRule_100 (mPk_0 hr.1) rfl rfl (Nat.le_of_ble_eq_true rfl) hle (e_eats_f G hr (a := b) (by omega) z_K_end hc27) ?_
        show x_E _ _ _ _ 76 _ [x_i 0] _
        refine x_if_eq (tgt := 83) dX10_eatsRule_76 (by decide) (fun _ => ?_) (fun c => absurd (by decide) c)
        refine x_iconst (v := 0) dX10_eatsRule_83 (by decide) ?_
        refine x_ireturn dX10_eatsRule_84 rfl (rfl) hle ?_
        exact ⟨by simp only [q_aft, q_items_s, if_neg hc24, if_neg hc27, reduceIte, Bool.false_eq_true], by simp only [q_aft, q_items_s, if_neg hc24, if_neg hc27]⟩
set_option maxHeartbeats 4000000 in
set_option maxRecDepth 100000 in
theorem c_eatsRule (G : x_G) {h : x_H} {m : Nat} {l : List (Nat × Nat)} {C : Nat → Int32} (hr : m_R h m l C) {a : Nat} (ha : a ≤ l.length) {F : Nat} (hF : l.length < F) : x_Call G mX10_eatsRule (m_A h m a) [x_r (some m)] (some (x_i (if (q_rule C F a).1 = true then 1 else 0))) (m_A h m (q_rule C F a).2) := by
  have hll := hr.ll
  obtain ⟨f, rfl⟩ : ∃ f, F = f + 1 := ⟨F - 1, by omega⟩
  refine x_Ex.call (x_enter mwX10_eatsRule (Nat.le_of_ble_eq_true rfl) ?_)
  show x_E _ _ _ _ _ [(0, x_r (some m))] _ _
  refine x_aload_n (i := 0) (o := some m) dX10_eatsRule_0 rfl rfl ?_
  refine x_ldc2 (v := 1526531715955) dX10_eatsRule_1 kX10_eatsRule_137 ?_
  by_cases hc28 : C a = -3
  · skip
    have hc28b := hr.N.c hc28 (by decide)
    refine x_callV (a := m) (av := [x_l 1526531715955]) (rest := []) (r := (some (x_i 1))) (h1 := m_A h m (a + 1)) dX10_eatsRule_4 sX10_eatsRule_100 (mPk_0 hr.1) rfl rfl (Nat.le_of_ble_eq_true rfl) ⟨Nat.le_refl _, Nat.le_refl _⟩ (e_eats_t G hr (a := a) (by omega) z_K_class hc28) ?_
    show x_E _ _ _ _ 7 _ [x_i 1] _
    refine x_if_eq (tgt := 41) dX10_eatsRule_7 (by decide) (fun c => absurd c (by decide)) (fun _ => ?_)
    refine x_aload_n (i := 0) (o := some m) dX10_eatsRule_10 rfl rfl ?_
    refine x_iconst (v := 0) dX10_eatsRule_11 (by decide) ?_
    refine x_bipush (v := 19) dX10_eatsRule_12 (by decide) ?_
    by_cases hc29 : q_n C 0 19 (a + 1)
    · skip
      have hc29b := hr.N.n hc29
      refine x_callV (a := m) (av := [x_i 0, x_i 19]) (rest := []) (r := (some (x_i 1))) (h1 := m_A h m (a + 2)) dX10_eatsRule_14 sX10_eatsRule_105 (mPk_0 hr.1) rfl rfl (Nat.le_of_ble_eq_true rfl) ⟨Nat.le_refl _, Nat.le_refl _⟩ (e_eatsNumber_t G hr (a := a + 1) (by omega) hc29) ?_
      show x_E _ _ _ _ 17 _ [x_i 1] _
      refine x_if_eq (tgt := 41) dX10_eatsRule_17 (by decide) (fun c => absurd c (by decide)) (fun _ => ?_)
      refine x_aload_n (i := 0) (o := some m) dX10_eatsRule_20 rfl rfl ?_
      refine x_ldc2 (v := 6298297710) dX10_eatsRule_21 kX10_eatsRule_139 ?_
      by_cases hc30 : C (a + 2) = -4
      · skip
        have hc30b := hr.N.c hc30 (by decide)
        refine x_callV (a := m) (av := [x_l 6298297710]) (rest := []) (r := (some (x_i 1))) (h1 := m_A h m (a + 3)) dX10_eatsRule_24 sX10_eatsRule_100 (mPk_0 hr.1) rfl rfl (Nat.le_of_ble_eq_true rfl) ⟨Nat.le_refl _, Nat.le_refl _⟩ (e_eats_t G hr (a := a + 2) (by omega) z_K_when hc30) ?_
        show x_E _ _ _ _ 27 _ [x_i 1] _
        refine x_if_eq (tgt := 41) dX10_eatsRule_27 (by decide) (fun c => absurd c (by decide)) (fun _ => ?_)
        refine x_aload_n (i := 0) (o := some m) dX10_eatsRule_30 rfl rfl ?_
        rcases hq32 : q_item C (f + 1) (a + 3) with ⟨_ | _, b31⟩
        · skip
          have hq32b := q_item_st (F := f + 1) hr.N (a := a + 3) (by omega)
          rw [hq32] at hq32b
          obtain ⟨hq32c, hq32d, hq32e⟩ := hq32b
          dsimp only at hq32c hq32d
          refine x_callV (a := m) (av := []) (rest := []) (r := (some (x_i 0))) (h1 := m_A h m b31) dX10_eatsRule_31 sX10_eatsRule_141 (mPk_0 hr.1) rfl rfl (Nat.le_of_ble_eq_true rfl) ⟨Nat.le_refl _, Nat.le_refl _⟩ (e_eatsItem G hr (a := a + 3) (by omega) (F := f + 1) hF hq32) ?_
          show x_E _ _ _ _ 34 _ [x_i 0] _
          refine x_if_eq (tgt := 41) dX10_eatsRule_34 (by decide) (fun _ => ?_) (fun c => absurd (by decide) c)
          refine x_iconst (v := 0) dX10_eatsRule_41 (by decide) ?_
          refine x_istore_n (i := 1) (lv' := [(0, x_r (some m)), (1, x_i 0)]) dX10_eatsRule_42 rfl (by decide) rfl ?_
          refine x_iload_n (i := 1) (x := 0) dX10_eatsRule_43 rfl rfl ?_
          refine x_if_eq (tgt := 65) dX10_eatsRule_44 (by decide) (fun _ => ?_) (fun c => absurd (by decide) c)
          refine x_iload_n (i := 1) (x := 0) dX10_eatsRule_65 rfl rfl ?_
          refine x_if_eq (tgt := 83) dX10_eatsRule_66 (by decide) (fun _ => ?_) (fun c => absurd (by decide) c)
          refine x_iconst (v := 0) dX10_eatsRule_83 (by decide) ?_
          refine x_ireturn dX10_eatsRule_84 rfl (rfl) ⟨Nat.le_refl _, Nat.le_refl _⟩ ?_
          exact ⟨by simp only [q_rule, q_items_s, if_pos hc28, if_pos hc29, if_pos hc30, hq32, reduceIte, Bool.false_eq_true], by simp only [q_rule, q_items_s, if_pos hc28, if_pos hc29, if_pos hc30, hq32]⟩
        · skip
          have hq32b := q_item_st (F := f + 1) hr.N (a := a + 3) (by omega)
          rw [hq32] at hq32b
          obtain ⟨hq32c, hq32d, hq32e⟩ := hq32b
          have hq32e := hq32e rfl
          dsimp only at hq32c hq32d hq32e
          refine x_callV (a := m) (av := []) (rest := []) (r := (some (x_i 1))) (h1 := m_A h m b31) dX10_eatsRule_31 sX10_eatsRule_141 (mPk_0 hr.1) rfl rfl (Nat.le_of_ble_eq_true rfl) ⟨Nat.le_refl _, Nat.le_refl _⟩ (e_eatsItem G hr (a := a + 3) (by omega) (F := f + 1) hF hq32) ?_
          show x_E _ _ _ _ 34 _ [x_i 1] _
          refine x_if_eq (tgt := 41) dX10_eatsRule_34 (by decide) (fun c => absurd c (by decide)) (fun _ => ?_)
          refine x_iconst (v := 1) dX10_eatsRule_37 (by decide) ?_
          refine x_goto (tgt := 42) dX10_eatsRule_38 (by decide) ?_
          refine x_istore_n (i := 1) (lv' := [(0, x_r (some m)), (1, x_i 1)]) dX10_eatsRule_42 rfl (by decide) rfl ?_
          simp only [q_rule, q_items_s, if_pos hc28, if_pos hc29, if_pos hc30, hq32]
          exact l_eatsRule G hr (F := f + 1) hF (m_A h m a) ⟨rfl, rfl⟩ f b31 (by omega) (by omega)
      · skip
        refine x_callV (a := m) (av := [x_l 6298297710]) (rest := []) (r := (some (x_i 0))) (h1 := m_A h m (a + 2)) dX10_eatsRule_24 sX10_eatsRule_100 (mPk_0 hr.1) rfl rfl (Nat.le_of_ble_eq_true rfl) ⟨Nat.le_refl _, Nat.le_refl _⟩ (e_eats_f G hr (a := a + 2) (by omega) z_K_when hc30) ?_
        show x_E _ _ _ _ 27 _ [x_i 0] _
        refine x_if_eq (tgt := 41) dX10_eatsRule_27 (by decide) (fun _ => ?_) (fun c => absurd (by decide) c)
        refine x_iconst (v := 0) dX10_eatsRule_41 (by decide) ?_
        refine x_istore_n (i := 1) (lv' := [(0, x_r (some m)), (1, x_i 0)]) dX10_eatsRule_42 rfl (by decide) rfl ?_
        refine x_iload_n (i := 1) (x := 0) dX10_eatsRule_43 rfl rfl ?_
        refine x_if_eq (tgt := 65) dX10_eatsRule_44 (by decide) (fun _ => ?_) (fun c => absurd (by decide) c)
        refine x_iload_n (i := 1) (x := 0) dX10_eatsRule_65 rfl rfl ?_
        refine x_if_eq (tgt := 83) dX10_eatsRule_66 (by decide) (fun _ => ?_) (fun c => absurd (by decide) c)
        refine x_iconst (v := 0) dX10_eatsRule_83 (by decide) ?_
        refine x_ireturn dX10_eatsRule_84 rfl (rfl) ⟨Nat.le_refl _, Nat.le_refl _⟩ ?_
        exact ⟨by simp only [q_rule, q_items_s, if_pos hc28, if_pos hc29, if_neg hc30, reduceIte, Bool.false_eq_true], by simp only [q_rule, q_items_s, if_pos hc28, if_pos hc29, if_neg hc30]⟩
    · skip
      refine x_callV (a := m) (av := [x_i 0, x_i 19]) (rest := []) (r := (some (x_i 0))) (h1 := m_A h m (a + 1)) dX10_eatsRule_14 sX10_eatsRule_105 (mPk_0 hr.1) rfl rfl (Nat.le_of_ble_eq_true rfl) ⟨Nat.le_refl _, Nat.le_refl _⟩ (e_eatsNumber_f G hr (a := a + 1) (by omega) hc29) ?_
      show x_E _ _ _ _ 17 _ [x_i 0] _
      refine x_if_eq (tgt := 41) dX10_eatsRule_17 (by decide) (fun _ => ?_) (fun c => absurd (by decide) c)
      refine x_iconst (v := 0) dX10_eatsRule_41 (by decide) ?_
      refine x_istore_n (i := 1) (lv' := [(0, x_r (some m)), (1, x_i 0)]) dX10_eatsRule_42 rfl (by decide) rfl ?_
      refine x_iload_n (i := 1) (x := 0) dX10_eatsRule_43 rfl rfl ?_
      refine x_if_eq (tgt := 65) dX10_eatsRule_44 (by decide) (fun _ => ?_) (fun c => absurd (by decide) c)
      refine x_iload_n (i := 1) (x := 0) dX10_eatsRule_65 rfl rfl ?_
      refine x_if_eq (tgt := 83) dX10_eatsRule_66 (by decide) (fun _ => ?_) (fun c => absurd (by decide) c)
      refine x_iconst (v := 0) dX10_eatsRule_83 (by decide) ?_
      refine x_ireturn dX10_eatsRule_84 rfl (rfl) ⟨Nat.le_refl _, Nat.le_refl _⟩ ?_
      exact ⟨by simp only [q_rule, q_items_s, if_pos hc28, if_neg hc29, reduceIte, Bool.false_eq_true], by simp only [q_rule, q_items_s, if_pos hc28, if_neg hc29]⟩
  · skip
    refine x_callV (a := m) (av := [x_l 1526531715955]) (rest := []) (r := (some (x_i 0))) (h1 := m_A h m a) dX10_eatsRule_4 sX10_eatsRule_100 (mPk_0 hr.1) rfl rfl (Nat.le_of_ble_eq_true rfl) ⟨Nat.le_refl _, Nat.le_refl _⟩ (e_eats_f G hr (a := a) (by omega) z_K_class hc28) ?_
    show x_E _ _ _ _ 7 _ [x_i 0] _
    refine x_if_eq (tgt := 41) dX10_eatsRule_7 (by decide) (fun _ => ?_) (fun c => absurd (by decide) c)
    refine x_iconst (v := 0) dX10_eatsRule_41 (by decide) ?_
    refine x_istore_n (i := 1) (lv' := [(0, x_r (some m)), (1, x_i 0)]) dX10_eatsRule_42 rfl (by decide) rfl ?_
    refine x_iload_n (i := 1) (x := 0) dX10_eatsRule_43 rfl rfl ?_
    refine x_if_eq (tgt := 65) dX10_eatsRule_44 (by decide) (fun _ => ?_) (fun c => absurd (by decide) c)
    refine x_iload_n (i := 1) (x := 0) dX10_eatsRule_65 rfl rfl ?_
    refine x_if_eq (tgt := 83) dX10_eatsRule_66 (by decide) (fun _ => ?_) (fun c => absurd (by decide) c)
    refine x_iconst (v := 0) dX10_eatsRule_83 (by decide) ?_
    refine x_ireturn dX10_eatsRule_84 rfl (rfl) ⟨Nat.le_refl _, Nat.le_refl _⟩ ?_
    exact ⟨by simp only [q_rule, q_items_s, if_neg hc28, reduceIte, Bool.false_eq_true], by simp only [q_rule, q_items_s, if_neg hc28]⟩
theorem e_eatsRule (G : x_G) {h : x_H} {m : Nat} {l : List (Nat × Nat)} {C : Nat → Int32} (hr : m_R h m l C) {a : Nat} (ha : a ≤ l.length) {F : Nat} (hF : l.length < F) {b : Nat} {g : Bool} (hq : q_rule C F a = (g, b)) : x_Call G mX10_eatsRule (m_A h m a) [x_r (some m)] (some (x_i (if g = true then 1 else 0))) (m_A h m b) := by
  have k := c_eatsRule G hr ha hF
  rw [hq] at k
  exact k
