/-! THE REFERENCE: judge -/
/-- while rule k is judged: u is what its items have made so far -/
def m_J (h h1 : x_H) (m k : Nat) (u : Int32) : Prop := x_F h h1 (fun i a => a = m ∧ (i = 1026 ∨ i = 1027 ∨ i = 1028)) (fun a => a = m + 15) ∧ (∀ j, ¬ j = k → x_rw h1 (m + 15) j = x_rw h (m + 15) j) ∧ (u = -2 → x_rw h1 (m + 15) k = -1) ∧ (0 ≤ u → x_rw h1 (m + 15) k = u)
theorem m_J.F {h h1 h2 : x_H} {m k : Nat} {u : Int32} (a : m_J h h1 m k u) (hF : x_F h1 h2 (fun i a => a = m ∧ (i = 1026 ∨ i = 1027 ∨ i = 1028)) (fun _ => False)) : m_J h h2 m k u := by
  obtain ⟨a1, a2, a3, a4⟩ := a
  refine ⟨a1.tr hF (fun _ _ z => z) (fun _ _ z => z) (fun _ z => z) (fun _ z => z.elim), ?_, ?_, ?_⟩
  · rw [hF.rw (fun z => z)]; exact a2
  · rw [hF.rw (fun z => z)]; exact a3
  · rw [hF.rw (fun z => z)]; exact a4
theorem m_J.A {h h1 : x_H} {m k : Nat} {u v : Int32} (a : m_J h h1 m k u) (h1v : ¬ v = -2) (w : Int32) (hw : 0 ≤ v → w = v) : m_J h (x_sA h1 (m + 15) k w) m k v := by
  obtain ⟨a1, a2, a3, a4⟩ := a
  refine ⟨a1.A rfl, fun j hj => ?_, fun z => absurd z h1v, fun z => ?_⟩
  · rw [x_rw_sA, if_neg (fun y => hj y.2)]
    exact a2 j hj
  · rw [x_rw_sA, if_pos ⟨rfl, rfl⟩]
    exact hw z
theorem m_J.to {h h1 : x_H} {m k : Nat} {u v : Int32} (a : m_J h h1 m k u) (h1v : v = u ∨ v = -3) : m_J h h1 m k v := by
  rcases h1v with rfl | rfl
  · exact a
  · exact ⟨a.1, a.2.1, fun z => absurd z (by decide), fun z => absurd z (by decide)⟩
theorem z_dec3 {v : Int32} (h : v = -2 ∨ v = -3 ∨ 0 ≤ v) : (v = -2 ∧ z_st v = 1) ∨ (v = -3 ∧ z_st v = 0) ∨ (0 ≤ v ∧ z_st v = 2 ∧ ¬ v = -2 ∧ ¬ v = -3) := by
  rcases h with rfl | rfl | h
  · exact Or.inl ⟨rfl, rfl⟩
  · exact Or.inr (Or.inl ⟨rfl, rfl⟩)
  · exact Or.inr (Or.inr ⟨h, z_st_op h, fun z => by rw [z] at h; exact absurd h (by decide), fun z => by rw [z] at h; exact absurd h (by decide)⟩)
theorem z_acc3 {u v : Int32} (h : u = -2 ∨ u = -3 ∨ 0 ≤ u) (h2 : v = -2 ∨ v = -3 ∨ 0 ≤ v) : z_acc u v = -2 ∨ z_acc u v = -3 ∨ 0 ≤ z_acc u v := by
  unfold z_acc
  split
  · exact Or.inr (Or.inl rfl)
  · split
    · exact Or.inr (Or.inl rfl)
    · split
      · exact h2
      · exact h
set_option maxHeartbeats 4000000 in
set_option maxRecDepth 100000 in
theorem l_judge80 (G : x_G) {h h1 : x_H} {m k : Nat} (hpm : mP h m) (hk6 : k < 60) (h0 : x_H) (D : Room → x_Z → Prop) {u v : Int32} (hu0 : u = -2 ∨ u = -3 ∨ 0 ≤ u) (hv0 : v = -2 ∨ v = -3 ∨ 0 ≤ v) (hJ : m_J h h1 m k u) (hlk : 0 ≤ v → x_fi h1 1027 m = v) (itv : Int32) (kx : ∀ h3, m_J h h3 m k (z_acc u v) → x_E G mX10_judge D h0 133 [(0, x_r (some m)), (1, x_i (nI k)), (2, x_i (z_st (z_acc u v))), (3, x_i itv), (4, x_i (z_st v))] [] h3) : x_E G mX10_judge D h0 80 [(0, x_r (some m)), (1, x_i (nI k)), (2, x_i (z_st u)), (3, x_i itv)] [x_i (z_st v)] h1 := by
  rcases z_dec3 hu0 with ⟨hu, ou⟩ | ⟨hu, ou⟩ | ⟨hu, ou, hu2, hu3⟩ <;> rcases z_dec3 hv0 with ⟨hv, ov⟩ | ⟨hv, ov⟩ | ⟨hv, ov, hv2, hv3⟩
  · skip
    have hu3 : ¬ u = -3 := by rw [hu]; decide
    have hv3 : ¬ v = -3 := by rw [hv]; decide
    rw [show z_acc u v = v by unfold z_acc; rw [if_neg hu3, if_neg hv3, if_pos hu]] at kx
    rw [ou, ov]
    refine x_istore (i := 4) (lv' := [(0, x_r (some m)), (1, x_i (nI k)), (2, x_i 1), (3, x_i itv), (4, x_i 1)]) dX10_judge_80 (by decide) rfl ?_
    refine x_iload (i := 4) (x := 1) dX10_judge_82 rfl ?_
    refine x_iconst (v := 2) dX10_judge_84 (by decide) ?_
    refine x_icmp_ne (tgt := 108) dX10_judge_85 (by decide) (fun _ => ?_) (fun c => absurd c (by decide))
    refine x_iload (i := 4) (x := 1) dX10_judge_108 rfl ?_
    refine x_if_eq (tgt := 117) dX10_judge_110 (by decide) (fun c => absurd c (by decide)) (fun _ => ?_)
    refine x_iload_n (i := 2) (x := 1) dX10_judge_113 rfl rfl ?_
    refine x_if_ne (tgt := 121) dX10_judge_114 (by decide) (fun _ => ?_) (fun c => absurd c (by decide))
    refine x_iload (i := 4) (x := 1) dX10_judge_121 rfl ?_
    refine x_iconst (v := 2) dX10_judge_123 (by decide) ?_
    refine x_icmp_ne (tgt := 131) dX10_judge_124 (by decide) (fun _ => ?_) (fun c => absurd c (by decide))
    refine x_iload_n (i := 2) (x := 1) dX10_judge_131 rfl rfl ?_
    refine x_istore_n (i := 2) (lv' := [(0, x_r (some m)), (1, x_i (nI k)), (2, x_i 1), (3, x_i itv), (4, x_i 1)]) dX10_judge_132 rfl (by decide) rfl ?_
    have k9 := kx h1 (hJ.to (Or.inl (by rw [hv, hu])))
    rw [ov] at k9
    exact k9
  · skip
    have hu3 : ¬ u = -3 := by rw [hu]; decide
    rw [show z_acc u v = -3 by unfold z_acc; rw [if_neg hu3, if_pos hv]] at kx
    rw [ou, ov]
    refine x_istore (i := 4) (lv' := [(0, x_r (some m)), (1, x_i (nI k)), (2, x_i 1), (3, x_i itv), (4, x_i 0)]) dX10_judge_80 (by decide) rfl ?_
    refine x_iload (i := 4) (x := 0) dX10_judge_82 rfl ?_
    refine x_iconst (v := 2) dX10_judge_84 (by decide) ?_
    refine x_icmp_ne (tgt := 108) dX10_judge_85 (by decide) (fun _ => ?_) (fun c => absurd c (by decide))
    refine x_iload (i := 4) (x := 0) dX10_judge_108 rfl ?_
    refine x_if_eq (tgt := 117) dX10_judge_110 (by decide) (fun _ => ?_) (fun c => absurd (by decide) c)
    refine x_iconst (v := 0) dX10_judge_117 (by decide) ?_
    refine x_goto (tgt := 132) dX10_judge_118 (by decide) ?_
    refine x_istore_n (i := 2) (lv' := [(0, x_r (some m)), (1, x_i (nI k)), (2, x_i 0), (3, x_i itv), (4, x_i 0)]) dX10_judge_132 rfl (by decide) rfl ?_
    have k9 := kx h1 (hJ.to (Or.inr rfl))
    rw [show z_st ((-3)) = 0 from rfl, ov] at k9
    exact k9
  · skip
    have hu3 : ¬ u = -3 := by rw [hu]; decide
    rw [show z_acc u v = v by unfold z_acc; rw [if_neg hu3, if_neg hv3, if_pos hu]] at kx
    rw [ou, ov]
    refine x_istore (i := 4) (lv' := [(0, x_r (some m)), (1, x_i (nI k)), (2, x_i 1), (3, x_i itv), (4, x_i 2)]) dX10_judge_80 (by decide) rfl ?_
    refine x_iload (i := 4) (x := 2) dX10_judge_82 rfl ?_
    refine x_iconst (v := 2) dX10_judge_84 (by decide) ?_
    refine x_icmp_ne (tgt := 108) dX10_judge_85 (by decide) (fun c => absurd c (by decide)) (fun _ => ?_)
    refine x_aload_n (i := 0) (o := some m) dX10_judge_88 rfl rfl ?_
    refine x_getRv (v := some (m + 15)) dX10_judge_89 fX10_judge_62 (i := 1021) rfl rfl (mPk_0 (hJ.1.pm hpm)) (mPr_1021 (hJ.1.pm hpm)) ?_
    refine x_iload_n (i := 1) (x := nI k) dX10_judge_92 rfl rfl ?_
    refine x_ialoadN (n := k) (v := -1) dX10_judge_93 (mPk_15 (hJ.1.pm hpm)) (rfl) (by rw [mPl_15 (hJ.1.pm hpm)]; omega) (by rw [mPl_15 (hJ.1.pm hpm)]; omega) (hJ.2.2.1 hu) ?_
    refine x_iconst (v := (-1)) dX10_judge_94 (by decide) ?_
    refine x_icmp_ne (tgt := 108) dX10_judge_95 (by decide) (fun c => absurd c (by decide)) (fun _ => ?_)
    refine x_aload_n (i := 0) (o := some m) dX10_judge_98 rfl rfl ?_
    refine x_getRv (v := some (m + 15)) dX10_judge_99 fX10_judge_62 (i := 1021) rfl rfl (mPk_0 (hJ.1.pm hpm)) (mPr_1021 (hJ.1.pm hpm)) ?_
    refine x_iload_n (i := 1) (x := nI k) dX10_judge_102 rfl rfl ?_
    refine x_aload_n (i := 0) (o := some m) dX10_judge_103 rfl rfl ?_
    refine x_getIv (v := v) dX10_judge_104 fX10_judge_188 (i := 1027) rfl rfl (mPk_0 (hJ.1.pm hpm)) (hlk hv) ?_
    refine x_iastoreN (n := k) (v := v) dX10_judge_107 (mPk_15 (hJ.1.pm hpm)) (rfl) (by rw [mPl_15 (hJ.1.pm hpm)]; omega) (by rw [mPl_15 (hJ.1.pm hpm)]; omega) (rfl) ?_
    refine x_iload (i := 4) (x := 2) dX10_judge_108 rfl ?_
    refine x_if_eq (tgt := 117) dX10_judge_110 (by decide) (fun c => absurd c (by decide)) (fun _ => ?_)
    refine x_iload_n (i := 2) (x := 1) dX10_judge_113 rfl rfl ?_
    refine x_if_ne (tgt := 121) dX10_judge_114 (by decide) (fun _ => ?_) (fun c => absurd c (by decide))
    refine x_iload (i := 4) (x := 2) dX10_judge_121 rfl ?_
    refine x_iconst (v := 2) dX10_judge_123 (by decide) ?_
    refine x_icmp_ne (tgt := 131) dX10_judge_124 (by decide) (fun c => absurd c (by decide)) (fun _ => ?_)
    refine x_iconst (v := 2) dX10_judge_127 (by decide) ?_
    refine x_goto (tgt := 132) dX10_judge_128 (by decide) ?_
    refine x_istore_n (i := 2) (lv' := [(0, x_r (some m)), (1, x_i (nI k)), (2, x_i 2), (3, x_i itv), (4, x_i 2)]) dX10_judge_132 rfl (by decide) rfl ?_
    have k9 := kx (x_sA h1 (m + 15) k v) (hJ.A hv2 v (fun _ => rfl))
    rw [ov] at k9
    exact k9
  · skip
    have hv3 : ¬ v = -3 := by rw [hv]; decide
    rw [show z_acc u v = -3 by unfold z_acc; rw [if_pos hu]] at kx
    rw [ou, ov]
    refine x_istore (i := 4) (lv' := [(0, x_r (some m)), (1, x_i (nI k)), (2, x_i 0), (3, x_i itv), (4, x_i 1)]) dX10_judge_80 (by decide) rfl ?_
    refine x_iload (i := 4) (x := 1) dX10_judge_82 rfl ?_
    refine x_iconst (v := 2) dX10_judge_84 (by decide) ?_
    refine x_icmp_ne (tgt := 108) dX10_judge_85 (by decide) (fun _ => ?_) (fun c => absurd c (by decide))
    refine x_iload (i := 4) (x := 1) dX10_judge_108 rfl ?_
    refine x_if_eq (tgt := 117) dX10_judge_110 (by decide) (fun c => absurd c (by decide)) (fun _ => ?_)
    refine x_iload_n (i := 2) (x := 0) dX10_judge_113 rfl rfl ?_
    refine x_if_ne (tgt := 121) dX10_judge_114 (by decide) (fun c => absurd c (by decide)) (fun _ => ?_)
    refine x_iconst (v := 0) dX10_judge_117 (by decide) ?_
    refine x_goto (tgt := 132) dX10_judge_118 (by decide) ?_
    refine x_istore_n (i := 2) (lv' := [(0, x_r (some m)), (1, x_i (nI k)), (2, x_i 0), (3, x_i itv), (4, x_i 1)]) dX10_judge_132 rfl (by decide) rfl ?_
    have k9 := kx h1 (hJ.to (Or.inr rfl))
    rw [show z_st ((-3)) = 0 from rfl, ov] at k9
    exact k9
  · skip
    rw [show z_acc u v = -3 by unfold z_acc; rw [if_pos hu]] at kx
    rw [ou, ov]
    refine x_istore (i := 4) (lv' := [(0, x_r (some m)), (1, x_i (nI k)), (2, x_i 0), (3, x_i itv), (4, x_i 0)]) dX10_judge_80 (by decide) rfl ?_
    refine x_iload (i := 4) (x := 0) dX10_judge_82 rfl ?_
    refine x_iconst (v := 2) dX10_judge_84 (by decide) ?_
    refine x_icmp_ne (tgt := 108) dX10_judge_85 (by decide) (fun _ => ?_) (fun c => absurd c (by decide))
    refine x_iload (i := 4) (x := 0) dX10_judge_108 rfl ?_
    refine x_if_eq (tgt := 117) dX10_judge_110 (by decide) (fun _ => ?_) (fun c => absurd (by decide) c)
    refine x_iconst (v := 0) dX10_judge_117 (by decide) ?_
    refine x_goto (tgt := 132) dX10_judge_118 (by decide) ?_
    refine x_istore_n (i := 2) (lv' := [(0, x_r (some m)), (1, x_i (nI k)), (2, x_i 0), (3, x_i itv), (4, x_i 0)]) dX10_judge_132 rfl (by decide) rfl ?_
    have k9 := kx h1 (hJ.to (Or.inr rfl))
    rw [show z_st ((-3)) = 0 from rfl, ov] at k9
    exact k9
  · skip
    rw [show z_acc u v = -3 by unfold z_acc; rw [if_pos hu]] at kx
    rw [ou, ov]
    refine x_istore (i := 4) (lv' := [(0, x_r (some m)), (1, x_i (nI k)), (2, x_i 0), (3, x_i itv), (4, x_i 2)]) dX10_judge_80 (by decide) rfl ?_
    refine x_iload (i := 4) (x := 2) dX10_judge_82 rfl ?_
    refine x_iconst (v := 2) dX10_judge_84 (by decide) ?_
    refine x_icmp_ne (tgt := 108) dX10_judge_85 (by decide) (fun c => absurd c (by decide)) (fun _ => ?_)
    refine x_aload_n (i := 0) (o := some m) dX10_judge_88 rfl rfl ?_
    refine x_getRv (v := some (m + 15)) dX10_judge_89 fX10_judge_62 (i := 1021) rfl rfl (mPk_0 (hJ.1.pm hpm)) (mPr_1021 (hJ.1.pm hpm)) ?_
    refine x_iload_n (i := 1) (x := nI k) dX10_judge_92 rfl rfl ?_
    refine x_ialoadN (n := k) (v := x_rw h1 (m + 15) k) dX10_judge_93 (mPk_15 (hJ.1.pm hpm)) (rfl) (by rw [mPl_15 (hJ.1.pm hpm)]; omega) (by rw [mPl_15 (hJ.1.pm hpm)]; omega) (rfl) ?_
    refine x_iconst (v := (-1)) dX10_judge_94 (by decide) ?_
    refine x_icmp_ne (tgt := 108) dX10_judge_95 (by decide) (fun c95 => ?_) (fun c95 => ?_)
    · skip
      refine x_iload (i := 4) (x := 2) dX10_judge_108 rfl ?_
      refine x_if_eq (tgt := 117) dX10_judge_110 (by decide) (fun c => absurd c (by decide)) (fun _ => ?_)
      refine x_iload_n (i := 2) (x := 0) dX10_judge_113 rfl rfl ?_
      refine x_if_ne (tgt := 121) dX10_judge_114 (by decide) (fun c => absurd c (by decide)) (fun _ => ?_)
      refine x_iconst (v := 0) dX10_judge_117 (by decide) ?_
      refine x_goto (tgt := 132) dX10_judge_118 (by decide) ?_
      refine x_istore_n (i := 2) (lv' := [(0, x_r (some m)), (1, x_i (nI k)), (2, x_i 0), (3, x_i itv), (4, x_i 2)]) dX10_judge_132 rfl (by decide) rfl ?_
      have k9 := kx h1 (hJ.to (Or.inr rfl))
      rw [show z_st ((-3)) = 0 from rfl, ov] at k9
      exact k9
    · skip
      refine x_aload_n (i := 0) (o := some m) dX10_judge_98 rfl rfl ?_
      refine x_getRv (v := some (m + 15)) dX10_judge_99 fX10_judge_62 (i := 1021) rfl rfl (mPk_0 (hJ.1.pm hpm)) (mPr_1021 (hJ.1.pm hpm)) ?_
      refine x_iload_n (i := 1) (x := nI k) dX10_judge_102 rfl rfl ?_
      refine x_aload_n (i := 0) (o := some m) dX10_judge_103 rfl rfl ?_
      refine x_getIv (v := v) dX10_judge_104 fX10_judge_188 (i := 1027) rfl rfl (mPk_0 (hJ.1.pm hpm)) (hlk hv) ?_
      refine x_iastoreN (n := k) (v := v) dX10_judge_107 (mPk_15 (hJ.1.pm hpm)) (rfl) (by rw [mPl_15 (hJ.1.pm hpm)]; omega) (by rw [mPl_15 (hJ.1.pm hpm)]; omega) (rfl) ?_
      refine x_iload (i := 4) (x := 2) dX10_judge_108 rfl ?_
      refine x_if_eq (tgt := 117) dX10_judge_110 (by decide) (fun c => absurd c (by decide)) (fun _ => ?_)
      refine x_iload_n (i := 2) (x := 0) dX10_judge_113 rfl rfl ?_
      refine x_if_ne (tgt := 121) dX10_judge_114 (by decide) (fun c => absurd c (by decide)) (fun _ => ?_)
      refine x_iconst (v := 0) dX10_judge_117 (by decide) ?_
      refine x_goto (tgt := 132) dX10_judge_118 (by decide) ?_
      refine x_istore_n (i := 2) (lv' := [(0, x_r (some m)), (1, x_i (nI k)), (2, x_i 0), (3, x_i itv), (4, x_i 2)]) dX10_judge_132 rfl (by decide) rfl ?_
      have k9 := kx (x_sA h1 (m + 15) k v) ((hJ.A (v := v) (by rw [show ¬ v = -2 ↔ True from ⟨fun _ => trivial, fun _ => hv2⟩]; trivial) v (fun _ => rfl)).to (Or.inr rfl))
      rw [show z_st ((-3)) = 0 from rfl, ov] at k9
      exact k9
  · skip
    have hv3 : ¬ v = -3 := by rw [hv]; decide
    rw [show z_acc u v = u by unfold z_acc; rw [if_neg hu3, if_neg hv3, if_neg hu2]] at kx
    rw [ou, ov]
    refine x_istore (i := 4) (lv' := [(0, x_r (some m)), (1, x_i (nI k)), (2, x_i 2), (3, x_i itv), (4, x_i 1)]) dX10_judge_80 (by decide) rfl ?_
    refine x_iload (i := 4) (x := 1) dX10_judge_82 rfl ?_
    refine x_iconst (v := 2) dX10_judge_84 (by decide) ?_
    refine x_icmp_ne (tgt := 108) dX10_judge_85 (by decide) (fun _ => ?_) (fun c => absurd c (by decide))
    refine x_iload (i := 4) (x := 1) dX10_judge_108 rfl ?_
    refine x_if_eq (tgt := 117) dX10_judge_110 (by decide) (fun c => absurd c (by decide)) (fun _ => ?_)
    refine x_iload_n (i := 2) (x := 2) dX10_judge_113 rfl rfl ?_
    refine x_if_ne (tgt := 121) dX10_judge_114 (by decide) (fun _ => ?_) (fun c => absurd c (by decide))
    refine x_iload (i := 4) (x := 1) dX10_judge_121 rfl ?_
    refine x_iconst (v := 2) dX10_judge_123 (by decide) ?_
    refine x_icmp_ne (tgt := 131) dX10_judge_124 (by decide) (fun _ => ?_) (fun c => absurd c (by decide))
    refine x_iload_n (i := 2) (x := 2) dX10_judge_131 rfl rfl ?_
    refine x_istore_n (i := 2) (lv' := [(0, x_r (some m)), (1, x_i (nI k)), (2, x_i 2), (3, x_i itv), (4, x_i 1)]) dX10_judge_132 rfl (by decide) rfl ?_
    have k9 := kx h1 (hJ)
    rw [show z_st u = 2 from ou, ov] at k9
    exact k9
  · skip
    rw [show z_acc u v = -3 by unfold z_acc; rw [if_neg hu3, if_pos hv]] at kx
    rw [ou, ov]
    refine x_istore (i := 4) (lv' := [(0, x_r (some m)), (1, x_i (nI k)), (2, x_i 2), (3, x_i itv), (4, x_i 0)]) dX10_judge_80 (by decide) rfl ?_
    refine x_iload (i := 4) (x := 0) dX10_judge_82 rfl ?_
    refine x_iconst (v := 2) dX10_judge_84 (by decide) ?_
    refine x_icmp_ne (tgt := 108) dX10_judge_85 (by decide) (fun _ => ?_) (fun c => absurd c (by decide))
    refine x_iload (i := 4) (x := 0) dX10_judge_108 rfl ?_
    refine x_if_eq (tgt := 117) dX10_judge_110 (by decide) (fun _ => ?_) (fun c => absurd (by decide) c)
    refine x_iconst (v := 0) dX10_judge_117 (by decide) ?_
    refine x_goto (tgt := 132) dX10_judge_118 (by decide) ?_
    refine x_istore_n (i := 2) (lv' := [(0, x_r (some m)), (1, x_i (nI k)), (2, x_i 0), (3, x_i itv), (4, x_i 0)]) dX10_judge_132 rfl (by decide) rfl ?_
    have k9 := kx h1 (hJ.to (Or.inr rfl))
    rw [show z_st ((-3)) = 0 from rfl, ov] at k9
    exact k9
  · skip
    rw [show z_acc u v = u by unfold z_acc; rw [if_neg hu3, if_neg hv3, if_neg hu2]] at kx
    rw [ou, ov]
    refine x_istore (i := 4) (lv' := [(0, x_r (some m)), (1, x_i (nI k)), (2, x_i 2), (3, x_i itv), (4, x_i 2)]) dX10_judge_80 (by decide) rfl ?_
    refine x_iload (i := 4) (x := 2) dX10_judge_82 rfl ?_
    refine x_iconst (v := 2) dX10_judge_84 (by decide) ?_
    refine x_icmp_ne (tgt := 108) dX10_judge_85 (by decide) (fun c => absurd c (by decide)) (fun _ => ?_)
    refine x_aload_n (i := 0) (o := some m) dX10_judge_88 rfl rfl ?_
    refine x_getRv (v := some (m + 15)) dX10_judge_89 fX10_judge_62 (i := 1021) rfl rfl (mPk_0 (hJ.1.pm hpm)) (mPr_1021 (hJ.1.pm hpm)) ?_
    refine x_iload_n (i := 1) (x := nI k) dX10_judge_92 rfl rfl ?_
    refine x_ialoadN (n := k) (v := u) dX10_judge_93 (mPk_15 (hJ.1.pm hpm)) (rfl) (by rw [mPl_15 (hJ.1.pm hpm)]; omega) (by rw [mPl_15 (hJ.1.pm hpm)]; omega) (hJ.2.2.2 hu) ?_
    refine x_iconst (v := (-1)) dX10_judge_94 (by decide) ?_
    refine x_icmp_ne (tgt := 108) dX10_judge_95 (by decide) (fun c95 => ?_) (fun c95 => ?_)
    · skip
      refine x_iload (i := 4) (x := 2) dX10_judge_108 rfl ?_
      refine x_if_eq (tgt := 117) dX10_judge_110 (by decide) (fun c => absurd c (by decide)) (fun _ => ?_)
      refine x_iload_n (i := 2) (x := 2) dX10_judge_113 rfl rfl ?_
      refine x_if_ne (tgt := 121) dX10_judge_114 (by decide) (fun _ => ?_) (fun c => absurd c (by decide))
      refine x_iload (i := 4) (x := 2) dX10_judge_121 rfl ?_
      refine x_iconst (v := 2) dX10_judge_123 (by decide) ?_
      refine x_icmp_ne (tgt := 131) dX10_judge_124 (by decide) (fun c => absurd c (by decide)) (fun _ => ?_)
      refine x_iconst (v := 2) dX10_judge_127 (by decide) ?_
      refine x_goto (tgt := 132) dX10_judge_128 (by decide) ?_
      refine x_istore_n (i := 2) (lv' := [(0, x_r (some m)), (1, x_i (nI k)), (2, x_i 2), (3, x_i itv), (4, x_i 2)]) dX10_judge_132 rfl (by decide) rfl ?_
      have k9 := kx h1 (hJ)
      rw [show z_st u = 2 from ou, ov] at k9
      exact k9
    · skip
      exact absurd c95 (z_neg1 hu)
theorem z_vt3 {X : z_X} {C : Nat → Int32} {p : Nat} (h1 : q_n C 0 7 (p + 1)) : z_vt X C p = -2 ∨ z_vt X C p = -3 ∨ 0 ≤ z_vt X C p := by
  have ht := z_tn (n := 7) (by decide) h1
  unfold z_vt
  split
  · rw [ht.1]; exact Or.inr (Or.inr (nI_add 100 _ ▸ nI_pos' (by omega)))
  · split
    · exact Or.inl rfl
    · exact Or.inr (Or.inl rfl)
theorem z_vh3 {C : Nat → Int32} {R : List (Nat × Nat)} {V : Nat → Int32} {k e p : Nat} (h1 : q_n C 0 19 (p + 1)) : (z_vh C R V k e p = -2 ∨ z_vh C R V k e p = -3 ∨ 0 ≤ z_vh C R V k e p) ∧ (0 ≤ z_vh C R V k e p → z_vh C R V k e p = 300 + C (p + 1)) := by
  have ht := z_tn (n := 19) (by decide) h1
  unfold z_vh
  split
  · exact ⟨Or.inl rfl, fun z => absurd z (by decide)⟩
  · split
    · exact ⟨Or.inr (Or.inr (by rw [ht.1]; exact nI_add 300 _ ▸ nI_pos' (by omega))), fun _ => rfl⟩
    · exact ⟨Or.inr (Or.inl rfl), fun z => absurd z (by decide)⟩
theorem m_V.J {h h1 : x_H} {m k : Nat} {V : Nat → Int32} {u : Int32} (a : m_V h m V k) (hJ : m_J h h1 m k u) : m_V h1 m V k := by
  intro r hr
  obtain ⟨a1, a2⟩ := a r hr
  refine ⟨by rw [hJ.1.rw (by omega)]; exact a1, fun z => ?_⟩
  rw [hJ.2.1 r (by omega)]
  exact a2 z
set_option maxHeartbeats 4000000 in
set_option maxRecDepth 100000 in
theorem l_judge (G : x_G) {h : x_H} {m : Nat} {l : List (Nat × Nat)} {C : Nat → Int32} {R : List (Nat × Nat)} {E : List Int32} (hB : m_Bk h m l C R E) {X : z_X} (hX : m_X h m X) {V : Nat → Int32} {k : Nat} {q : Nat × Nat} (hr : R[k]? = some q) (hV : m_V h m V k) (h0 : x_H) (hz : x_sz h0 ≤ x_sz h ∧ x_us h0 ≤ x_us h) (D : Room → x_Z → Prop) {e : Nat} : ∀ (f p : Nat) (u : Int32) (h1 : x_H), p < 2000 → q_items C 1501 f p = (true, e) → (u = -2 ∨ u = -3 ∨ 0 ≤ u) → m_J h h1 m k u → (∀ h3, m_J h h3 m k (z_rv X C R V k q.2 (q_its C 1501 f p) u) → (z_rv X C R V k q.2 (q_its C 1501 f p) u = -2 ∨ z_rv X C R V k q.2 (q_its C 1501 f p) u = -3 ∨ 0 ≤ z_rv X C R V k q.2 (q_its C 1501 f p) u) → x_E G mX10_judge D h0 142 [(0, x_r (some m)), (1, x_i (nI k)), (2, x_i (z_st (z_rv X C R V k q.2 (q_its C 1501 f p) u)))] [] h3) → x_E G mX10_judge D h0 31 [(0, x_r (some m)), (1, x_i (nI k)), (2, x_i (z_st u)), (3, x_i (nI p))] [] h1 := by
  have hk6 := (hB.at hr).2.2.1
  intro f
  induction f using Nat.strongRecOn with
  | _ f ih =>
    intro p u h1 hp2 hq hu0 hJ kx
    have hB1 : m_Bk h1 m l C R E := hB.F hJ.1 ⟨by omega, by omega, by omega⟩ (fun a z => by omega)
    have hX1 : m_X h1 m X := hX.F hJ.1 (by omega) (fun a z => by omega)
    have hV1 := hV.J hJ
    have hK := hB1.1
    have hll := hK.ll
    obtain ⟨g, b, rfl, hqi, hcc⟩ := q_its_c hq
    have hbn : b < 1600 := by
      have := q_item_lt hK.N hqi
      have y := (q_item_st (F := 1501) hK.N (a := p) (by omega)).2.1
      rw [hqi] at y
      dsimp only at y
      omega
    have hnext : ∀ (h3 : x_H) (o4 : Int32), m_J h h3 m k (z_acc u (z_vi X C R V k q.2 p)) → (z_acc u (z_vi X C R V k q.2 p) = -2 ∨ z_acc u (z_vi X C R V k q.2 p) = -3 ∨ 0 ≤ z_acc u (z_vi X C R V k q.2 p)) → x_E G mX10_judge D h0 133 [(0, x_r (some m)), (1, x_i (nI k)), (2, x_i (z_st (z_acc u (z_vi X C R V k q.2 p)))), (3, x_i (nI p)), (4, x_i o4)] [] h3 := by
      intro h3 o4 hJ3 hw3
      have hK3 := (hB.F hJ3.1 ⟨by omega, by omega, by omega⟩ (fun a z => by omega)).1
      have kx : ∀ h3, m_J h h3 m k (z_rv X C R V k q.2 (q_its C 1501 (g + 1) p) u) → _ → _ := kx
      have hs : ∀ L, z_rv X C R V k q.2 (p :: L) u = z_rv X C R V k q.2 L (z_acc u (z_vi X C R V k q.2 p)) := fun _ => rfl
      generalize z_acc u (z_vi X C R V k q.2 p) = w at hJ3 hw3 hs ⊢
      refine x_aload_n (i := 0) (o := some m) dX10_judge_133 rfl rfl ?_
      refine x_iload_n (i := 3) (x := nI p) dX10_judge_134 rfl rfl ?_
      rcases hcc with ⟨h5, hq2, hi⟩ | ⟨h5, h6, hi⟩
      · skip
        refine x_callV (a := m) (av := [x_i (nI p)]) (rest := []) (r := (some (x_i (nI (b + 1))))) (h1 := h3) dX10_judge_135 sX10_judge_204 (mPk_0 (hJ3.1.pm hB.1.1)) rfl rfl (Nat.le_of_ble_eq_true rfl) ⟨Nat.le_trans hz.1 hJ3.1.le.1, Nat.le_trans hz.2 hJ3.1.le.2⟩ (by have k := c_nextItem G hK3 hqi (Or.inl h5); rw [if_pos h5] at k; exact k) ?_
        show x_E _ _ _ _ 138 _ [x_i (nI (b + 1))] _
        refine x_istore_n (i := 3) (lv' := [(0, x_r (some m)), (1, x_i (nI k)), (2, x_i (z_st w)), (3, x_i (nI (b + 1))), (4, x_i o4)]) dX10_judge_138 rfl (by decide) rfl ?_
        refine x_goto (tgt := 31) dX10_judge_139 (by decide) ?_
        refine x_drop [0, 1, 2, 3] rfl ?_
        exact ih g (by omega) (b + 1) w h3 (by omega) hq2 hw3 hJ3 (by rw [hi, hs] at kx; exact kx)
      · skip
        refine x_callV (a := m) (av := [x_i (nI p)]) (rest := []) (r := (some (x_i ((-1))))) (h1 := h3) dX10_judge_135 sX10_judge_204 (mPk_0 (hJ3.1.pm hB.1.1)) rfl rfl (Nat.le_of_ble_eq_true rfl) ⟨Nat.le_trans hz.1 hJ3.1.le.1, Nat.le_trans hz.2 hJ3.1.le.2⟩ (by have k := c_nextItem G hK3 hqi (Or.inr h6); rw [if_neg h5] at k; exact k) ?_
        show x_E _ _ _ _ 138 _ [x_i ((-1))] _
        refine x_istore_n (i := 3) (lv' := [(0, x_r (some m)), (1, x_i (nI k)), (2, x_i (z_st w)), (3, x_i ((-1))), (4, x_i o4)]) dX10_judge_138 rfl (by decide) rfl ?_
        refine x_goto (tgt := 31) dX10_judge_139 (by decide) ?_
        refine x_iload_n (i := 3) (x := (-1)) dX10_judge_31 rfl rfl ?_
        refine x_iconst (v := (-1)) dX10_judge_32 (by decide) ?_
        refine x_icmp_eq (tgt := 142) dX10_judge_33 (by decide) (fun _ => ?_) (fun c => absurd (by decide) c)
        refine x_drop [0, 1, 2] rfl ?_
        rw [hi, hs] at kx
        exact kx h3 hJ3 hw3
    refine x_iload_n (i := 3) (x := nI p) dX10_judge_31 rfl rfl ?_
    refine x_iconst (v := (-1)) dX10_judge_32 (by decide) ?_
    refine x_icmp_eq (tgt := 142) dX10_judge_33 (by decide) (fun c33 => ?_) (fun c33 => ?_)
    · skip
      exact absurd c33 (z_neg1 (nI_pos' (by omega)))
    · skip
      refine x_aload_n (i := 0) (o := some m) dX10_judge_36 rfl rfl ?_
      refine x_iload_n (i := 3) (x := nI p) dX10_judge_37 rfl rfl ?_
      refine x_ldc2 (v := 6247773044) dX10_judge_38 kX10_judge_124 ?_
      by_cases q7 : C p = -7
      · skip
        refine x_callV (a := m) (av := [x_i (nI p), x_l 6247773044]) (rest := []) (r := (some (x_i 1))) (h1 := h1) dX10_judge_41 sX10_judge_168 (mPk_0 (hJ.1.pm hB.1.1)) rfl rfl (Nat.le_of_ble_eq_true rfl) ⟨Nat.le_trans hz.1 hJ.1.le.1, Nat.le_trans hz.2 hJ.1.le.2⟩ (k_has_t G hK (a := p) (by omega) z_K_test q7) ?_
        show x_E _ _ _ _ 44 _ [x_i 1] _
        refine x_if_eq (tgt := 55) dX10_judge_44 (by decide) (fun c => absurd c (by decide)) (fun _ => ?_)
        refine x_aload_n (i := 0) (o := some m) dX10_judge_47 rfl rfl ?_
        refine x_iload_n (i := 3) (x := nI p) dX10_judge_48 rfl rfl ?_
        rcases q_item_c hqi with ⟨y0, y1, y2, y3⟩ | ⟨y0, -⟩ | ⟨y0, -⟩
        rotate_left
        · exact absurd q7 y0
        · exact absurd q7 y0
        obtain ⟨_, h2, ⟨rfl, hh2⟩, hct⟩ := c_stateOfTest G hK hX1 y1 y3
        have hF2 : x_F h1 h2 (fun i a => a = m ∧ (i = 1026 ∨ i = 1027 ∨ i = 1028)) (fun _ => False) := by
          rcases hh2 with ⟨-, rfl⟩ | ⟨-, rfl⟩
          · exact x_F.rf.I ⟨rfl, by omega⟩
          · exact x_F.rf
        have hl2 : 0 ≤ z_vt X C p → x_fi h2 1027 m = z_vt X C p := by
          intro z
          rcases hh2 with ⟨-, rfl⟩ | ⟨z2, -⟩
          · rw [x_fi_sI, if_pos ⟨rfl, rfl⟩]
          · exact absurd z z2
        have hv3 := z_vt3 (X := X) y1
        have ev : z_vi X C R V k q.2 p = z_vt X C p := if_pos q7
        refine x_callV (a := m) (av := [x_i (nI p)]) (rest := []) (r := (some (x_i (z_st (z_vt X C p))))) (h1 := h2) dX10_judge_49 sX10_judge_214 (mPk_0 (hJ.1.pm hB.1.1)) rfl rfl (Nat.le_of_ble_eq_true rfl) ⟨Nat.le_trans hz.1 hJ.1.le.1, Nat.le_trans hz.2 hJ.1.le.2⟩ (hct) ?_
        show x_E _ _ _ _ 52 _ [x_i (z_st (z_vt X C p))] _
        refine x_goto (tgt := 80) dX10_judge_52 (by decide) ?_
        refine l_judge80 G hB.1.1 hk6 h0 D hu0 hv3 (hJ.F hF2) hl2 (nI p) (fun h3 hJ3 => ?_)
        rw [← ev] at hJ3 ⊢
        have hu3 := z_acc3 hu0 hv3
        rw [← ev] at hu3
        exact hnext h3 _ hJ3 hu3
      · skip
        refine x_callV (a := m) (av := [x_i (nI p), x_l 6247773044]) (rest := []) (r := (some (x_i 0))) (h1 := h1) dX10_judge_41 sX10_judge_168 (mPk_0 (hJ.1.pm hB.1.1)) rfl rfl (Nat.le_of_ble_eq_true rfl) ⟨Nat.le_trans hz.1 hJ.1.le.1, Nat.le_trans hz.2 hJ.1.le.2⟩ (k_has_f G hK (a := p) (by omega) z_K_test q7) ?_
        show x_E _ _ _ _ 44 _ [x_i 0] _
        refine x_if_eq (tgt := 55) dX10_judge_44 (by decide) (fun _ => ?_) (fun c => absurd (by decide) c)
        refine x_aload_n (i := 0) (o := some m) dX10_judge_55 rfl rfl ?_
        refine x_iload_n (i := 3) (x := nI p) dX10_judge_56 rfl rfl ?_
        refine x_ldc2 (v := 1548057601139) dX10_judge_57 kX10_judge_130 ?_
        by_cases q10 : C p = -10
        · skip
          refine x_callV (a := m) (av := [x_i (nI p), x_l 1548057601139]) (rest := []) (r := (some (x_i 1))) (h1 := h1) dX10_judge_60 sX10_judge_168 (mPk_0 (hJ.1.pm hB.1.1)) rfl rfl (Nat.le_of_ble_eq_true rfl) ⟨Nat.le_trans hz.1 hJ.1.le.1, Nat.le_trans hz.2 hJ.1.le.2⟩ (k_has_t G hK (a := p) (by omega) z_K_holds q10) ?_
          show x_E _ _ _ _ 63 _ [x_i 1] _
          refine x_if_eq (tgt := 75) dX10_judge_63 (by decide) (fun c => absurd c (by decide)) (fun _ => ?_)
          refine x_aload_n (i := 0) (o := some m) dX10_judge_66 rfl rfl ?_
          refine x_iload_n (i := 3) (x := nI p) dX10_judge_67 rfl rfl ?_
          refine x_iload_n (i := 1) (x := nI k) dX10_judge_68 rfl rfl ?_
          rcases q_item_c hqi with ⟨y0, -⟩ | ⟨y0, y1, y2⟩ | ⟨y0, y1, -⟩
          · exact absurd y0 q7
          rotate_left
          · exact absurd q10 y1
          have hct := c_stateOfHolds G hB1 hr hV1 y2
          obtain ⟨hv3, hv4⟩ := z_vh3 (C := C) (R := R) (V := V) (k := k) (e := q.2) y2
          have ev : z_vi X C R V k q.2 p = z_vh C R V k q.2 p := by unfold z_vi; rw [if_neg q7, if_pos q10]
          have hF2 : x_F h1 (x_sI h1 1027 m (300 + C (p + 1))) (fun i a => a = m ∧ (i = 1026 ∨ i = 1027 ∨ i = 1028)) (fun _ => False) := x_F.rf.I ⟨rfl, by omega⟩
          have hl2 : 0 ≤ z_vh C R V k q.2 p → x_fi (x_sI h1 1027 m (300 + C (p + 1))) 1027 m = z_vh C R V k q.2 p := by
            intro z
            rw [x_fi_sI, if_pos ⟨rfl, rfl⟩, hv4 z]
          generalize x_sI h1 1027 m (300 + C (p + 1)) = h2 at hct hF2 hl2
          refine x_callV (a := m) (av := [x_i (nI p), x_i (nI k)]) (rest := []) (r := (some (x_i (z_st (z_vh C R V k q.2 p))))) (h1 := h2) dX10_judge_69 sX10_judge_217 (mPk_0 (hJ.1.pm hB.1.1)) rfl rfl (Nat.le_of_ble_eq_true rfl) ⟨Nat.le_trans hz.1 hJ.1.le.1, Nat.le_trans hz.2 hJ.1.le.2⟩ (hct) ?_
          show x_E _ _ _ _ 72 _ [x_i (z_st (z_vh C R V k q.2 p))] _
          refine x_goto (tgt := 80) dX10_judge_72 (by decide) ?_
          refine l_judge80 G hB.1.1 hk6 h0 D hu0 hv3 (hJ.F hF2) hl2 (nI p) (fun h3 hJ3 => ?_)
          rw [← ev] at hJ3 ⊢
          have hu3 := z_acc3 hu0 hv3
          rw [← ev] at hu3
          exact hnext h3 _ hJ3 hu3
        · skip
          refine x_callV (a := m) (av := [x_i (nI p), x_l 1548057601139]) (rest := []) (r := (some (x_i 0))) (h1 := h1) dX10_judge_60 sX10_judge_168 (mPk_0 (hJ.1.pm hB.1.1)) rfl rfl (Nat.le_of_ble_eq_true rfl) ⟨Nat.le_trans hz.1 hJ.1.le.1, Nat.le_trans hz.2 hJ.1.le.2⟩ (k_has_f G hK (a := p) (by omega) z_K_holds q10) ?_
          show x_E _ _ _ _ 63 _ [x_i 0] _
          refine x_if_eq (tgt := 75) dX10_judge_63 (by decide) (fun _ => ?_) (fun c => absurd (by decide) c)
          refine x_aload_n (i := 0) (o := some m) dX10_judge_75 rfl rfl ?_
          refine x_iload_n (i := 3) (x := nI p) dX10_judge_76 rfl rfl ?_
          rcases q_item_c hqi with ⟨y0, -⟩ | ⟨y0, y1, -⟩ | ⟨y0, y1, y2, y3⟩
          · exact absurd y0 q7
          · exact absurd y1 q10
          obtain ⟨_, h2, ⟨rfl, hF2, hl2, hv3⟩, hct⟩ := c_stateOfSum G hK hX1 y3
          have ev : z_vi X C R V k q.2 p = z_vs X C p := by unfold z_vi; rw [if_neg q7, if_neg q10]
          refine x_callV (a := m) (av := [x_i (nI p)]) (rest := []) (r := (some (x_i (z_st (z_vs X C p))))) (h1 := h2) dX10_judge_77 sX10_judge_221 (mPk_0 (hJ.1.pm hB.1.1)) rfl rfl (Nat.le_of_ble_eq_true rfl) ⟨Nat.le_trans hz.1 hJ.1.le.1, Nat.le_trans hz.2 hJ.1.le.2⟩ (hct) ?_
          show x_E _ _ _ _ 80 _ [x_i (z_st (z_vs X C p))] _
          refine l_judge80 G hB.1.1 hk6 h0 D hu0 hv3 (hJ.F hF2) hl2 (nI p) (fun h3 hJ3 => ?_)
          rw [← ev] at hJ3 ⊢
          have hu3 := z_acc3 hu0 hv3
          rw [← ev] at hu3
          exact hnext h3 _ hJ3 hu3
