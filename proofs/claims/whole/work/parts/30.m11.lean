/-! THE REFERENCE: add -/
def m_X (h : x_H) (m : Nat) (X : z_X) : Prop := (∀ p, p < 16 → x_rw h (m + 12) p = (if X.1 p = true then 1 else 0) ∧ (x_rw h (m + 10) p).toInt64 = X.2.1 p ∧ (x_rw h (m + 11) p).toInt64 = X.2.2.1 p) ∧ (∀ t, t < 8 → x_rw h (m + 13) t = X.2.2.2.1 t) ∧ x_fi h 1018 m = if X.2.2.2.2 = true then 1 else 0
def m_L (h : x_H) (m : Nat) (t : Int64) (k : Int32) : x_H := x_sI (x_sL h 1026 m t) 1027 m k
theorem x_sL_sL (h : x_H) (i a : Nat) (v w : Int64) : x_sL (x_sL h i a v) i a w = x_sL h i a w := by
  have e : x_u2 (x_u2 (x_fl h) i a v) i a w = x_u2 (x_fl h) i a w := by
    funext j b
    unfold x_u2
    split <;> simp_all
  show (x_sz h, x_us h, x_kd h, x_fi h, x_fr h, x_u2 (x_u2 (x_fl h) i a v) i a w, x_ln h, x_rw h, x_rl h) = _
  rw [e]
  rfl
theorem m_L_I (h : x_H) (m : Nat) (t : Int64) (k v : Int32) : x_sI (m_L h m t k) 1027 m v = m_L h m t v := x_sI_sI _ _ _ _ _
theorem m_L_L (h : x_H) (m : Nat) (t v : Int64) (k : Int32) : x_sL (m_L h m t k) 1026 m v = m_L h m v k := by
  show x_sL (x_sL (x_sI h 1027 m k) 1026 m t) 1026 m v = x_sL (x_sI h 1027 m k) 1026 m v
  exact x_sL_sL _ _ _ _ _
theorem m_L_lk (h : x_H) (m : Nat) (t : Int64) (k : Int32) : x_fi (m_L h m t k) 1027 m = k := x_u2_eq _ _ _ _
theorem m_L_tt (h : x_H) (m : Nat) (t : Int64) (k : Int32) : x_fl (m_L h m t k) 1026 m = t := x_u2_eq _ _ _ _
theorem m_L_F (h : x_H) (m : Nat) (t : Int64) (k : Int32) : x_F h (m_L h m t k) (fun i a => a = m ∧ (i = 1026 ∨ i = 1027)) (fun _ => False) := (x_F.rf.L ⟨rfl, Or.inl rfl⟩).I ⟨rfl, Or.inr rfl⟩
theorem m_K.L {h : x_H} {m : Nat} {l : List (Nat × Nat)} {C : Nat → Int32} (hK : m_K h m l C) (t : Int64) (k : Int32) : m_K (m_L h m t k) m l C := hK.F (m_L_F h m t k) (by omega) (fun z => z) (fun z => z) (fun z => z)
theorem z_pt_eq {C : Nat → Int32} {a : Nat} (h : q_n C 0 15 (a + 3)) : C (a + 3) = nI (z_pt C a) ∧ z_pt C a < 16 := by
  obtain ⟨j, hj, e⟩ := nI_of2 (x := C (a + 3)) (M := 15) (n := 15) (by decide) (Int32.not_lt.mpr h.1) h.2.2
  unfold z_pt
  rw [e, nI_clamp (by omega)]
  exact ⟨rfl, by omega⟩
set_option maxHeartbeats 4000000 in
set_option maxRecDepth 100000 in
theorem l_add4 (G : x_G) {h : x_H} {m : Nat} {l : List (Nat × Nat)} {C : Nat → Int32} (hK : m_K h m l C) {X : z_X} (hX : m_X h m X) (h0 : x_H) (D : Room → x_Z → Prop) (it part : Int32) (high : Bool) (a k : Nat) (t : Int64) (lk : Int32) (y : Int64) (kx : x_E G mX10_add D h0 15 [(0, x_r (some m)), (1, x_i it), (2, x_i (if high = true then 1 else 0)), (3, x_i part), (4, x_i (nI k))] [] (m_L h m (t + y) lk)) : x_E G mX10_add D h0 277 [(0, x_r (some m)), (1, x_i it), (2, x_i (if high = true then 1 else 0)), (3, x_i part), (4, x_i (nI k)), (5, x_i (if z_mi C a = true then 1 else 0)), (6, x_i (C (a + 1))), (7, x_i (nI (z_pt C a))), (8, x_i (z_cu C a)), (9, x_i (z_bq C a)), (10, x_i (z_lk X C a)), (11, x_l (z_ct X C high a)), (13, x_l (z_md X C high a))] [x_l y, x_l t, x_r (some m)] (m_L h m t lk) := by
  refine x_ladd dX10_add_277 ?_
  refine x_putL (i := 1026) dX10_add_278 pX10_add_184 rfl rfl (mPk_0 hK.1) ?_
  rw [show x_sL (m_L h m t lk) 1026 m (t + y) = m_L h m (t + y) lk from m_L_L h m t _ lk]
  refine x_goto (tgt := 15) dX10_add_281 (by decide) ?_
  refine x_drop [0, 1, 2, 3, 4] rfl ?_
  exact kx
set_option maxHeartbeats 4000000 in
set_option maxRecDepth 100000 in
theorem l_add3 (G : x_G) {h : x_H} {m : Nat} {l : List (Nat × Nat)} {C : Nat → Int32} (hK : m_K h m l C) {X : z_X} (hX : m_X h m X) (h0 : x_H) (D : Room → x_Z → Prop) (it part : Int32) (high : Bool) (a k : Nat) (t : Int64) (lk : Int32) (u : Int64) (hp16 : q_n C 0 15 (a + 3)) (hby : ¬ (z_bq C a).toInt64 = 0) (kx : x_E G mX10_add D h0 15 [(0, x_r (some m)), (1, x_i it), (2, x_i (if high = true then 1 else 0)), (3, x_i part), (4, x_i (nI k))] [] (m_L h m (t + z_sh X C high part a) lk)) : x_E G mX10_add D h0 230 [(0, x_r (some m)), (1, x_i it), (2, x_i (if high = true then 1 else 0)), (3, x_i part), (4, x_i (nI k)), (5, x_i (if z_mi C a = true then 1 else 0)), (6, x_i (C (a + 1))), (7, x_i (nI (z_pt C a))), (8, x_i (z_cu C a)), (9, x_i (z_bq C a)), (10, x_i (z_lk X C a)), (11, x_l u)] [x_l (z_ct X C high a)] (m_L h m t lk) := by
  refine x_lstore (i := 11) (lv' := [(0, x_r (some m)), (1, x_i it), (2, x_i (if high = true then 1 else 0)), (3, x_i part), (4, x_i (nI k)), (5, x_i (if z_mi C a = true then 1 else 0)), (6, x_i (C (a + 1))), (7, x_i (nI (z_pt C a))), (8, x_i (z_cu C a)), (9, x_i (z_bq C a)), (10, x_i (z_lk X C a)), (11, x_l (z_ct X C high a))]) dX10_add_230 (by decide) rfl ?_
  refine x_lload (i := 11) (x := z_ct X C high a) dX10_add_232 rfl ?_
  refine x_iload (i := 6) (x := C (a + 1)) dX10_add_234 rfl ?_
  refine x_i2l dX10_add_236 ?_
  refine x_lmul dX10_add_237 ?_
  refine x_iload (i := 9) (x := z_bq C a) dX10_add_238 rfl ?_
  refine x_i2l dX10_add_240 ?_
  refine x_ldiv dX10_add_241 (hby) ?_
  rw [show ((z_ct X C high a) * (Int32.toInt64 (C (a + 1)))) / (Int32.toInt64 (z_bq C a)) = z_md X C high a from rfl]
  refine x_lstore (i := 13) (lv' := [(0, x_r (some m)), (1, x_i it), (2, x_i (if high = true then 1 else 0)), (3, x_i part), (4, x_i (nI k)), (5, x_i (if z_mi C a = true then 1 else 0)), (6, x_i (C (a + 1))), (7, x_i (nI (z_pt C a))), (8, x_i (z_cu C a)), (9, x_i (z_bq C a)), (10, x_i (z_lk X C a)), (11, x_l (z_ct X C high a)), (13, x_l (z_md X C high a))]) dX10_add_242 (by decide) rfl ?_
  refine x_aload_n (i := 0) (o := some m) dX10_add_244 rfl rfl ?_
  refine x_dup dX10_add_245 rfl ?_
  refine x_getLv (v := t) dX10_add_246 fX10_add_184 (i := 1026) rfl rfl (mPk_0 hK.1) (m_L_tt h m t lk) ?_
  refine x_iload_n (i := 3) (x := part) dX10_add_249 rfl rfl ?_
  refine x_iconst (v := (-1)) dX10_add_250 (by decide) ?_
  refine x_icmp_eq (tgt := 264) dX10_add_251 (by decide) (fun c251 => ?_) (fun c251 => ?_)
  · skip
    refine x_iload (i := 5) (x := if z_mi C a = true then 1 else 0) dX10_add_264 rfl ?_
    refine x_if_eq (tgt := 275) dX10_add_266 (by decide) (fun c266 => ?_) (fun c266 => ?_)
    · skip
      refine x_lload (i := 13) (x := z_md X C high a) dX10_add_275 rfl ?_
      have e : z_sh X C high part a = z_md X C high a := by
        unfold z_sh
        rw [if_neg (fun z => z.1 c251)]
        rw [if_neg (by intro z; rw [if_pos z] at c266; exact absurd c266 (by decide))]
      rw [e] at kx
      exact l_add4 G hK hX h0 D it part high a k t lk _ kx
    · skip
      refine x_lload (i := 13) (x := z_md X C high a) dX10_add_269 rfl ?_
      refine x_lneg dX10_add_271 ?_
      refine x_goto (tgt := 277) dX10_add_272 (by decide) ?_
      have e : z_sh X C high part a = -(z_md X C high a) := by
        unfold z_sh
        rw [if_neg (fun z => z.1 c251)]
        rw [if_pos (by
          by_cases z : z_mi C a = true
          · exact z
          · rw [if_neg z] at c266; exact absurd rfl c266)]
      rw [e] at kx
      exact l_add4 G hK hX h0 D it part high a k t lk _ kx
  · skip
    refine x_iload_n (i := 3) (x := part) dX10_add_254 rfl rfl ?_
    refine x_iload (i := 7) (x := nI (z_pt C a)) dX10_add_255 rfl ?_
    refine x_icmp_eq (tgt := 264) dX10_add_257 (by decide) (fun c257 => ?_) (fun c257 => ?_)
    · skip
      refine x_iload (i := 5) (x := if z_mi C a = true then 1 else 0) dX10_add_264 rfl ?_
      refine x_if_eq (tgt := 275) dX10_add_266 (by decide) (fun c266 => ?_) (fun c266 => ?_)
      · skip
        refine x_lload (i := 13) (x := z_md X C high a) dX10_add_275 rfl ?_
        have e : z_sh X C high part a = z_md X C high a := by
          unfold z_sh
          rw [if_neg (fun z => z.2 (by rw [(z_pt_eq hp16).1]; exact c257))]
          rw [if_neg (by intro z; rw [if_pos z] at c266; exact absurd c266 (by decide))]
        rw [e] at kx
        exact l_add4 G hK hX h0 D it part high a k t lk _ kx
      · skip
        refine x_lload (i := 13) (x := z_md X C high a) dX10_add_269 rfl ?_
        refine x_lneg dX10_add_271 ?_
        refine x_goto (tgt := 277) dX10_add_272 (by decide) ?_
        have e : z_sh X C high part a = -(z_md X C high a) := by
          unfold z_sh
          rw [if_neg (fun z => z.2 (by rw [(z_pt_eq hp16).1]; exact c257))]
          rw [if_pos (by
            by_cases z : z_mi C a = true
            · exact z
            · rw [if_neg z] at c266; exact absurd rfl c266)]
        rw [e] at kx
        exact l_add4 G hK hX h0 D it part high a k t lk _ kx
    · skip
      refine x_lconst (v := 0) dX10_add_260 (by decide) ?_
      refine x_goto (tgt := 277) dX10_add_261 (by decide) ?_
      have e : z_sh X C high part a = 0 := by
        unfold z_sh
        rw [if_pos ⟨c251, by rw [(z_pt_eq hp16).1]; exact c257⟩]
      rw [e] at kx
      exact l_add4 G hK hX h0 D it part high a k t lk _ kx
set_option maxHeartbeats 4000000 in
set_option maxRecDepth 100000 in
theorem l_add2 (G : x_G) {h : x_H} {m : Nat} {l : List (Nat × Nat)} {C : Nat → Int32} (hK : m_K h m l C) {X : z_X} (hX : m_X h m X) (h0 : x_H) (D : Room → x_Z → Prop) (it part : Int32) (high : Bool) (a k : Nat) (t : Int64) (lk : Int32) (hp16 : q_n C 0 15 (a + 3)) (hby : ¬ (z_bq C a).toInt64 = 0) (kx : x_E G mX10_add D h0 15 [(0, x_r (some m)), (1, x_i it), (2, x_i (if high = true then 1 else 0)), (3, x_i part), (4, x_i (nI k))] [] (m_L h m (t + z_sh X C high part a) lk)) : x_E G mX10_add D h0 213 [(0, x_r (some m)), (1, x_i it), (2, x_i (if high = true then 1 else 0)), (3, x_i part), (4, x_i (nI k)), (5, x_i (if z_mi C a = true then 1 else 0)), (6, x_i (C (a + 1))), (7, x_i (nI (z_pt C a))), (8, x_i (z_cu C a)), (9, x_i (z_bq C a)), (10, x_i (z_lk X C a))] [x_l (z_vl X C high a)] (m_L h m t lk) := by
  refine x_lstore (i := 11) (lv' := [(0, x_r (some m)), (1, x_i it), (2, x_i (if high = true then 1 else 0)), (3, x_i part), (4, x_i (nI k)), (5, x_i (if z_mi C a = true then 1 else 0)), (6, x_i (C (a + 1))), (7, x_i (nI (z_pt C a))), (8, x_i (z_cu C a)), (9, x_i (z_bq C a)), (10, x_i (z_lk X C a)), (11, x_l (z_vl X C high a))]) dX10_add_213 (by decide) rfl ?_
  refine x_lload (i := 11) (x := z_vl X C high a) dX10_add_215 rfl ?_
  refine x_iload (i := 8) (x := z_cu C a) dX10_add_217 rfl ?_
  refine x_i2l dX10_add_219 ?_
  refine x_lcmp dX10_add_220 ?_
  refine x_if_ge (tgt := 228) dX10_add_221 (by decide) (fun c221 => ?_) (fun c221 => ?_)
  · skip
    have e : z_ct X C high a = z_vl X C high a := if_neg (Int64.not_lt.mpr ((lg_cmp_ge _ _).mp c221))
    refine x_lload (i := 11) (x := z_vl X C high a) dX10_add_228 rfl ?_
    have k9 := l_add3 G hK hX h0 D it part high a k t lk (z_vl X C high a) hp16 hby kx
    rw [e] at k9
    exact k9
  · skip
    have e : z_ct X C high a = 0 := if_pos (Int64.not_le.mp fun z => c221 ((lg_cmp_ge _ _).mpr z))
    refine x_lconst (v := 0) dX10_add_224 (by decide) ?_
    refine x_goto (tgt := 230) dX10_add_225 (by decide) ?_
    have k9 := l_add3 G hK hX h0 D it part high a k t lk (z_vl X C high a) hp16 hby kx
    rw [e] at k9
    exact k9
set_option maxHeartbeats 4000000 in
set_option maxRecDepth 100000 in
theorem l_add1 (G : x_G) {h : x_H} {m : Nat} {l : List (Nat × Nat)} {C : Nat → Int32} (hK : m_K h m l C) {X : z_X} (hX : m_X h m X) (h0 : x_H) (D : Room → x_Z → Prop) (it part : Int32) (high : Bool) (a k : Nat) (t : Int64) (lk : Int32) (hp16 : q_n C 0 15 (a + 3)) (hby : z_lk X C a = -1 → ¬ (z_bq C a).toInt64 = 0) (kx : x_E G mX10_add D h0 15 [(0, x_r (some m)), (1, x_i it), (2, x_i (if high = true then 1 else 0)), (3, x_i part), (4, x_i (nI k))] [] (m_L h m (if z_lk X C a = -1 then t + z_sh X C high part a else t) lk)) : x_E G mX10_add D h0 182 [(0, x_r (some m)), (1, x_i it), (2, x_i (if high = true then 1 else 0)), (3, x_i part), (4, x_i (nI k)), (5, x_i (if z_mi C a = true then 1 else 0)), (6, x_i (C (a + 1))), (7, x_i (nI (z_pt C a))), (8, x_i (z_cu C a)), (9, x_i (z_bq C a)), (10, x_i (z_lk X C a))] [] (m_L h m t lk) := by
  have hp := z_pt_eq hp16
  refine x_iload (i := 10) (x := z_lk X C a) dX10_add_182 rfl ?_
  refine x_iconst (v := (-1)) dX10_add_184 (by decide) ?_
  refine x_icmp_ne (tgt := 281) dX10_add_185 (by decide) (fun c185 => ?_) (fun c185 => ?_)
  · skip
    rw [show (if z_lk X C a = -1 then t + z_sh X C high part a else t) = t from if_neg c185] at kx
    refine x_goto (tgt := 15) dX10_add_281 (by decide) ?_
    refine x_drop [0, 1, 2, 3, 4] rfl ?_
    exact kx
  · skip
    rw [show (if z_lk X C a = -1 then t + z_sh X C high part a else t) = t + z_sh X C high part a from if_pos c185] at kx
    refine x_iload_n (i := 2) (x := if high = true then 1 else 0) dX10_add_188 rfl rfl ?_
    refine x_iload (i := 5) (x := if z_mi C a = true then 1 else 0) dX10_add_189 rfl ?_
    refine x_icmp_ne (tgt := 205) dX10_add_191 (by decide) (fun c191 => ?_) (fun c191 => ?_)
    · skip
      have e : (x_rw h (m + 11) (z_pt C a)).toInt64 = z_vl X C high a := by
        rw [(hX.1 _ hp.2).2.2]
        unfold z_vl
        rw [if_neg (fun z => c191 (by rw [z]))]
      refine x_aload_n (i := 0) (o := some m) dX10_add_205 rfl rfl ?_
      refine x_getRv (v := some (m + 11)) dX10_add_206 fX10_add_41 (i := 1015) rfl rfl (mPk_0 hK.1) (mPr_1015 hK.1) ?_
      refine x_iload (i := 7) (x := nI (z_pt C a)) dX10_add_209 rfl ?_
      refine x_ialoadN (n := z_pt C a) (v := x_rw h (m + 11) (z_pt C a)) dX10_add_211 (mPk_11 hK.1) (rfl) (by show z_pt C a < x_ln h _; rw [mPl_11 hK.1]; exact hp.2) (by show x_ln h _ < _; rw [mPl_11 hK.1]; omega) (rfl) ?_
      refine x_i2l dX10_add_212 ?_
      rw [e]
      exact l_add2 G hK hX h0 D it part high a k t lk hp16 (hby c185) kx
    · skip
      have e : (x_rw h (m + 10) (z_pt C a)).toInt64 = z_vl X C high a := by
        rw [(hX.1 _ hp.2).2.1]
        unfold z_vl
        rw [if_pos (by
          cases high <;> cases hm : z_mi C a <;> simp [hm] at c191 ⊢)]
      refine x_aload_n (i := 0) (o := some m) dX10_add_194 rfl rfl ?_
      refine x_getRv (v := some (m + 10)) dX10_add_195 fX10_add_38 (i := 1014) rfl rfl (mPk_0 hK.1) (mPr_1014 hK.1) ?_
      refine x_iload (i := 7) (x := nI (z_pt C a)) dX10_add_198 rfl ?_
      refine x_ialoadN (n := z_pt C a) (v := x_rw h (m + 10) (z_pt C a)) dX10_add_200 (mPk_10 hK.1) (rfl) (by show z_pt C a < x_ln h _; rw [mPl_10 hK.1]; exact hp.2) (by show x_ln h _ < _; rw [mPl_10 hK.1]; omega) (rfl) ?_
      refine x_i2l dX10_add_201 ?_
      refine x_goto (tgt := 213) dX10_add_202 (by decide) ?_
      rw [e]
      exact l_add2 G hK hX h0 D it part high a k t lk hp16 (hby c185) kx
