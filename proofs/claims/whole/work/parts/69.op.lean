/-! the calls, one after another (gen69.py) -/
section
variable {sh : List (Nat × Nat)} {A : Nat → Nat → Int} {gl : Nat → Nat → Int64} {gr : Nat → Nat → Option Nat} {sl L n : Nat}
set_option maxRecDepth 20000 in
theorem o_ring (hI : Iv L sh A gr sl n) (hn : n < 600) {w x : Int} (hw : sb w) (hx : sb x) : Good L 37 [(0, .ref 1), (1, .int (oi w)), (2, .int (oi x)), (3, .ref 216)] 121 [(0, .ref 199), (1, .int (oi w)), (2, .int (oi x))] false False sh A gl gr sl n := by
  have hI2 := hI
  obtain ⟨hC, hS⟩ := hI.c hn
  obtain ⟨hA, hL, h, hC2, hS2, h0⟩ := hI2
  have ms := h.O.G.ms
  have hm := h.O.m
  have p := fun (r : Out) => p_ring (gl := gl) (sl := sl) (r := r) hA hL hC hS hw hx
  by_cases c1 : 0 ≤ w ∧ w < 8
  · have k1 := c1
    by_cases c2 : 0 ≤ x ∧ x < (A 2 9)
    · have k2 := c2
      by_cases c3 : A 74 2 = 0
      · have k3 := c3
        simp only [if_neg (not_not_intro c1), if_neg (not_not_intro c2), if_neg (not_not_intro c3)] at p
        have hw8 : w.toNat < 8 := by omega
        have hA1 : ∀ c0 d0, sb ((u2 A (wO w.toNat) 3 x) c0 d0) := sb_u2 (hA) hx _ _
        have h1 : RL (u2 A (wO w.toNat) 3 x) A := h.cg (fun a b g1 g2 g3 => by rw [uk_ne (by first | omega | (simp only [wO, wL, wC, wN, pO, pU, gO, gS, gP, gQ, gK, gC]; omega))])
        refine good_ok hI (A' := (u2 A (wO w.toNat) 3 x)) (A'' := (u2 (u2 (u2 A (wO w.toNat) 3 x) 199 0 0) 201 w.toNat x)) (gl' := (u2 gl 216 0 (oi (A (wO w.toNat) 3)).toInt64)) (v := (A (wO w.toNat) 3)) (fun r => ?_) (fun r => ?_) (fun j => by rw [uk_ne (by first | omega | (simp only [wO, wL, wC, wN, pO, pU, gO, gS, gP, gQ, gK, gC]; omega))]) (fun e => e.elim) (Or.inl (g216 _ _)) ?_ ?_ ?_ ?_
        · rw [EvU_iff (fun _ => false) 30]
          simp [EvS, stI, enI, caI, s_push, s_iload, s_aload, s_istore, s_astore, s_iinc, s_bin, s_div, s_i2l, s_lcmp, s_dup, s_dup2, s_pop, s_tab, s_look, s_get, s_put, s_iald, s_lald, s_aald, s_iast, s_last, s_aast, s_len, s_newa, s_new, s_thr, s_min, s_copy, s_obj, s_call, s_iret, s_aret, s_vret, go, ldI, lget, lput, lv_args, wsum, va_rf, hnd, cvr, cat_i, cat_r, cat_l, oi_of, oi_add, oi_sub, oA_ap, oA_u2, pi_lt, pi_le, pi_eq, pi_eq0, pi_lt0, pi_le0, pi_gt0, pi_ge0, pi_cl, sb_lit, fv4, isB01, nlt0, EvU_0, wO_ne, wL_ne, wC_ne, wN_ne, pO_ne, pU_ne, CN, LN, -Prod.exists, pi_ti, Op.lookupswitch.offset, EvU_at d37_0, EvU_at d37_1, EvU_at d37_2, EvU_at d37_3, EvU_at d37_4, EvU_at d37_5, EvU_at d37_8, EvU_at d37_9, EvU_at d37_10, EvU_at d37_13, EvU_at d37_15, EvU_at d37_16, EvU_at d37_17, EvU_at d37_19, EvU_at d37_20, EvU_at d37_21, EvU_at d37_22, Z37, Z38, LyS hL, LyG hL, p]
        · have q := q_ring (A := (u2 A (wO w.toNat) 3 x)) (B := A) (gl := (u2 gl 216 0 (oi (A (wO w.toNat) 3)).toInt64)) (sl := sl) (r := r) hA1 hL h1 hw hx
          simp only [if_neg (not_not_intro c1), if_neg (not_not_intro c2), if_neg (not_not_intro c3)] at q
          exact q
        · exact sb_u2 (sb_u2 hA1 (show sb 0 from ⟨by decide, by decide⟩) _ _) hx _ _
        · rw [uk_ne (by omega), ue_eq]
        · exact rl_ring h1 hw8 c2
        · exact fun a b ha => by rw [uk_ne (by omega), uk_ne (by omega)]
      · simp only [if_neg (not_not_intro c1), if_neg (not_not_intro c2), if_pos c3] at p
        refine good_fail hI (k := 2) (E := 1) (by omega) (fun r => ?_) (fun r => ?_)
        · rw [EvU_iff (fun _ => false) 30]
          simp [EvS, stI, enI, caI, s_push, s_iload, s_aload, s_istore, s_astore, s_iinc, s_bin, s_div, s_i2l, s_lcmp, s_dup, s_dup2, s_pop, s_tab, s_look, s_get, s_put, s_iald, s_lald, s_aald, s_iast, s_last, s_aast, s_len, s_newa, s_new, s_thr, s_min, s_copy, s_obj, s_call, s_iret, s_aret, s_vret, go, ldI, lget, lput, lv_args, wsum, va_rf, hnd, cvr, cat_i, cat_r, cat_l, oi_of, oi_add, oi_sub, oA_ap, oA_u2, pi_lt, pi_le, pi_eq, pi_eq0, pi_lt0, pi_le0, pi_gt0, pi_ge0, pi_cl, sb_lit, fv4, isB01, nlt0, EvU_0, wO_ne, wL_ne, wC_ne, wN_ne, pO_ne, pU_ne, CN, LN, -Prod.exists, pi_ti, Op.lookupswitch.offset, EvU_at d37_0, EvU_at d37_1, EvU_at d37_2, EvU_at d37_3, EvU_at d37_4, EvU_at d37_5, EvU_at d37_8, EvU_at d37_9, EvU_at d37_10, EvU_at d37_13, EvU_at d37_15, EvU_at d37_16, EvU_at d37_17, EvU_at d37_19, EvU_at d37_20, EvU_at d37_21, EvU_at d37_22, Z37, Z38, LyS hL, LyG hL, p, thrw]
        · have q := q_ring (A := A) (B := A) (gl := gl) (sl := (sl + 6)) (r := r) hA (hL.app (11, 0)) h hw hx
          simp only [if_neg (not_not_intro c1), if_neg (not_not_intro c2), if_pos c3] at q
          exact q
    · simp only [if_neg (not_not_intro c1), if_pos c2] at p
      refine good_fail hI (k := 1) (E := 2) (by omega) (fun r => ?_) (fun r => ?_)
      · rw [EvU_iff (fun _ => false) 30]
        simp [EvS, stI, enI, caI, s_push, s_iload, s_aload, s_istore, s_astore, s_iinc, s_bin, s_div, s_i2l, s_lcmp, s_dup, s_dup2, s_pop, s_tab, s_look, s_get, s_put, s_iald, s_lald, s_aald, s_iast, s_last, s_aast, s_len, s_newa, s_new, s_thr, s_min, s_copy, s_obj, s_call, s_iret, s_aret, s_vret, go, ldI, lget, lput, lv_args, wsum, va_rf, hnd, cvr, cat_i, cat_r, cat_l, oi_of, oi_add, oi_sub, oA_ap, oA_u2, pi_lt, pi_le, pi_eq, pi_eq0, pi_lt0, pi_le0, pi_gt0, pi_ge0, pi_cl, sb_lit, fv4, isB01, nlt0, EvU_0, wO_ne, wL_ne, wC_ne, wN_ne, pO_ne, pU_ne, CN, LN, -Prod.exists, pi_ti, Op.lookupswitch.offset, EvU_at d37_0, EvU_at d37_1, EvU_at d37_2, EvU_at d37_3, EvU_at d37_4, EvU_at d37_5, EvU_at d37_8, EvU_at d37_9, EvU_at d37_10, EvU_at d37_13, EvU_at d37_15, EvU_at d37_16, EvU_at d37_17, EvU_at d37_19, EvU_at d37_20, EvU_at d37_21, EvU_at d37_22, Z37, Z38, LyS hL, LyG hL, p, thrw]
      · have q := q_ring (A := A) (B := A) (gl := gl) (sl := (sl + 6)) (r := r) hA (hL.app (12, 0)) h hw hx
        simp only [if_neg (not_not_intro c1), if_pos c2] at q
        exact q
  · simp only [if_pos c1] at p
    refine good_fail hI (k := 1) (E := 2) (by omega) (fun r => ?_) (fun r => ?_)
    · rw [EvU_iff (fun _ => false) 30]
      simp [EvS, stI, enI, caI, s_push, s_iload, s_aload, s_istore, s_astore, s_iinc, s_bin, s_div, s_i2l, s_lcmp, s_dup, s_dup2, s_pop, s_tab, s_look, s_get, s_put, s_iald, s_lald, s_aald, s_iast, s_last, s_aast, s_len, s_newa, s_new, s_thr, s_min, s_copy, s_obj, s_call, s_iret, s_aret, s_vret, go, ldI, lget, lput, lv_args, wsum, va_rf, hnd, cvr, cat_i, cat_r, cat_l, oi_of, oi_add, oi_sub, oA_ap, oA_u2, pi_lt, pi_le, pi_eq, pi_eq0, pi_lt0, pi_le0, pi_gt0, pi_ge0, pi_cl, sb_lit, fv4, isB01, nlt0, EvU_0, wO_ne, wL_ne, wC_ne, wN_ne, pO_ne, pU_ne, CN, LN, -Prod.exists, pi_ti, Op.lookupswitch.offset, EvU_at d37_0, EvU_at d37_1, EvU_at d37_2, EvU_at d37_3, EvU_at d37_4, EvU_at d37_5, EvU_at d37_8, EvU_at d37_9, EvU_at d37_10, EvU_at d37_13, EvU_at d37_15, EvU_at d37_16, EvU_at d37_17, EvU_at d37_19, EvU_at d37_20, EvU_at d37_21, EvU_at d37_22, Z37, Z38, LyS hL, LyG hL, p, thrw]
    · have q := q_ring (A := A) (B := A) (gl := gl) (sl := (sl + 6)) (r := r) hA (hL.app (12, 0)) h hw hx
      simp only [if_pos c1] at q
      exact q
set_option maxRecDepth 20000 in
theorem o_notch (hI : Iv L sh A gr sl n) (hn : n < 600) {w x y : Int} (hw : sb w) (hx : sb x) (hy : y = 0 ∨ y = 1) : Good L 39 [(0, .ref 1), (1, .int (oi w)), (2, .int (oi x)), (3, .int (oi y)), (4, .ref 216)] 122 [(0, .ref 199), (1, .int (oi w)), (2, .int (oi x)), (3, .int (oi y))] false True sh A gl gr sl n := by
  have hI2 := hI
  obtain ⟨hC, hS⟩ := hI.c hn
  obtain ⟨hA, hL, h, hC2, hS2, h0⟩ := hI2
  have ms := h.O.G.ms
  have hm := h.O.m
  have p := fun (r : Out) => p_notch (gl := gl) (sl := sl) (r := r) hA hL hC hS h.O.m.2 hw hx hy
  by_cases c1 : 0 ≤ w ∧ w < 8
  · have k1 := c1
    by_cases c2 : 0 ≤ x ∧ x < (A 2 9)
    · have k2 := c2
      by_cases c3 : A 74 2 = 0
      · have k3 := c3
        simp only [if_neg (not_not_intro c1), if_neg (not_not_intro c2), if_neg (not_not_intro c3)] at p
        have hw8 : w.toNat < 8 := by omega
        have y9 : sb y := by rcases hy with rfl | rfl <;> exact ⟨by decide, by decide⟩
        have i3 : (32 * w + x).toNat = 32 * w.toNat + x.toNat := by omega
        by_cases c9 : A (wN w.toNat) x.toNat = y
        · simp only [if_pos c9] at p
          have hA1 : ∀ c0 d0, sb ((u2 A (wN w.toNat) x.toNat y) c0 d0) := sb_u2 (hA) y9 _ _
          have h1 : RL (u2 A (wN w.toNat) x.toNat y) A := h.cg (fun a b g1 g2 g3 => by rw [uk_ne (by first | omega | (simp only [wO, wL, wC, wN, pO, pU, gO, gS, gP, gQ, gK, gC]; omega))])
          refine good_ok hI (A' := (u2 A (wN w.toNat) x.toNat y)) (A'' := (u2 (u2 (u2 A (wN w.toNat) x.toNat y) 199 0 0) 202 (32 * w + x).toNat y)) (gl' := (u2 gl 216 0 (oi 0).toInt64)) (v := 0) (fun r => ?_) (fun r => ?_) (fun j => by rw [uk_ne (by first | omega | (simp only [wO, wL, wC, wN, pO, pU, gO, gS, gP, gQ, gK, gC]; omega))]) (fun e => Or.inl rfl) (Or.inl (g216 _ _)) ?_ ?_ ?_ ?_
          · rw [EvU_iff (fun _ => false) 30]
            simp [EvS, stI, enI, caI, s_push, s_iload, s_aload, s_istore, s_astore, s_iinc, s_bin, s_div, s_i2l, s_lcmp, s_dup, s_dup2, s_pop, s_tab, s_look, s_get, s_put, s_iald, s_lald, s_aald, s_iast, s_last, s_aast, s_len, s_newa, s_new, s_thr, s_min, s_copy, s_obj, s_call, s_iret, s_aret, s_vret, go, ldI, lget, lput, lv_args, wsum, va_rf, hnd, cvr, cat_i, cat_r, cat_l, oi_of, oi_add, oi_sub, oA_ap, oA_u2, pi_lt, pi_le, pi_eq, pi_eq0, pi_lt0, pi_le0, pi_gt0, pi_ge0, pi_cl, sb_lit, fv4, isB01, nlt0, EvU_0, wO_ne, wL_ne, wC_ne, wN_ne, pO_ne, pU_ne, CN, LN, -Prod.exists, pi_ti, Op.lookupswitch.offset, EvU_at d39_0, EvU_at d39_2, EvU_at d39_3, EvU_at d39_4, EvU_at d39_5, EvU_at d39_6, EvU_at d39_7, EvU_at d39_10, EvU_at d39_13, EvU_at d39_14, EvU_at d39_17, EvU_at d39_18, EvU_at d39_19, EvU_at d39_22, EvU_at d39_24, EvU_at d39_25, EvU_at d39_26, EvU_at d39_28, EvU_at d39_29, EvU_at d39_30, EvU_at d39_31, Z39, Z40, LyS hL, LyG hL, p, if_pos c9, i64]
          · have q := q_notch (A := (u2 A (wN w.toNat) x.toNat y)) (B := A) (gl := (u2 gl 216 0 (oi 0).toInt64)) (sl := sl) (r := r) hA1 hL h1 hw hx hy
            simp only [if_neg (not_not_intro c1), if_neg (not_not_intro c2), if_neg (not_not_intro c3)] at q
            simp only [if_pos c9] at q
            exact q
          · exact sb_u2 (sb_u2 hA1 (show sb 0 from ⟨by decide, by decide⟩) _ _) y9 _ _
          · rw [uk_ne (by omega), ue_eq]
          · rw [i3]; exact rl_notch h1 hw8 (by omega) hy
          · exact fun a b ha => by rw [uk_ne (by omega), uk_ne (by omega)]
        · simp only [if_neg c9] at p
          have hA1 : ∀ c0 d0, sb ((u2 A (wN w.toNat) x.toNat y) c0 d0) := sb_u2 (hA) y9 _ _
          have h1 : RL (u2 A (wN w.toNat) x.toNat y) A := h.cg (fun a b g1 g2 g3 => by rw [uk_ne (by first | omega | (simp only [wO, wL, wC, wN, pO, pU, gO, gS, gP, gQ, gK, gC]; omega))])
          refine good_ok hI (A' := (u2 A (wN w.toNat) x.toNat y)) (A'' := (u2 (u2 (u2 A (wN w.toNat) x.toNat y) 199 0 0) 202 (32 * w + x).toNat y)) (gl' := (u2 gl 216 0 (oi 1).toInt64)) (v := 1) (fun r => ?_) (fun r => ?_) (fun j => by rw [uk_ne (by first | omega | (simp only [wO, wL, wC, wN, pO, pU, gO, gS, gP, gQ, gK, gC]; omega))]) (fun e => Or.inr rfl) (Or.inl (g216 _ _)) ?_ ?_ ?_ ?_
          · rw [EvU_iff (fun _ => false) 30]
            simp [EvS, stI, enI, caI, s_push, s_iload, s_aload, s_istore, s_astore, s_iinc, s_bin, s_div, s_i2l, s_lcmp, s_dup, s_dup2, s_pop, s_tab, s_look, s_get, s_put, s_iald, s_lald, s_aald, s_iast, s_last, s_aast, s_len, s_newa, s_new, s_thr, s_min, s_copy, s_obj, s_call, s_iret, s_aret, s_vret, go, ldI, lget, lput, lv_args, wsum, va_rf, hnd, cvr, cat_i, cat_r, cat_l, oi_of, oi_add, oi_sub, oA_ap, oA_u2, pi_lt, pi_le, pi_eq, pi_eq0, pi_lt0, pi_le0, pi_gt0, pi_ge0, pi_cl, sb_lit, fv4, isB01, nlt0, EvU_0, wO_ne, wL_ne, wC_ne, wN_ne, pO_ne, pU_ne, CN, LN, -Prod.exists, pi_ti, Op.lookupswitch.offset, EvU_at d39_0, EvU_at d39_2, EvU_at d39_3, EvU_at d39_4, EvU_at d39_5, EvU_at d39_6, EvU_at d39_7, EvU_at d39_10, EvU_at d39_13, EvU_at d39_14, EvU_at d39_17, EvU_at d39_18, EvU_at d39_19, EvU_at d39_22, EvU_at d39_24, EvU_at d39_25, EvU_at d39_26, EvU_at d39_28, EvU_at d39_29, EvU_at d39_30, EvU_at d39_31, Z39, Z40, LyS hL, LyG hL, p, if_neg c9, i64]
          · have q := q_notch (A := (u2 A (wN w.toNat) x.toNat y)) (B := A) (gl := (u2 gl 216 0 (oi 1).toInt64)) (sl := sl) (r := r) hA1 hL h1 hw hx hy
            simp only [if_neg (not_not_intro c1), if_neg (not_not_intro c2), if_neg (not_not_intro c3)] at q
            simp only [if_neg c9] at q
            exact q
          · exact sb_u2 (sb_u2 hA1 (show sb 0 from ⟨by decide, by decide⟩) _ _) y9 _ _
          · rw [uk_ne (by omega), ue_eq]
          · rw [i3]; exact rl_notch h1 hw8 (by omega) hy
          · exact fun a b ha => by rw [uk_ne (by omega), uk_ne (by omega)]
      · simp only [if_neg (not_not_intro c1), if_neg (not_not_intro c2), if_pos c3] at p
        refine good_fail hI (k := 2) (E := 1) (by omega) (fun r => ?_) (fun r => ?_)
        · rw [EvU_iff (fun _ => false) 30]
          simp [EvS, stI, enI, caI, s_push, s_iload, s_aload, s_istore, s_astore, s_iinc, s_bin, s_div, s_i2l, s_lcmp, s_dup, s_dup2, s_pop, s_tab, s_look, s_get, s_put, s_iald, s_lald, s_aald, s_iast, s_last, s_aast, s_len, s_newa, s_new, s_thr, s_min, s_copy, s_obj, s_call, s_iret, s_aret, s_vret, go, ldI, lget, lput, lv_args, wsum, va_rf, hnd, cvr, cat_i, cat_r, cat_l, oi_of, oi_add, oi_sub, oA_ap, oA_u2, pi_lt, pi_le, pi_eq, pi_eq0, pi_lt0, pi_le0, pi_gt0, pi_ge0, pi_cl, sb_lit, fv4, isB01, nlt0, EvU_0, wO_ne, wL_ne, wC_ne, wN_ne, pO_ne, pU_ne, CN, LN, -Prod.exists, pi_ti, Op.lookupswitch.offset, EvU_at d39_0, EvU_at d39_2, EvU_at d39_3, EvU_at d39_4, EvU_at d39_5, EvU_at d39_6, EvU_at d39_7, EvU_at d39_10, EvU_at d39_13, EvU_at d39_14, EvU_at d39_17, EvU_at d39_18, EvU_at d39_19, EvU_at d39_22, EvU_at d39_24, EvU_at d39_25, EvU_at d39_26, EvU_at d39_28, EvU_at d39_29, EvU_at d39_30, EvU_at d39_31, Z39, Z40, LyS hL, LyG hL, p, thrw]
        · have q := q_notch (A := A) (B := A) (gl := gl) (sl := (sl + 6)) (r := r) hA (hL.app (11, 0)) h hw hx hy
          simp only [if_neg (not_not_intro c1), if_neg (not_not_intro c2), if_pos c3] at q
          exact q
    · simp only [if_neg (not_not_intro c1), if_pos c2] at p
      refine good_fail hI (k := 1) (E := 2) (by omega) (fun r => ?_) (fun r => ?_)
      · rw [EvU_iff (fun _ => false) 30]
        simp [EvS, stI, enI, caI, s_push, s_iload, s_aload, s_istore, s_astore, s_iinc, s_bin, s_div, s_i2l, s_lcmp, s_dup, s_dup2, s_pop, s_tab, s_look, s_get, s_put, s_iald, s_lald, s_aald, s_iast, s_last, s_aast, s_len, s_newa, s_new, s_thr, s_min, s_copy, s_obj, s_call, s_iret, s_aret, s_vret, go, ldI, lget, lput, lv_args, wsum, va_rf, hnd, cvr, cat_i, cat_r, cat_l, oi_of, oi_add, oi_sub, oA_ap, oA_u2, pi_lt, pi_le, pi_eq, pi_eq0, pi_lt0, pi_le0, pi_gt0, pi_ge0, pi_cl, sb_lit, fv4, isB01, nlt0, EvU_0, wO_ne, wL_ne, wC_ne, wN_ne, pO_ne, pU_ne, CN, LN, -Prod.exists, pi_ti, Op.lookupswitch.offset, EvU_at d39_0, EvU_at d39_2, EvU_at d39_3, EvU_at d39_4, EvU_at d39_5, EvU_at d39_6, EvU_at d39_7, EvU_at d39_10, EvU_at d39_13, EvU_at d39_14, EvU_at d39_17, EvU_at d39_18, EvU_at d39_19, EvU_at d39_22, EvU_at d39_24, EvU_at d39_25, EvU_at d39_26, EvU_at d39_28, EvU_at d39_29, EvU_at d39_30, EvU_at d39_31, Z39, Z40, LyS hL, LyG hL, p, thrw]
      · have q := q_notch (A := A) (B := A) (gl := gl) (sl := (sl + 6)) (r := r) hA (hL.app (12, 0)) h hw hx hy
        simp only [if_neg (not_not_intro c1), if_pos c2] at q
        exact q
  · simp only [if_pos c1] at p
    refine good_fail hI (k := 1) (E := 2) (by omega) (fun r => ?_) (fun r => ?_)
    · rw [EvU_iff (fun _ => false) 30]
      simp [EvS, stI, enI, caI, s_push, s_iload, s_aload, s_istore, s_astore, s_iinc, s_bin, s_div, s_i2l, s_lcmp, s_dup, s_dup2, s_pop, s_tab, s_look, s_get, s_put, s_iald, s_lald, s_aald, s_iast, s_last, s_aast, s_len, s_newa, s_new, s_thr, s_min, s_copy, s_obj, s_call, s_iret, s_aret, s_vret, go, ldI, lget, lput, lv_args, wsum, va_rf, hnd, cvr, cat_i, cat_r, cat_l, oi_of, oi_add, oi_sub, oA_ap, oA_u2, pi_lt, pi_le, pi_eq, pi_eq0, pi_lt0, pi_le0, pi_gt0, pi_ge0, pi_cl, sb_lit, fv4, isB01, nlt0, EvU_0, wO_ne, wL_ne, wC_ne, wN_ne, pO_ne, pU_ne, CN, LN, -Prod.exists, pi_ti, Op.lookupswitch.offset, EvU_at d39_0, EvU_at d39_2, EvU_at d39_3, EvU_at d39_4, EvU_at d39_5, EvU_at d39_6, EvU_at d39_7, EvU_at d39_10, EvU_at d39_13, EvU_at d39_14, EvU_at d39_17, EvU_at d39_18, EvU_at d39_19, EvU_at d39_22, EvU_at d39_24, EvU_at d39_25, EvU_at d39_26, EvU_at d39_28, EvU_at d39_29, EvU_at d39_30, EvU_at d39_31, Z39, Z40, LyS hL, LyG hL, p, thrw]
    · have q := q_notch (A := A) (B := A) (gl := gl) (sl := (sl + 6)) (r := r) hA (hL.app (12, 0)) h hw hx hy
      simp only [if_pos c1] at q
      exact q
set_option maxRecDepth 20000 in
theorem o_pin (hI : Iv L sh A gr sl n) (hn : n < 600) {k x y : Int} (hk : sb k) (hx : sb x) (hy : y = 0 ∨ y = 1) : Good L 59 [(0, .ref 1), (1, .int (oi k)), (2, .int (oi x)), (3, .int (oi y)), (4, .ref 216)] 130 [(0, .ref 199), (1, .int (oi k)), (2, .int (oi x)), (3, .int (oi y))] false True sh A gl gr sl n := by
  have hI2 := hI
  obtain ⟨hC, hS⟩ := hI.c hn
  obtain ⟨hA, hL, h, hC2, hS2, h0⟩ := hI2
  have ms := h.O.G.ms
  have hm := h.O.m
  have p := fun (r : Out) => p_pin (gl := gl) (sl := sl) (r := r) hA hL hC hS h.O.M.len hk hx hy
  by_cases c1 : 0 ≤ k ∧ k < 12
  · have k1 := c1
    by_cases c2 : 0 ≤ x ∧ x < (A (pO k.toNat) 1)
    · have k2 := c2
      by_cases c3 : A 74 2 = 0
      · have k3 := c3
        simp only [if_neg (not_not_intro c1), if_neg (not_not_intro c2), if_neg (not_not_intro c3)] at p
        have hk12 : k.toNat < 12 := by omega
        have y9 : sb y := by rcases hy with rfl | rfl <;> exact ⟨by decide, by decide⟩
        have i3 : (64 * k + x).toNat = 64 * k.toNat + x.toNat := by omega
        by_cases c9 : A (pU k.toNat) x.toNat = y
        · simp only [if_pos c9] at p
          have hA1 : ∀ c0 d0, sb ((u2 A (pU k.toNat) x.toNat y) c0 d0) := sb_u2 (hA) y9 _ _
          have h1 : RL (u2 A (pU k.toNat) x.toNat y) A := h.cg (fun a b g1 g2 g3 => by rw [uk_ne (by first | omega | (simp only [wO, wL, wC, wN, pO, pU, gO, gS, gP, gQ, gK, gC]; omega))])
          refine good_ok hI (A' := (u2 A (pU k.toNat) x.toNat y)) (A'' := (u2 (u2 (u2 A (pU k.toNat) x.toNat y) 199 0 0) 206 (64 * k + x).toNat y)) (gl' := (u2 gl 216 0 (oi 0).toInt64)) (v := 0) (fun r => ?_) (fun r => ?_) (fun j => by rw [uk_ne (by first | omega | (simp only [wO, wL, wC, wN, pO, pU, gO, gS, gP, gQ, gK, gC]; omega))]) (fun e => Or.inl rfl) (Or.inl (g216 _ _)) ?_ ?_ ?_ ?_
          · rw [EvU_iff (fun _ => false) 30]
            simp [EvS, stI, enI, caI, s_push, s_iload, s_aload, s_istore, s_astore, s_iinc, s_bin, s_div, s_i2l, s_lcmp, s_dup, s_dup2, s_pop, s_tab, s_look, s_get, s_put, s_iald, s_lald, s_aald, s_iast, s_last, s_aast, s_len, s_newa, s_new, s_thr, s_min, s_copy, s_obj, s_call, s_iret, s_aret, s_vret, go, ldI, lget, lput, lv_args, wsum, va_rf, hnd, cvr, cat_i, cat_r, cat_l, oi_of, oi_add, oi_sub, oA_ap, oA_u2, pi_lt, pi_le, pi_eq, pi_eq0, pi_lt0, pi_le0, pi_gt0, pi_ge0, pi_cl, sb_lit, fv4, isB01, nlt0, EvU_0, wO_ne, wL_ne, wC_ne, wN_ne, pO_ne, pU_ne, CN, LN, -Prod.exists, pi_ti, Op.lookupswitch.offset, EvU_at d59_0, EvU_at d59_2, EvU_at d59_3, EvU_at d59_4, EvU_at d59_5, EvU_at d59_6, EvU_at d59_7, EvU_at d59_10, EvU_at d59_13, EvU_at d59_14, EvU_at d59_17, EvU_at d59_18, EvU_at d59_19, EvU_at d59_22, EvU_at d59_24, EvU_at d59_25, EvU_at d59_26, EvU_at d59_28, EvU_at d59_29, EvU_at d59_30, EvU_at d59_31, Z59, Z60, LyS hL, LyG hL, p, if_pos c9, i64]
          · have q := q_pin (A := (u2 A (pU k.toNat) x.toNat y)) (B := A) (gl := (u2 gl 216 0 (oi 0).toInt64)) (sl := sl) (r := r) hA1 hL h1 hk hx hy
            simp only [if_neg (not_not_intro c1), if_neg (not_not_intro c2), if_neg (not_not_intro c3)] at q
            simp only [if_pos c9] at q
            exact q
          · exact sb_u2 (sb_u2 hA1 (show sb 0 from ⟨by decide, by decide⟩) _ _) y9 _ _
          · rw [uk_ne (by omega), ue_eq]
          · rw [i3]; exact rl_pin h1 hk12 (by omega) hy
          · exact fun a b ha => by rw [uk_ne (by omega), uk_ne (by omega)]
        · simp only [if_neg c9] at p
          have hA1 : ∀ c0 d0, sb ((u2 A (pU k.toNat) x.toNat y) c0 d0) := sb_u2 (hA) y9 _ _
          have h1 : RL (u2 A (pU k.toNat) x.toNat y) A := h.cg (fun a b g1 g2 g3 => by rw [uk_ne (by first | omega | (simp only [wO, wL, wC, wN, pO, pU, gO, gS, gP, gQ, gK, gC]; omega))])
          refine good_ok hI (A' := (u2 A (pU k.toNat) x.toNat y)) (A'' := (u2 (u2 (u2 A (pU k.toNat) x.toNat y) 199 0 0) 206 (64 * k + x).toNat y)) (gl' := (u2 gl 216 0 (oi 1).toInt64)) (v := 1) (fun r => ?_) (fun r => ?_) (fun j => by rw [uk_ne (by first | omega | (simp only [wO, wL, wC, wN, pO, pU, gO, gS, gP, gQ, gK, gC]; omega))]) (fun e => Or.inr rfl) (Or.inl (g216 _ _)) ?_ ?_ ?_ ?_
          · rw [EvU_iff (fun _ => false) 30]
            simp [EvS, stI, enI, caI, s_push, s_iload, s_aload, s_istore, s_astore, s_iinc, s_bin, s_div, s_i2l, s_lcmp, s_dup, s_dup2, s_pop, s_tab, s_look, s_get, s_put, s_iald, s_lald, s_aald, s_iast, s_last, s_aast, s_len, s_newa, s_new, s_thr, s_min, s_copy, s_obj, s_call, s_iret, s_aret, s_vret, go, ldI, lget, lput, lv_args, wsum, va_rf, hnd, cvr, cat_i, cat_r, cat_l, oi_of, oi_add, oi_sub, oA_ap, oA_u2, pi_lt, pi_le, pi_eq, pi_eq0, pi_lt0, pi_le0, pi_gt0, pi_ge0, pi_cl, sb_lit, fv4, isB01, nlt0, EvU_0, wO_ne, wL_ne, wC_ne, wN_ne, pO_ne, pU_ne, CN, LN, -Prod.exists, pi_ti, Op.lookupswitch.offset, EvU_at d59_0, EvU_at d59_2, EvU_at d59_3, EvU_at d59_4, EvU_at d59_5, EvU_at d59_6, EvU_at d59_7, EvU_at d59_10, EvU_at d59_13, EvU_at d59_14, EvU_at d59_17, EvU_at d59_18, EvU_at d59_19, EvU_at d59_22, EvU_at d59_24, EvU_at d59_25, EvU_at d59_26, EvU_at d59_28, EvU_at d59_29, EvU_at d59_30, EvU_at d59_31, Z59, Z60, LyS hL, LyG hL, p, if_neg c9, i64]
          · have q := q_pin (A := (u2 A (pU k.toNat) x.toNat y)) (B := A) (gl := (u2 gl 216 0 (oi 1).toInt64)) (sl := sl) (r := r) hA1 hL h1 hk hx hy
            simp only [if_neg (not_not_intro c1), if_neg (not_not_intro c2), if_neg (not_not_intro c3)] at q
            simp only [if_neg c9] at q
            exact q
          · exact sb_u2 (sb_u2 hA1 (show sb 0 from ⟨by decide, by decide⟩) _ _) y9 _ _
          · rw [uk_ne (by omega), ue_eq]
          · rw [i3]; exact rl_pin h1 hk12 (by omega) hy
          · exact fun a b ha => by rw [uk_ne (by omega), uk_ne (by omega)]
      · simp only [if_neg (not_not_intro c1), if_neg (not_not_intro c2), if_pos c3] at p
        refine good_fail hI (k := 2) (E := 1) (by omega) (fun r => ?_) (fun r => ?_)
        · rw [EvU_iff (fun _ => false) 30]
          simp [EvS, stI, enI, caI, s_push, s_iload, s_aload, s_istore, s_astore, s_iinc, s_bin, s_div, s_i2l, s_lcmp, s_dup, s_dup2, s_pop, s_tab, s_look, s_get, s_put, s_iald, s_lald, s_aald, s_iast, s_last, s_aast, s_len, s_newa, s_new, s_thr, s_min, s_copy, s_obj, s_call, s_iret, s_aret, s_vret, go, ldI, lget, lput, lv_args, wsum, va_rf, hnd, cvr, cat_i, cat_r, cat_l, oi_of, oi_add, oi_sub, oA_ap, oA_u2, pi_lt, pi_le, pi_eq, pi_eq0, pi_lt0, pi_le0, pi_gt0, pi_ge0, pi_cl, sb_lit, fv4, isB01, nlt0, EvU_0, wO_ne, wL_ne, wC_ne, wN_ne, pO_ne, pU_ne, CN, LN, -Prod.exists, pi_ti, Op.lookupswitch.offset, EvU_at d59_0, EvU_at d59_2, EvU_at d59_3, EvU_at d59_4, EvU_at d59_5, EvU_at d59_6, EvU_at d59_7, EvU_at d59_10, EvU_at d59_13, EvU_at d59_14, EvU_at d59_17, EvU_at d59_18, EvU_at d59_19, EvU_at d59_22, EvU_at d59_24, EvU_at d59_25, EvU_at d59_26, EvU_at d59_28, EvU_at d59_29, EvU_at d59_30, EvU_at d59_31, Z59, Z60, LyS hL, LyG hL, p, thrw]
        · have q := q_pin (A := A) (B := A) (gl := gl) (sl := (sl + 6)) (r := r) hA (hL.app (11, 0)) h hk hx hy
          simp only [if_neg (not_not_intro c1), if_neg (not_not_intro c2), if_pos c3] at q
          exact q
    · simp only [if_neg (not_not_intro c1), if_pos c2] at p
      refine good_fail hI (k := 1) (E := 2) (by omega) (fun r => ?_) (fun r => ?_)
      · rw [EvU_iff (fun _ => false) 30]
        simp [EvS, stI, enI, caI, s_push, s_iload, s_aload, s_istore, s_astore, s_iinc, s_bin, s_div, s_i2l, s_lcmp, s_dup, s_dup2, s_pop, s_tab, s_look, s_get, s_put, s_iald, s_lald, s_aald, s_iast, s_last, s_aast, s_len, s_newa, s_new, s_thr, s_min, s_copy, s_obj, s_call, s_iret, s_aret, s_vret, go, ldI, lget, lput, lv_args, wsum, va_rf, hnd, cvr, cat_i, cat_r, cat_l, oi_of, oi_add, oi_sub, oA_ap, oA_u2, pi_lt, pi_le, pi_eq, pi_eq0, pi_lt0, pi_le0, pi_gt0, pi_ge0, pi_cl, sb_lit, fv4, isB01, nlt0, EvU_0, wO_ne, wL_ne, wC_ne, wN_ne, pO_ne, pU_ne, CN, LN, -Prod.exists, pi_ti, Op.lookupswitch.offset, EvU_at d59_0, EvU_at d59_2, EvU_at d59_3, EvU_at d59_4, EvU_at d59_5, EvU_at d59_6, EvU_at d59_7, EvU_at d59_10, EvU_at d59_13, EvU_at d59_14, EvU_at d59_17, EvU_at d59_18, EvU_at d59_19, EvU_at d59_22, EvU_at d59_24, EvU_at d59_25, EvU_at d59_26, EvU_at d59_28, EvU_at d59_29, EvU_at d59_30, EvU_at d59_31, Z59, Z60, LyS hL, LyG hL, p, thrw]
      · have q := q_pin (A := A) (B := A) (gl := gl) (sl := (sl + 6)) (r := r) hA (hL.app (12, 0)) h hk hx hy
        simp only [if_neg (not_not_intro c1), if_pos c2] at q
        exact q
  · simp only [if_pos c1] at p
    refine good_fail hI (k := 1) (E := 2) (by omega) (fun r => ?_) (fun r => ?_)
    · rw [EvU_iff (fun _ => false) 30]
      simp [EvS, stI, enI, caI, s_push, s_iload, s_aload, s_istore, s_astore, s_iinc, s_bin, s_div, s_i2l, s_lcmp, s_dup, s_dup2, s_pop, s_tab, s_look, s_get, s_put, s_iald, s_lald, s_aald, s_iast, s_last, s_aast, s_len, s_newa, s_new, s_thr, s_min, s_copy, s_obj, s_call, s_iret, s_aret, s_vret, go, ldI, lget, lput, lv_args, wsum, va_rf, hnd, cvr, cat_i, cat_r, cat_l, oi_of, oi_add, oi_sub, oA_ap, oA_u2, pi_lt, pi_le, pi_eq, pi_eq0, pi_lt0, pi_le0, pi_gt0, pi_ge0, pi_cl, sb_lit, fv4, isB01, nlt0, EvU_0, wO_ne, wL_ne, wC_ne, wN_ne, pO_ne, pU_ne, CN, LN, -Prod.exists, pi_ti, Op.lookupswitch.offset, EvU_at d59_0, EvU_at d59_2, EvU_at d59_3, EvU_at d59_4, EvU_at d59_5, EvU_at d59_6, EvU_at d59_7, EvU_at d59_10, EvU_at d59_13, EvU_at d59_14, EvU_at d59_17, EvU_at d59_18, EvU_at d59_19, EvU_at d59_22, EvU_at d59_24, EvU_at d59_25, EvU_at d59_26, EvU_at d59_28, EvU_at d59_29, EvU_at d59_30, EvU_at d59_31, Z59, Z60, LyS hL, LyG hL, p, thrw]
    · have q := q_pin (A := A) (B := A) (gl := gl) (sl := (sl + 6)) (r := r) hA (hL.app (12, 0)) h hk hx hy
      simp only [if_pos c1] at q
      exact q
set_option maxRecDepth 20000 in
theorem o_reflects (hI : Iv L sh A gr sl n) (hn : n < 600) {y : Int} (hy : y = 0 ∨ y = 1) : Good L 55 [(0, .ref 1), (1, .int (oi y)), (2, .ref 216)] 127 [(0, .ref 199), (1, .int (oi y))] false True sh A gl gr sl n := by
  have hI2 := hI
  obtain ⟨hC, hS⟩ := hI.c hn
  obtain ⟨hA, hL, h, hC2, hS2, h0⟩ := hI2
  have ms := h.O.G.ms
  have hm := h.O.m
  have p := fun (r : Out) => p_reflects (gl := gl) (sl := sl) (r := r) hA hL hC hS hy
  by_cases c1 : A 74 2 = 0
  · have k1 := c1
    simp only [if_neg (not_not_intro c1)] at p
    have y9 : sb y := by rcases hy with rfl | rfl <;> exact ⟨by decide, by decide⟩
    by_cases c9 : A 2 13 = y
    · simp only [if_pos c9] at p
      have hA1 : ∀ c0 d0, sb ((u2 A 2 13 y) c0 d0) := sb_u2 (hA) y9 _ _
      have h1 : RL (u2 A 2 13 y) A := h.cg (fun a b g1 g2 g3 => by rw [uk_ne (by first | omega | (simp only [wO, wL, wC, wN, pO, pU, gO, gS, gP, gQ, gK, gC]; omega))])
      refine good_ok hI (A' := (u2 A 2 13 y)) (A'' := (u2 (u2 (u2 A 2 13 y) 199 0 0) 199 7 y)) (gl' := (u2 gl 216 0 (oi 0).toInt64)) (v := 0) (fun r => ?_) (fun r => ?_) (fun j => by rw [uk_ne (by first | omega | (simp only [wO, wL, wC, wN, pO, pU, gO, gS, gP, gQ, gK, gC]; omega))]) (fun e => Or.inl rfl) (Or.inl (g216 _ _)) ?_ ?_ ?_ ?_
      · rw [EvU_iff (fun _ => false) 30]
        simp [EvS, stI, enI, caI, s_push, s_iload, s_aload, s_istore, s_astore, s_iinc, s_bin, s_div, s_i2l, s_lcmp, s_dup, s_dup2, s_pop, s_tab, s_look, s_get, s_put, s_iald, s_lald, s_aald, s_iast, s_last, s_aast, s_len, s_newa, s_new, s_thr, s_min, s_copy, s_obj, s_call, s_iret, s_aret, s_vret, go, ldI, lget, lput, lv_args, wsum, va_rf, hnd, cvr, cat_i, cat_r, cat_l, oi_of, oi_add, oi_sub, oA_ap, oA_u2, pi_lt, pi_le, pi_eq, pi_eq0, pi_lt0, pi_le0, pi_gt0, pi_ge0, pi_cl, sb_lit, fv4, isB01, nlt0, EvU_0, wO_ne, wL_ne, wC_ne, wN_ne, pO_ne, pU_ne, CN, LN, -Prod.exists, pi_ti, Op.lookupswitch.offset, EvU_at d55_0, EvU_at d55_1, EvU_at d55_2, EvU_at d55_3, EvU_at d55_4, EvU_at d55_7, EvU_at d55_10, EvU_at d55_11, EvU_at d55_14, EvU_at d55_15, EvU_at d55_16, EvU_at d55_19, EvU_at d55_20, EvU_at d55_21, EvU_at d55_22, EvU_at d55_23, Z55, Z56, LyS hL, LyG hL, p, if_pos c9, i64]
      · have q := q_reflects (A := (u2 A 2 13 y)) (B := A) (gl := (u2 gl 216 0 (oi 0).toInt64)) (sl := sl) (r := r) hA1 hL h1 hy
        simp only [if_neg (not_not_intro c1)] at q
        simp only [if_pos c9] at q
        exact q
      · exact sb_u2 (sb_u2 hA1 (show sb 0 from ⟨by decide, by decide⟩) _ _) y9 _ _
      · rw [uj_ne (by omega), ue_eq]
      · exact rl_reflects h1 hy
      · exact fun a b ha => by rw [uk_ne (by omega), uk_ne (by omega)]
    · simp only [if_neg c9] at p
      have hA1 : ∀ c0 d0, sb ((u2 A 2 13 y) c0 d0) := sb_u2 (hA) y9 _ _
      have h1 : RL (u2 A 2 13 y) A := h.cg (fun a b g1 g2 g3 => by rw [uk_ne (by first | omega | (simp only [wO, wL, wC, wN, pO, pU, gO, gS, gP, gQ, gK, gC]; omega))])
      refine good_ok hI (A' := (u2 A 2 13 y)) (A'' := (u2 (u2 (u2 A 2 13 y) 199 0 0) 199 7 y)) (gl' := (u2 gl 216 0 (oi 1).toInt64)) (v := 1) (fun r => ?_) (fun r => ?_) (fun j => by rw [uk_ne (by first | omega | (simp only [wO, wL, wC, wN, pO, pU, gO, gS, gP, gQ, gK, gC]; omega))]) (fun e => Or.inr rfl) (Or.inl (g216 _ _)) ?_ ?_ ?_ ?_
      · rw [EvU_iff (fun _ => false) 30]
        simp [EvS, stI, enI, caI, s_push, s_iload, s_aload, s_istore, s_astore, s_iinc, s_bin, s_div, s_i2l, s_lcmp, s_dup, s_dup2, s_pop, s_tab, s_look, s_get, s_put, s_iald, s_lald, s_aald, s_iast, s_last, s_aast, s_len, s_newa, s_new, s_thr, s_min, s_copy, s_obj, s_call, s_iret, s_aret, s_vret, go, ldI, lget, lput, lv_args, wsum, va_rf, hnd, cvr, cat_i, cat_r, cat_l, oi_of, oi_add, oi_sub, oA_ap, oA_u2, pi_lt, pi_le, pi_eq, pi_eq0, pi_lt0, pi_le0, pi_gt0, pi_ge0, pi_cl, sb_lit, fv4, isB01, nlt0, EvU_0, wO_ne, wL_ne, wC_ne, wN_ne, pO_ne, pU_ne, CN, LN, -Prod.exists, pi_ti, Op.lookupswitch.offset, EvU_at d55_0, EvU_at d55_1, EvU_at d55_2, EvU_at d55_3, EvU_at d55_4, EvU_at d55_7, EvU_at d55_10, EvU_at d55_11, EvU_at d55_14, EvU_at d55_15, EvU_at d55_16, EvU_at d55_19, EvU_at d55_20, EvU_at d55_21, EvU_at d55_22, EvU_at d55_23, Z55, Z56, LyS hL, LyG hL, p, if_neg c9, i64]
      · have q := q_reflects (A := (u2 A 2 13 y)) (B := A) (gl := (u2 gl 216 0 (oi 1).toInt64)) (sl := sl) (r := r) hA1 hL h1 hy
        simp only [if_neg (not_not_intro c1)] at q
        simp only [if_neg c9] at q
        exact q
      · exact sb_u2 (sb_u2 hA1 (show sb 0 from ⟨by decide, by decide⟩) _ _) y9 _ _
      · rw [uj_ne (by omega), ue_eq]
      · exact rl_reflects h1 hy
      · exact fun a b ha => by rw [uk_ne (by omega), uk_ne (by omega)]
  · simp only [if_pos c1] at p
    refine good_fail hI (k := 1) (E := 1) (by omega) (fun r => ?_) (fun r => ?_)
    · rw [EvU_iff (fun _ => false) 30]
      simp [EvS, stI, enI, caI, s_push, s_iload, s_aload, s_istore, s_astore, s_iinc, s_bin, s_div, s_i2l, s_lcmp, s_dup, s_dup2, s_pop, s_tab, s_look, s_get, s_put, s_iald, s_lald, s_aald, s_iast, s_last, s_aast, s_len, s_newa, s_new, s_thr, s_min, s_copy, s_obj, s_call, s_iret, s_aret, s_vret, go, ldI, lget, lput, lv_args, wsum, va_rf, hnd, cvr, cat_i, cat_r, cat_l, oi_of, oi_add, oi_sub, oA_ap, oA_u2, pi_lt, pi_le, pi_eq, pi_eq0, pi_lt0, pi_le0, pi_gt0, pi_ge0, pi_cl, sb_lit, fv4, isB01, nlt0, EvU_0, wO_ne, wL_ne, wC_ne, wN_ne, pO_ne, pU_ne, CN, LN, -Prod.exists, pi_ti, Op.lookupswitch.offset, EvU_at d55_0, EvU_at d55_1, EvU_at d55_2, EvU_at d55_3, EvU_at d55_4, EvU_at d55_7, EvU_at d55_10, EvU_at d55_11, EvU_at d55_14, EvU_at d55_15, EvU_at d55_16, EvU_at d55_19, EvU_at d55_20, EvU_at d55_21, EvU_at d55_22, EvU_at d55_23, Z55, Z56, LyS hL, LyG hL, p, thrw]
    · have q := q_reflects (A := A) (B := A) (gl := gl) (sl := (sl + 6)) (r := r) hA (hL.app (11, 0)) h hy
      simp only [if_pos c1] at q
      exact q
set_option maxRecDepth 20000 in
theorem o_rule (hI : Iv L sh A gr sl n) (hn : n < 600) {x : Int} (hx : sb x) : Good L 63 [(0, .ref 1), (1, .int (oi x)), (2, .ref 216)] 132 [(0, .ref 199), (1, .int (oi x))] false False sh A gl gr sl n := by
  have hI2 := hI
  obtain ⟨hC, hS⟩ := hI.c hn
  obtain ⟨hA, hL, h, hC2, hS2, h0⟩ := hI2
  have ms := h.O.G.ms
  have hm := h.O.m
  have p := fun (r : Out) => p_rule (gl := gl) (sl := sl) (r := r) hA hL hC hS hx
  by_cases c1 : 0 ≤ x ∧ x < 5
  · have k1 := c1
    by_cases c2 : A 74 2 = 0
    · have k2 := c2
      simp only [if_neg (not_not_intro c1), if_neg (not_not_intro c2)] at p
      have hA1 : ∀ c0 d0, sb ((u2 A 2 11 x) c0 d0) := sb_u2 (hA) hx _ _
      have h1 : RL (u2 A 2 11 x) A := h.cg (fun a b g1 g2 g3 => by rw [uk_ne (by first | omega | (simp only [wO, wL, wC, wN, pO, pU, gO, gS, gP, gQ, gK, gC]; omega))])
      refine good_ok hI (A' := (u2 A 2 11 x)) (A'' := (u2 (u2 (u2 A 2 11 x) 199 0 0) 199 11 x)) (gl' := (u2 gl 216 0 (oi (A 2 11)).toInt64)) (v := (A 2 11)) (fun r => ?_) (fun r => ?_) (fun j => by rw [uk_ne (by first | omega | (simp only [wO, wL, wC, wN, pO, pU, gO, gS, gP, gQ, gK, gC]; omega))]) (fun e => e.elim) (Or.inl (g216 _ _)) ?_ ?_ ?_ ?_
      · rw [EvU_iff (fun _ => false) 30]
        simp [EvS, stI, enI, caI, s_push, s_iload, s_aload, s_istore, s_astore, s_iinc, s_bin, s_div, s_i2l, s_lcmp, s_dup, s_dup2, s_pop, s_tab, s_look, s_get, s_put, s_iald, s_lald, s_aald, s_iast, s_last, s_aast, s_len, s_newa, s_new, s_thr, s_min, s_copy, s_obj, s_call, s_iret, s_aret, s_vret, go, ldI, lget, lput, lv_args, wsum, va_rf, hnd, cvr, cat_i, cat_r, cat_l, oi_of, oi_add, oi_sub, oA_ap, oA_u2, pi_lt, pi_le, pi_eq, pi_eq0, pi_lt0, pi_le0, pi_gt0, pi_ge0, pi_cl, sb_lit, fv4, isB01, nlt0, EvU_0, wO_ne, wL_ne, wC_ne, wN_ne, pO_ne, pU_ne, CN, LN, -Prod.exists, pi_ti, Op.lookupswitch.offset, EvU_at d63_0, EvU_at d63_1, EvU_at d63_2, EvU_at d63_3, EvU_at d63_4, EvU_at d63_7, EvU_at d63_8, EvU_at d63_9, EvU_at d63_12, EvU_at d63_13, EvU_at d63_14, EvU_at d63_15, EvU_at d63_16, EvU_at d63_17, EvU_at d63_18, EvU_at d63_19, Z63, Z64, LyS hL, LyG hL, p]
      · have q := q_rule (A := (u2 A 2 11 x)) (B := A) (gl := (u2 gl 216 0 (oi (A 2 11)).toInt64)) (sl := sl) (r := r) hA1 hL h1 hx
        simp only [if_neg (not_not_intro c1), if_neg (not_not_intro c2)] at q
        exact q
      · exact sb_u2 (sb_u2 hA1 (show sb 0 from ⟨by decide, by decide⟩) _ _) hx _ _
      · rw [uj_ne (by omega), ue_eq]
      · exact rl_rule h1 c1
      · exact fun a b ha => by rw [uk_ne (by omega), uk_ne (by omega)]
    · simp only [if_neg (not_not_intro c1), if_pos c2] at p
      refine good_fail hI (k := 2) (E := 1) (by omega) (fun r => ?_) (fun r => ?_)
      · rw [EvU_iff (fun _ => false) 30]
        simp [EvS, stI, enI, caI, s_push, s_iload, s_aload, s_istore, s_astore, s_iinc, s_bin, s_div, s_i2l, s_lcmp, s_dup, s_dup2, s_pop, s_tab, s_look, s_get, s_put, s_iald, s_lald, s_aald, s_iast, s_last, s_aast, s_len, s_newa, s_new, s_thr, s_min, s_copy, s_obj, s_call, s_iret, s_aret, s_vret, go, ldI, lget, lput, lv_args, wsum, va_rf, hnd, cvr, cat_i, cat_r, cat_l, oi_of, oi_add, oi_sub, oA_ap, oA_u2, pi_lt, pi_le, pi_eq, pi_eq0, pi_lt0, pi_le0, pi_gt0, pi_ge0, pi_cl, sb_lit, fv4, isB01, nlt0, EvU_0, wO_ne, wL_ne, wC_ne, wN_ne, pO_ne, pU_ne, CN, LN, -Prod.exists, pi_ti, Op.lookupswitch.offset, EvU_at d63_0, EvU_at d63_1, EvU_at d63_2, EvU_at d63_3, EvU_at d63_4, EvU_at d63_7, EvU_at d63_8, EvU_at d63_9, EvU_at d63_12, EvU_at d63_13, EvU_at d63_14, EvU_at d63_15, EvU_at d63_16, EvU_at d63_17, EvU_at d63_18, EvU_at d63_19, Z63, Z64, LyS hL, LyG hL, p, thrw]
      · have q := q_rule (A := A) (B := A) (gl := gl) (sl := (sl + 6)) (r := r) hA (hL.app (11, 0)) h hx
        simp only [if_neg (not_not_intro c1), if_pos c2] at q
        exact q
  · simp only [if_pos c1] at p
    refine good_fail hI (k := 1) (E := 2) (by omega) (fun r => ?_) (fun r => ?_)
    · rw [EvU_iff (fun _ => false) 30]
      simp [EvS, stI, enI, caI, s_push, s_iload, s_aload, s_istore, s_astore, s_iinc, s_bin, s_div, s_i2l, s_lcmp, s_dup, s_dup2, s_pop, s_tab, s_look, s_get, s_put, s_iald, s_lald, s_aald, s_iast, s_last, s_aast, s_len, s_newa, s_new, s_thr, s_min, s_copy, s_obj, s_call, s_iret, s_aret, s_vret, go, ldI, lget, lput, lv_args, wsum, va_rf, hnd, cvr, cat_i, cat_r, cat_l, oi_of, oi_add, oi_sub, oA_ap, oA_u2, pi_lt, pi_le, pi_eq, pi_eq0, pi_lt0, pi_le0, pi_gt0, pi_ge0, pi_cl, sb_lit, fv4, isB01, nlt0, EvU_0, wO_ne, wL_ne, wC_ne, wN_ne, pO_ne, pU_ne, CN, LN, -Prod.exists, pi_ti, Op.lookupswitch.offset, EvU_at d63_0, EvU_at d63_1, EvU_at d63_2, EvU_at d63_3, EvU_at d63_4, EvU_at d63_7, EvU_at d63_8, EvU_at d63_9, EvU_at d63_12, EvU_at d63_13, EvU_at d63_14, EvU_at d63_15, EvU_at d63_16, EvU_at d63_17, EvU_at d63_18, EvU_at d63_19, Z63, Z64, LyS hL, LyG hL, p, thrw]
    · have q := q_rule (A := A) (B := A) (gl := gl) (sl := (sl + 6)) (r := r) hA (hL.app (12, 0)) h hx
      simp only [if_pos c1] at q
      exact q
set_option maxRecDepth 20000 in
theorem o_path (hI : Iv L sh A gr sl n) (hn : n < 600) {x : Int} (hx : sb x) : Good L 65 [(0, .ref 1), (1, .int (oi x)), (2, .ref 216)] 133 [(0, .ref 199), (1, .int (oi x))] false False sh A gl gr sl n := by
  have hI2 := hI
  obtain ⟨hC, hS⟩ := hI.c hn
  obtain ⟨hA, hL, h, hC2, hS2, h0⟩ := hI2
  have ms := h.O.G.ms
  have hm := h.O.m
  have p := fun (r : Out) => p_path (gl := gl) (sl := sl) (r := r) hA hL hC hS hx
  by_cases c1 : 0 ≤ x ∧ x < 3
  · have k1 := c1
    by_cases c2 : A 74 2 = 0
    · have k2 := c2
      simp only [if_neg (not_not_intro c1), if_neg (not_not_intro c2)] at p
      have hA1 : ∀ c0 d0, sb ((u2 A 2 12 x) c0 d0) := sb_u2 (hA) hx _ _
      have h1 : RL (u2 A 2 12 x) A := h.cg (fun a b g1 g2 g3 => by rw [uk_ne (by first | omega | (simp only [wO, wL, wC, wN, pO, pU, gO, gS, gP, gQ, gK, gC]; omega))])
      refine good_ok hI (A' := (u2 A 2 12 x)) (A'' := (u2 (u2 (u2 A 2 12 x) 199 0 0) 199 12 x)) (gl' := (u2 gl 216 0 (oi (A 2 12)).toInt64)) (v := (A 2 12)) (fun r => ?_) (fun r => ?_) (fun j => by rw [uk_ne (by first | omega | (simp only [wO, wL, wC, wN, pO, pU, gO, gS, gP, gQ, gK, gC]; omega))]) (fun e => e.elim) (Or.inl (g216 _ _)) ?_ ?_ ?_ ?_
      · rw [EvU_iff (fun _ => false) 30]
        simp [EvS, stI, enI, caI, s_push, s_iload, s_aload, s_istore, s_astore, s_iinc, s_bin, s_div, s_i2l, s_lcmp, s_dup, s_dup2, s_pop, s_tab, s_look, s_get, s_put, s_iald, s_lald, s_aald, s_iast, s_last, s_aast, s_len, s_newa, s_new, s_thr, s_min, s_copy, s_obj, s_call, s_iret, s_aret, s_vret, go, ldI, lget, lput, lv_args, wsum, va_rf, hnd, cvr, cat_i, cat_r, cat_l, oi_of, oi_add, oi_sub, oA_ap, oA_u2, pi_lt, pi_le, pi_eq, pi_eq0, pi_lt0, pi_le0, pi_gt0, pi_ge0, pi_cl, sb_lit, fv4, isB01, nlt0, EvU_0, wO_ne, wL_ne, wC_ne, wN_ne, pO_ne, pU_ne, CN, LN, -Prod.exists, pi_ti, Op.lookupswitch.offset, EvU_at d65_0, EvU_at d65_1, EvU_at d65_2, EvU_at d65_3, EvU_at d65_4, EvU_at d65_7, EvU_at d65_8, EvU_at d65_9, EvU_at d65_12, EvU_at d65_13, EvU_at d65_14, EvU_at d65_15, EvU_at d65_16, EvU_at d65_17, EvU_at d65_18, EvU_at d65_19, Z65, Z66, LyS hL, LyG hL, p]
      · have q := q_path (A := (u2 A 2 12 x)) (B := A) (gl := (u2 gl 216 0 (oi (A 2 12)).toInt64)) (sl := sl) (r := r) hA1 hL h1 hx
        simp only [if_neg (not_not_intro c1), if_neg (not_not_intro c2)] at q
        exact q
      · exact sb_u2 (sb_u2 hA1 (show sb 0 from ⟨by decide, by decide⟩) _ _) hx _ _
      · rw [uj_ne (by omega), ue_eq]
      · exact rl_path h1 c1
      · exact fun a b ha => by rw [uk_ne (by omega), uk_ne (by omega)]
    · simp only [if_neg (not_not_intro c1), if_pos c2] at p
      refine good_fail hI (k := 2) (E := 1) (by omega) (fun r => ?_) (fun r => ?_)
      · rw [EvU_iff (fun _ => false) 30]
        simp [EvS, stI, enI, caI, s_push, s_iload, s_aload, s_istore, s_astore, s_iinc, s_bin, s_div, s_i2l, s_lcmp, s_dup, s_dup2, s_pop, s_tab, s_look, s_get, s_put, s_iald, s_lald, s_aald, s_iast, s_last, s_aast, s_len, s_newa, s_new, s_thr, s_min, s_copy, s_obj, s_call, s_iret, s_aret, s_vret, go, ldI, lget, lput, lv_args, wsum, va_rf, hnd, cvr, cat_i, cat_r, cat_l, oi_of, oi_add, oi_sub, oA_ap, oA_u2, pi_lt, pi_le, pi_eq, pi_eq0, pi_lt0, pi_le0, pi_gt0, pi_ge0, pi_cl, sb_lit, fv4, isB01, nlt0, EvU_0, wO_ne, wL_ne, wC_ne, wN_ne, pO_ne, pU_ne, CN, LN, -Prod.exists, pi_ti, Op.lookupswitch.offset, EvU_at d65_0, EvU_at d65_1, EvU_at d65_2, EvU_at d65_3, EvU_at d65_4, EvU_at d65_7, EvU_at d65_8, EvU_at d65_9, EvU_at d65_12, EvU_at d65_13, EvU_at d65_14, EvU_at d65_15, EvU_at d65_16, EvU_at d65_17, EvU_at d65_18, EvU_at d65_19, Z65, Z66, LyS hL, LyG hL, p, thrw]
      · have q := q_path (A := A) (B := A) (gl := gl) (sl := (sl + 6)) (r := r) hA (hL.app (11, 0)) h hx
        simp only [if_neg (not_not_intro c1), if_pos c2] at q
        exact q
  · simp only [if_pos c1] at p
    refine good_fail hI (k := 1) (E := 2) (by omega) (fun r => ?_) (fun r => ?_)
    · rw [EvU_iff (fun _ => false) 30]
      simp [EvS, stI, enI, caI, s_push, s_iload, s_aload, s_istore, s_astore, s_iinc, s_bin, s_div, s_i2l, s_lcmp, s_dup, s_dup2, s_pop, s_tab, s_look, s_get, s_put, s_iald, s_lald, s_aald, s_iast, s_last, s_aast, s_len, s_newa, s_new, s_thr, s_min, s_copy, s_obj, s_call, s_iret, s_aret, s_vret, go, ldI, lget, lput, lv_args, wsum, va_rf, hnd, cvr, cat_i, cat_r, cat_l, oi_of, oi_add, oi_sub, oA_ap, oA_u2, pi_lt, pi_le, pi_eq, pi_eq0, pi_lt0, pi_le0, pi_gt0, pi_ge0, pi_cl, sb_lit, fv4, isB01, nlt0, EvU_0, wO_ne, wL_ne, wC_ne, wN_ne, pO_ne, pU_ne, CN, LN, -Prod.exists, pi_ti, Op.lookupswitch.offset, EvU_at d65_0, EvU_at d65_1, EvU_at d65_2, EvU_at d65_3, EvU_at d65_4, EvU_at d65_7, EvU_at d65_8, EvU_at d65_9, EvU_at d65_12, EvU_at d65_13, EvU_at d65_14, EvU_at d65_15, EvU_at d65_16, EvU_at d65_17, EvU_at d65_18, EvU_at d65_19, Z65, Z66, LyS hL, LyG hL, p, thrw]
    · have q := q_path (A := A) (B := A) (gl := gl) (sl := (sl + 6)) (r := r) hA (hL.app (12, 0)) h hx
      simp only [if_pos c1] at q
      exact q
set_option maxRecDepth 20000 in
theorem o_lugs (hI : Iv L sh A gr sl n) (hn : n < 600) {k x y : Int} (hk : sb k) (hx : sb x) (hy : sb y) : Good L 61 [(0, .ref 1), (1, .int (oi k)), (2, .int (oi x)), (3, .int (oi y))] 131 [(0, .ref 199), (1, .int (oi k)), (2, .int (oi x)), (3, .int (oi y))] true False sh A gl gr sl n := by
  have hI2 := hI
  obtain ⟨hC, hS⟩ := hI.c hn
  obtain ⟨hA, hL, h, hC2, hS2, h0⟩ := hI2
  have ms := h.O.G.ms
  have hm := h.O.m
  have p := fun (r : Out) => p_lugs (gl := gl) (sl := sl) (r := r) hA hL hC hS hk hx hy
  by_cases c1 : 0 ≤ k ∧ k < 27
  · have k1 := c1
    by_cases c2 : x = -1 ∨ 0 ≤ x ∧ x < 12
    · have k2 := c2
      by_cases c3 : y = -1 ∨ 0 ≤ y ∧ y < 12
      · have k3 := c3
        by_cases c4 : A 74 2 = 0
        · have k4 := c4
          simp only [if_neg (not_not_intro c1), if_neg (not_not_intro c2), if_neg (not_not_intro c3), if_neg (not_not_intro c4)] at p
          have i3 : (2 * k).toNat = 2 * k.toNat := by omega
          have i4 : (2 * k + 1).toNat = 2 * k.toNat + 1 := by omega
          have hA1 : ∀ c0 d0, sb ((u2 (u2 A 7 k.toNat x) 8 k.toNat y) c0 d0) := sb_u2 (sb_u2 (hA) hx _ _) hy _ _
          have h1 : RL (u2 (u2 A 7 k.toNat x) 8 k.toNat y) A := h.cg (fun a b g1 g2 g3 => by rw [uk_ne (by first | omega | (simp only [wO, wL, wC, wN, pO, pU, gO, gS, gP, gQ, gK, gC]; omega)), uk_ne (by first | omega | (simp only [wO, wL, wC, wN, pO, pU, gO, gS, gP, gQ, gK, gC]; omega))])
          refine good_ok hI (A' := (u2 (u2 A 7 k.toNat x) 8 k.toNat y)) (A'' := (u2 (u2 (u2 (u2 (u2 A 7 k.toNat x) 8 k.toNat y) 199 0 0) 207 (2 * k).toNat x) 207 (2 * k + 1).toNat y)) (gl' := gl) (v := 0) (fun r => ?_) (fun r => ?_) (fun j => by rw [uk_ne (by first | omega | (simp only [wO, wL, wC, wN, pO, pU, gO, gS, gP, gQ, gK, gC]; omega)), uk_ne (by first | omega | (simp only [wO, wL, wC, wN, pO, pU, gO, gS, gP, gQ, gK, gC]; omega))]) (fun e => e.elim) (Or.inr rfl) ?_ ?_ ?_ ?_
          · rw [EvU_iff (fun _ => false) 30]
            simp [EvS, stI, enI, caI, s_push, s_iload, s_aload, s_istore, s_astore, s_iinc, s_bin, s_div, s_i2l, s_lcmp, s_dup, s_dup2, s_pop, s_tab, s_look, s_get, s_put, s_iald, s_lald, s_aald, s_iast, s_last, s_aast, s_len, s_newa, s_new, s_thr, s_min, s_copy, s_obj, s_call, s_iret, s_aret, s_vret, go, ldI, lget, lput, lv_args, wsum, va_rf, hnd, cvr, cat_i, cat_r, cat_l, oi_of, oi_add, oi_sub, oA_ap, oA_u2, pi_lt, pi_le, pi_eq, pi_eq0, pi_lt0, pi_le0, pi_gt0, pi_ge0, pi_cl, sb_lit, fv4, isB01, nlt0, EvU_0, wO_ne, wL_ne, wC_ne, wN_ne, pO_ne, pU_ne, CN, LN, -Prod.exists, pi_ti, Op.lookupswitch.offset, EvU_at d61_0, EvU_at d61_1, EvU_at d61_2, EvU_at d61_3, EvU_at d61_4, EvU_at d61_7, EvU_at d61_10, EvU_at d61_12, EvU_at d61_13, EvU_at d61_14, EvU_at d61_16, EvU_at d61_17, EvU_at d61_18, EvU_at d61_19, Z61, Z62, LyS hL, LyG hL, p]
          · have q := q_lugs (A := (u2 (u2 A 7 k.toNat x) 8 k.toNat y)) (B := A) (gl := gl) (sl := sl) (r := r) hA1 hL h1 hk hx hy
            simp only [if_neg (not_not_intro c1), if_neg (not_not_intro c2), if_neg (not_not_intro c3), if_neg (not_not_intro c4)] at q
            exact q
          · exact sb_u2 (sb_u2 (sb_u2 hA1 (show sb 0 from ⟨by decide, by decide⟩) _ _) hx _ _) hy _ _
          · rw [uk_ne (by omega), uk_ne (by omega), ue_eq]
          · rw [i3, i4]; exact rl_lugs h1 (by omega) (by omega) (by omega)
          · exact fun a b ha => by rw [uk_ne (by omega), uk_ne (by omega), uk_ne (by omega)]
        · simp only [if_neg (not_not_intro c1), if_neg (not_not_intro c2), if_neg (not_not_intro c3), if_pos c4] at p
          refine good_fail hI (k := 2) (E := 1) (by omega) (fun r => ?_) (fun r => ?_)
          · rw [EvU_iff (fun _ => false) 30]
            simp [EvS, stI, enI, caI, s_push, s_iload, s_aload, s_istore, s_astore, s_iinc, s_bin, s_div, s_i2l, s_lcmp, s_dup, s_dup2, s_pop, s_tab, s_look, s_get, s_put, s_iald, s_lald, s_aald, s_iast, s_last, s_aast, s_len, s_newa, s_new, s_thr, s_min, s_copy, s_obj, s_call, s_iret, s_aret, s_vret, go, ldI, lget, lput, lv_args, wsum, va_rf, hnd, cvr, cat_i, cat_r, cat_l, oi_of, oi_add, oi_sub, oA_ap, oA_u2, pi_lt, pi_le, pi_eq, pi_eq0, pi_lt0, pi_le0, pi_gt0, pi_ge0, pi_cl, sb_lit, fv4, isB01, nlt0, EvU_0, wO_ne, wL_ne, wC_ne, wN_ne, pO_ne, pU_ne, CN, LN, -Prod.exists, pi_ti, Op.lookupswitch.offset, EvU_at d61_0, EvU_at d61_1, EvU_at d61_2, EvU_at d61_3, EvU_at d61_4, EvU_at d61_7, EvU_at d61_10, EvU_at d61_12, EvU_at d61_13, EvU_at d61_14, EvU_at d61_16, EvU_at d61_17, EvU_at d61_18, EvU_at d61_19, Z61, Z62, LyS hL, LyG hL, p, thrw]
          · have q := q_lugs (A := A) (B := A) (gl := gl) (sl := (sl + 6)) (r := r) hA (hL.app (11, 0)) h hk hx hy
            simp only [if_neg (not_not_intro c1), if_neg (not_not_intro c2), if_neg (not_not_intro c3), if_pos c4] at q
            exact q
      · simp only [if_neg (not_not_intro c1), if_neg (not_not_intro c2), if_pos c3] at p
        refine good_fail hI (k := 1) (E := 2) (by omega) (fun r => ?_) (fun r => ?_)
        · rw [EvU_iff (fun _ => false) 30]
          simp [EvS, stI, enI, caI, s_push, s_iload, s_aload, s_istore, s_astore, s_iinc, s_bin, s_div, s_i2l, s_lcmp, s_dup, s_dup2, s_pop, s_tab, s_look, s_get, s_put, s_iald, s_lald, s_aald, s_iast, s_last, s_aast, s_len, s_newa, s_new, s_thr, s_min, s_copy, s_obj, s_call, s_iret, s_aret, s_vret, go, ldI, lget, lput, lv_args, wsum, va_rf, hnd, cvr, cat_i, cat_r, cat_l, oi_of, oi_add, oi_sub, oA_ap, oA_u2, pi_lt, pi_le, pi_eq, pi_eq0, pi_lt0, pi_le0, pi_gt0, pi_ge0, pi_cl, sb_lit, fv4, isB01, nlt0, EvU_0, wO_ne, wL_ne, wC_ne, wN_ne, pO_ne, pU_ne, CN, LN, -Prod.exists, pi_ti, Op.lookupswitch.offset, EvU_at d61_0, EvU_at d61_1, EvU_at d61_2, EvU_at d61_3, EvU_at d61_4, EvU_at d61_7, EvU_at d61_10, EvU_at d61_12, EvU_at d61_13, EvU_at d61_14, EvU_at d61_16, EvU_at d61_17, EvU_at d61_18, EvU_at d61_19, Z61, Z62, LyS hL, LyG hL, p, thrw]
        · have q := q_lugs (A := A) (B := A) (gl := gl) (sl := (sl + 6)) (r := r) hA (hL.app (12, 0)) h hk hx hy
          simp only [if_neg (not_not_intro c1), if_neg (not_not_intro c2), if_pos c3] at q
          exact q
    · simp only [if_neg (not_not_intro c1), if_pos c2] at p
      refine good_fail hI (k := 1) (E := 2) (by omega) (fun r => ?_) (fun r => ?_)
      · rw [EvU_iff (fun _ => false) 30]
        simp [EvS, stI, enI, caI, s_push, s_iload, s_aload, s_istore, s_astore, s_iinc, s_bin, s_div, s_i2l, s_lcmp, s_dup, s_dup2, s_pop, s_tab, s_look, s_get, s_put, s_iald, s_lald, s_aald, s_iast, s_last, s_aast, s_len, s_newa, s_new, s_thr, s_min, s_copy, s_obj, s_call, s_iret, s_aret, s_vret, go, ldI, lget, lput, lv_args, wsum, va_rf, hnd, cvr, cat_i, cat_r, cat_l, oi_of, oi_add, oi_sub, oA_ap, oA_u2, pi_lt, pi_le, pi_eq, pi_eq0, pi_lt0, pi_le0, pi_gt0, pi_ge0, pi_cl, sb_lit, fv4, isB01, nlt0, EvU_0, wO_ne, wL_ne, wC_ne, wN_ne, pO_ne, pU_ne, CN, LN, -Prod.exists, pi_ti, Op.lookupswitch.offset, EvU_at d61_0, EvU_at d61_1, EvU_at d61_2, EvU_at d61_3, EvU_at d61_4, EvU_at d61_7, EvU_at d61_10, EvU_at d61_12, EvU_at d61_13, EvU_at d61_14, EvU_at d61_16, EvU_at d61_17, EvU_at d61_18, EvU_at d61_19, Z61, Z62, LyS hL, LyG hL, p, thrw]
      · have q := q_lugs (A := A) (B := A) (gl := gl) (sl := (sl + 6)) (r := r) hA (hL.app (12, 0)) h hk hx hy
        simp only [if_neg (not_not_intro c1), if_pos c2] at q
        exact q
  · simp only [if_pos c1] at p
    refine good_fail hI (k := 1) (E := 2) (by omega) (fun r => ?_) (fun r => ?_)
    · rw [EvU_iff (fun _ => false) 30]
      simp [EvS, stI, enI, caI, s_push, s_iload, s_aload, s_istore, s_astore, s_iinc, s_bin, s_div, s_i2l, s_lcmp, s_dup, s_dup2, s_pop, s_tab, s_look, s_get, s_put, s_iald, s_lald, s_aald, s_iast, s_last, s_aast, s_len, s_newa, s_new, s_thr, s_min, s_copy, s_obj, s_call, s_iret, s_aret, s_vret, go, ldI, lget, lput, lv_args, wsum, va_rf, hnd, cvr, cat_i, cat_r, cat_l, oi_of, oi_add, oi_sub, oA_ap, oA_u2, pi_lt, pi_le, pi_eq, pi_eq0, pi_lt0, pi_le0, pi_gt0, pi_ge0, pi_cl, sb_lit, fv4, isB01, nlt0, EvU_0, wO_ne, wL_ne, wC_ne, wN_ne, pO_ne, pU_ne, CN, LN, -Prod.exists, pi_ti, Op.lookupswitch.offset, EvU_at d61_0, EvU_at d61_1, EvU_at d61_2, EvU_at d61_3, EvU_at d61_4, EvU_at d61_7, EvU_at d61_10, EvU_at d61_12, EvU_at d61_13, EvU_at d61_14, EvU_at d61_16, EvU_at d61_17, EvU_at d61_18, EvU_at d61_19, Z61, Z62, LyS hL, LyG hL, p, thrw]
    · have q := q_lugs (A := A) (B := A) (gl := gl) (sl := (sl + 6)) (r := r) hA (hL.app (12, 0)) h hk hx hy
      simp only [if_pos c1] at q
      exact q
set_option maxRecDepth 20000 in
theorem o_wire (hI : Iv L sh A gr sl n) (hn : n < 600) {w x y : Int} (hw : sb w) (hx : sb x) (hy : sb y) : Good L 32 [(0, .ref 1), (1, .int (oi w)), (2, .int (oi x)), (3, .int (oi y)), (4, .ref 216)] 118 [(0, .ref 199), (1, .int (oi w)), (2, .int (oi x)), (3, .int (oi y))] false False sh A gl gr sl n := by
  have hI2 := hI
  obtain ⟨hC, hS⟩ := hI.c hn
  obtain ⟨hA, hL, h, hC2, hS2, h0⟩ := hI2
  have ms := h.O.G.ms
  have hm := h.O.m
  have p := fun (r : Out) => p_wire (gl := gl) (sl := sl) (r := r) hA hL hC hS h.O.wy hw hx hy
  by_cases c1 : 0 ≤ w ∧ w < 8
  · have k1 := c1
    by_cases c2 : 0 ≤ x ∧ x < (A 2 9)
    · have k2 := c2
      by_cases c3 : 0 ≤ y ∧ y < (A 2 9)
      · have k3 := c3
        by_cases c4 : A 74 2 = 0
        · have k4 := c4
          simp only [if_neg (not_not_intro c1), if_neg (not_not_intro c2), if_neg (not_not_intro c3), if_neg (not_not_intro c4)] at p
          have hw8 : w.toNat < 8 := by omega
          have hA1 : ∀ c0 d0, sb ((u2 (u2 (u2 (u2 A (wL w.toNat) (A (wC w.toNat) y.toNat).toNat (A (wL w.toNat) x.toNat)) (wC w.toNat) (A (wL w.toNat) x.toNat).toNat (A (wC w.toNat) y.toNat)) (wL w.toNat) x.toNat y) (wC w.toNat) y.toNat x) c0 d0) := sb_u2 (sb_u2 (sb_u2 (sb_u2 (hA) (hA _ _) _ _) (hA _ _) _ _) hy _ _) hx _ _
          have h1 : RL (u2 (u2 (u2 (u2 A (wL w.toNat) (A (wC w.toNat) y.toNat).toNat (A (wL w.toNat) x.toNat)) (wC w.toNat) (A (wL w.toNat) x.toNat).toNat (A (wC w.toNat) y.toNat)) (wL w.toNat) x.toNat y) (wC w.toNat) y.toNat x) A := h.cg (fun a b g1 g2 g3 => by rw [uk_ne (by first | omega | (simp only [wO, wL, wC, wN, pO, pU, gO, gS, gP, gQ, gK, gC]; omega)), uk_ne (by first | omega | (simp only [wO, wL, wC, wN, pO, pU, gO, gS, gP, gQ, gK, gC]; omega)), uk_ne (by first | omega | (simp only [wO, wL, wC, wN, pO, pU, gO, gS, gP, gQ, gK, gC]; omega)), uk_ne (by first | omega | (simp only [wO, wL, wC, wN, pO, pU, gO, gS, gP, gQ, gK, gC]; omega))])
          refine good_ok hI (A' := (u2 (u2 (u2 (u2 A (wL w.toNat) (A (wC w.toNat) y.toNat).toNat (A (wL w.toNat) x.toNat)) (wC w.toNat) (A (wL w.toNat) x.toNat).toNat (A (wC w.toNat) y.toNat)) (wL w.toNat) x.toNat y) (wC w.toNat) y.toNat x)) (A'' := (u2 (u2 (u2 (u2 (u2 (u2 (u2 A (wL w.toNat) (A (wC w.toNat) y.toNat).toNat (A (wL w.toNat) x.toNat)) (wC w.toNat) (A (wL w.toNat) x.toNat).toNat (A (wC w.toNat) y.toNat)) (wL w.toNat) x.toNat y) (wC w.toNat) y.toNat x) 199 0 0) 200 (32 * w.toNat + (A (wC w.toNat) y.toNat).toNat) (A (wL w.toNat) x.toNat)) 200 (32 * w.toNat + x.toNat) y)) (gl' := (u2 gl 216 0 (oi (A (wC w.toNat) y.toNat)).toInt64)) (v := (A (wC w.toNat) y.toNat)) (fun r => ?_) (fun r => ?_) (fun j => by rw [uk_ne (by first | omega | (simp only [wO, wL, wC, wN, pO, pU, gO, gS, gP, gQ, gK, gC]; omega)), uk_ne (by first | omega | (simp only [wO, wL, wC, wN, pO, pU, gO, gS, gP, gQ, gK, gC]; omega)), uk_ne (by first | omega | (simp only [wO, wL, wC, wN, pO, pU, gO, gS, gP, gQ, gK, gC]; omega)), uk_ne (by first | omega | (simp only [wO, wL, wC, wN, pO, pU, gO, gS, gP, gQ, gK, gC]; omega))]) (fun e => e.elim) (Or.inl (g216 _ _)) ?_ ?_ ?_ ?_
          · rw [EvU_iff (fun _ => false) 30]
            simp [EvS, stI, enI, caI, s_push, s_iload, s_aload, s_istore, s_astore, s_iinc, s_bin, s_div, s_i2l, s_lcmp, s_dup, s_dup2, s_pop, s_tab, s_look, s_get, s_put, s_iald, s_lald, s_aald, s_iast, s_last, s_aast, s_len, s_newa, s_new, s_thr, s_min, s_copy, s_obj, s_call, s_iret, s_aret, s_vret, go, ldI, lget, lput, lv_args, wsum, va_rf, hnd, cvr, cat_i, cat_r, cat_l, oi_of, oi_add, oi_sub, oA_ap, oA_u2, pi_lt, pi_le, pi_eq, pi_eq0, pi_lt0, pi_le0, pi_gt0, pi_ge0, pi_cl, sb_lit, fv4, isB01, nlt0, EvU_0, wO_ne, wL_ne, wC_ne, wN_ne, pO_ne, pU_ne, CN, LN, -Prod.exists, pi_ti, Op.lookupswitch.offset, EvU_at d32_0, EvU_at d32_2, EvU_at d32_3, EvU_at d32_4, EvU_at d32_5, EvU_at d32_6, EvU_at d32_7, EvU_at d32_10, EvU_at d32_11, EvU_at d32_12, EvU_at d32_15, EvU_at d32_17, EvU_at d32_18, EvU_at d32_19, EvU_at d32_21, EvU_at d32_22, EvU_at d32_23, EvU_at d32_24, Z32, Z33, LyS hL, LyG hL, p]
          · have q := q_wire (A := (u2 (u2 (u2 (u2 A (wL w.toNat) (A (wC w.toNat) y.toNat).toNat (A (wL w.toNat) x.toNat)) (wC w.toNat) (A (wL w.toNat) x.toNat).toNat (A (wC w.toNat) y.toNat)) (wL w.toNat) x.toNat y) (wC w.toNat) y.toNat x)) (B := A) (gl := (u2 gl 216 0 (oi (A (wC w.toNat) y.toNat)).toInt64)) (sl := sl) (r := r) hA1 hL h1 hw hx hy
            simp only [if_neg (not_not_intro c1), if_neg (not_not_intro c2), if_neg (not_not_intro c3), if_neg (not_not_intro c4)] at q
            exact q
          · exact sb_u2 (sb_u2 (sb_u2 hA1 (show sb 0 from ⟨by decide, by decide⟩) _ _) (hA _ _) _ _) hy _ _
          · rw [uk_ne (by omega), uk_ne (by omega), ue_eq]
          · have := rl_wire h1 hw8 (a := x.toNat) (b := y.toNat) (by omega) (by omega)
            rw [show ((x.toNat : Nat) : Int) = x by omega, show ((y.toNat : Nat) : Int) = y by omega] at this
            exact this
          · exact fun a b ha => by rw [uk_ne (by omega), uk_ne (by omega), uk_ne (by omega)]
        · simp only [if_neg (not_not_intro c1), if_neg (not_not_intro c2), if_neg (not_not_intro c3), if_pos c4] at p
          refine good_fail hI (k := 2) (E := 1) (by omega) (fun r => ?_) (fun r => ?_)
          · rw [EvU_iff (fun _ => false) 30]
            simp [EvS, stI, enI, caI, s_push, s_iload, s_aload, s_istore, s_astore, s_iinc, s_bin, s_div, s_i2l, s_lcmp, s_dup, s_dup2, s_pop, s_tab, s_look, s_get, s_put, s_iald, s_lald, s_aald, s_iast, s_last, s_aast, s_len, s_newa, s_new, s_thr, s_min, s_copy, s_obj, s_call, s_iret, s_aret, s_vret, go, ldI, lget, lput, lv_args, wsum, va_rf, hnd, cvr, cat_i, cat_r, cat_l, oi_of, oi_add, oi_sub, oA_ap, oA_u2, pi_lt, pi_le, pi_eq, pi_eq0, pi_lt0, pi_le0, pi_gt0, pi_ge0, pi_cl, sb_lit, fv4, isB01, nlt0, EvU_0, wO_ne, wL_ne, wC_ne, wN_ne, pO_ne, pU_ne, CN, LN, -Prod.exists, pi_ti, Op.lookupswitch.offset, EvU_at d32_0, EvU_at d32_2, EvU_at d32_3, EvU_at d32_4, EvU_at d32_5, EvU_at d32_6, EvU_at d32_7, EvU_at d32_10, EvU_at d32_11, EvU_at d32_12, EvU_at d32_15, EvU_at d32_17, EvU_at d32_18, EvU_at d32_19, EvU_at d32_21, EvU_at d32_22, EvU_at d32_23, EvU_at d32_24, Z32, Z33, LyS hL, LyG hL, p, thrw]
          · have q := q_wire (A := A) (B := A) (gl := gl) (sl := (sl + 6)) (r := r) hA (hL.app (11, 0)) h hw hx hy
            simp only [if_neg (not_not_intro c1), if_neg (not_not_intro c2), if_neg (not_not_intro c3), if_pos c4] at q
            exact q
      · simp only [if_neg (not_not_intro c1), if_neg (not_not_intro c2), if_pos c3] at p
        refine good_fail hI (k := 1) (E := 2) (by omega) (fun r => ?_) (fun r => ?_)
        · rw [EvU_iff (fun _ => false) 30]
          simp [EvS, stI, enI, caI, s_push, s_iload, s_aload, s_istore, s_astore, s_iinc, s_bin, s_div, s_i2l, s_lcmp, s_dup, s_dup2, s_pop, s_tab, s_look, s_get, s_put, s_iald, s_lald, s_aald, s_iast, s_last, s_aast, s_len, s_newa, s_new, s_thr, s_min, s_copy, s_obj, s_call, s_iret, s_aret, s_vret, go, ldI, lget, lput, lv_args, wsum, va_rf, hnd, cvr, cat_i, cat_r, cat_l, oi_of, oi_add, oi_sub, oA_ap, oA_u2, pi_lt, pi_le, pi_eq, pi_eq0, pi_lt0, pi_le0, pi_gt0, pi_ge0, pi_cl, sb_lit, fv4, isB01, nlt0, EvU_0, wO_ne, wL_ne, wC_ne, wN_ne, pO_ne, pU_ne, CN, LN, -Prod.exists, pi_ti, Op.lookupswitch.offset, EvU_at d32_0, EvU_at d32_2, EvU_at d32_3, EvU_at d32_4, EvU_at d32_5, EvU_at d32_6, EvU_at d32_7, EvU_at d32_10, EvU_at d32_11, EvU_at d32_12, EvU_at d32_15, EvU_at d32_17, EvU_at d32_18, EvU_at d32_19, EvU_at d32_21, EvU_at d32_22, EvU_at d32_23, EvU_at d32_24, Z32, Z33, LyS hL, LyG hL, p, thrw]
        · have q := q_wire (A := A) (B := A) (gl := gl) (sl := (sl + 6)) (r := r) hA (hL.app (12, 0)) h hw hx hy
          simp only [if_neg (not_not_intro c1), if_neg (not_not_intro c2), if_pos c3] at q
          exact q
    · simp only [if_neg (not_not_intro c1), if_pos c2] at p
      refine good_fail hI (k := 1) (E := 2) (by omega) (fun r => ?_) (fun r => ?_)
      · rw [EvU_iff (fun _ => false) 30]
        simp [EvS, stI, enI, caI, s_push, s_iload, s_aload, s_istore, s_astore, s_iinc, s_bin, s_div, s_i2l, s_lcmp, s_dup, s_dup2, s_pop, s_tab, s_look, s_get, s_put, s_iald, s_lald, s_aald, s_iast, s_last, s_aast, s_len, s_newa, s_new, s_thr, s_min, s_copy, s_obj, s_call, s_iret, s_aret, s_vret, go, ldI, lget, lput, lv_args, wsum, va_rf, hnd, cvr, cat_i, cat_r, cat_l, oi_of, oi_add, oi_sub, oA_ap, oA_u2, pi_lt, pi_le, pi_eq, pi_eq0, pi_lt0, pi_le0, pi_gt0, pi_ge0, pi_cl, sb_lit, fv4, isB01, nlt0, EvU_0, wO_ne, wL_ne, wC_ne, wN_ne, pO_ne, pU_ne, CN, LN, -Prod.exists, pi_ti, Op.lookupswitch.offset, EvU_at d32_0, EvU_at d32_2, EvU_at d32_3, EvU_at d32_4, EvU_at d32_5, EvU_at d32_6, EvU_at d32_7, EvU_at d32_10, EvU_at d32_11, EvU_at d32_12, EvU_at d32_15, EvU_at d32_17, EvU_at d32_18, EvU_at d32_19, EvU_at d32_21, EvU_at d32_22, EvU_at d32_23, EvU_at d32_24, Z32, Z33, LyS hL, LyG hL, p, thrw]
      · have q := q_wire (A := A) (B := A) (gl := gl) (sl := (sl + 6)) (r := r) hA (hL.app (12, 0)) h hw hx hy
        simp only [if_neg (not_not_intro c1), if_pos c2] at q
        exact q
  · simp only [if_pos c1] at p
    refine good_fail hI (k := 1) (E := 2) (by omega) (fun r => ?_) (fun r => ?_)
    · rw [EvU_iff (fun _ => false) 30]
      simp [EvS, stI, enI, caI, s_push, s_iload, s_aload, s_istore, s_astore, s_iinc, s_bin, s_div, s_i2l, s_lcmp, s_dup, s_dup2, s_pop, s_tab, s_look, s_get, s_put, s_iald, s_lald, s_aald, s_iast, s_last, s_aast, s_len, s_newa, s_new, s_thr, s_min, s_copy, s_obj, s_call, s_iret, s_aret, s_vret, go, ldI, lget, lput, lv_args, wsum, va_rf, hnd, cvr, cat_i, cat_r, cat_l, oi_of, oi_add, oi_sub, oA_ap, oA_u2, pi_lt, pi_le, pi_eq, pi_eq0, pi_lt0, pi_le0, pi_gt0, pi_ge0, pi_cl, sb_lit, fv4, isB01, nlt0, EvU_0, wO_ne, wL_ne, wC_ne, wN_ne, pO_ne, pU_ne, CN, LN, -Prod.exists, pi_ti, Op.lookupswitch.offset, EvU_at d32_0, EvU_at d32_2, EvU_at d32_3, EvU_at d32_4, EvU_at d32_5, EvU_at d32_6, EvU_at d32_7, EvU_at d32_10, EvU_at d32_11, EvU_at d32_12, EvU_at d32_15, EvU_at d32_17, EvU_at d32_18, EvU_at d32_19, EvU_at d32_21, EvU_at d32_22, EvU_at d32_23, EvU_at d32_24, Z32, Z33, LyS hL, LyG hL, p, thrw]
    · have q := q_wire (A := A) (B := A) (gl := gl) (sl := (sl + 6)) (r := r) hA (hL.app (12, 0)) h hw hx hy
      simp only [if_pos c1] at q
      exact q
end
