/-! the calls, one after another (gen69.py) -/
section
variable {sh : List (Nat × Nat)} {A : Nat → Nat → Int} {gl : Nat → Nat → Int64} {gr : Nat → Nat → Option Nat} {sl L n : Nat}
set_option maxRecDepth 20000 in
theorem o_plug0 (hI : Iv L sh A gr sl n) (hn : n < 600) {x y : Int} (hx : sb x) (hy : sb y) : Good L 47 [(0, .ref 1), (1, .int (oi 0)), (2, .int (oi x)), (3, .int (oi y))] 124 [(0, .ref 199), (1, .int (oi 0)), (2, .int (oi x)), (3, .int (oi y))] true False sh A gl gr sl n := by
  have hI2 := hI
  obtain ⟨hC, hS⟩ := hI.c hn
  obtain ⟨hA, hL, h, hC2, hS2, h0⟩ := hI2
  have ms := h.O.G.ms
  have hm := h.O.m
  have p := fun (r : Out) => p_plug0 (gl := gl) (sl := sl) (r := r) hA hL hC hS h.O.m.2 hx hy
  by_cases c1 : 0 ≤ x ∧ x < (A 2 9)
  · have k1 := c1
    by_cases c2 : 0 ≤ y ∧ y < (A 2 9)
    · have k2 := c2
      by_cases c3 : x ≠ y
      · have k3 := c3
        by_cases c4 : A 74 2 = 0
        · have k4 := c4
          by_cases c5 : A 10 x.toNat = x ∧ A 10 y.toNat = y
          · have k5 := c5
            simp only [if_neg (not_not_intro c1), if_neg (not_not_intro c2), if_neg (not_not_intro c3), if_neg (not_not_intro c4), if_neg (not_not_intro c5)] at p
            have cs := cntF_in A 10 (A 2 9).toNat
            have cq := h.O.M.cp
            have hA1 : ∀ c0 d0, sb ((u2 (u2 (u2 A 10 x.toNat y) 10 y.toNat x) 9 1 (A 9 1 + 1)) c0 d0) := sb_u2 (sb_u2 (sb_u2 (hA) hy _ _) hx _ _) ⟨by omega, by omega⟩ _ _
            have h1 : RL (u2 (u2 (u2 A 10 x.toNat y) 10 y.toNat x) 9 1 (A 9 1 + 1)) A := h.cg (fun a b g1 g2 g3 => by rw [uk_ne (by first | omega | (simp only [wO, wL, wC, wN, pO, pU, gO, gS, gP, gQ, gK, gC]; omega)), uk_ne (by first | omega | (simp only [wO, wL, wC, wN, pO, pU, gO, gS, gP, gQ, gK, gC]; omega)), uk_ne (by first | omega | (simp only [wO, wL, wC, wN, pO, pU, gO, gS, gP, gQ, gK, gC]; omega))])
            refine good_ok hI (A' := (u2 (u2 (u2 A 10 x.toNat y) 10 y.toNat x) 9 1 (A 9 1 + 1))) (A'' := (u2 (u2 (u2 (u2 (u2 (u2 A 10 x.toNat y) 10 y.toNat x) 9 1 (A 9 1 + 1)) 199 0 0) 204 (x).toNat y) 204 (y).toNat x)) (gl' := gl) (v := 0) (fun r => ?_) (fun r => ?_) (fun j => by rw [uk_ne (by first | omega | (simp only [wO, wL, wC, wN, pO, pU, gO, gS, gP, gQ, gK, gC]; omega)), uk_ne (by first | omega | (simp only [wO, wL, wC, wN, pO, pU, gO, gS, gP, gQ, gK, gC]; omega)), uk_ne (by first | omega | (simp only [wO, wL, wC, wN, pO, pU, gO, gS, gP, gQ, gK, gC]; omega))]) (fun e => e.elim) (Or.inr rfl) ?_ ?_ ?_ ?_
            · rw [EvU_iff (fun _ => false) 30]
              simp [EvS, stI, enI, caI, s_push, s_iload, s_aload, s_istore, s_astore, s_iinc, s_bin, s_div, s_i2l, s_lcmp, s_dup, s_dup2, s_pop, s_tab, s_look, s_get, s_put, s_iald, s_lald, s_aald, s_iast, s_last, s_aast, s_len, s_newa, s_new, s_thr, s_min, s_copy, s_obj, s_call, s_iret, s_aret, s_vret, go, ldI, lget, lput, lv_args, wsum, va_rf, hnd, cvr, cat_i, cat_r, cat_l, oi_of, oi_add, oi_sub, oA_ap, oA_u2, pi_lt, pi_le, pi_eq, pi_eq0, pi_lt0, pi_le0, pi_gt0, pi_ge0, pi_cl, sb_lit, fv4, isB01, nlt0, EvU_0, wO_ne, wL_ne, wC_ne, wN_ne, pO_ne, pU_ne, CN, LN, -Prod.exists, pi_ti, Op.lookupswitch.offset, EvU_at d47_0, EvU_at d47_1, EvU_at d47_2, EvU_at d47_3, EvU_at d47_4, EvU_at d47_7, EvU_at d47_10, EvU_at d47_12, EvU_at d47_13, EvU_at d47_14, EvU_at d47_16, EvU_at d47_17, EvU_at d47_18, EvU_at d47_20, EvU_at d47_21, EvU_at d47_22, EvU_at d47_23, Z47, Z48, LyS hL, LyG hL, p]
            · have q := q_plug0 (A := (u2 (u2 (u2 A 10 x.toNat y) 10 y.toNat x) 9 1 (A 9 1 + 1))) (B := A) (gl := gl) (sl := sl) (r := r) hA1 hL h1 hx hy
              simp only [if_neg (not_not_intro c1), if_neg (not_not_intro c2), if_neg (not_not_intro c3), if_neg (not_not_intro c4), if_neg (not_not_intro c5)] at q
              exact q
            · exact sb_u2 (sb_u2 (sb_u2 hA1 (show sb 0 from ⟨by decide, by decide⟩) _ _) hy _ _) hx _ _
            · rw [uk_ne (by omega), uk_ne (by omega), ue_eq]
            · have := rl_plug0 h1 (a := x.toNat) (b := y.toNat) (by omega) (by omega) (by omega) (by rw [c5.1]; omega) (by rw [c5.2]; omega); rw [show ((x.toNat : Nat) : Int) = x by omega, show ((y.toNat : Nat) : Int) = y by omega] at this; exact this
            · exact fun a b ha => by rw [uk_ne (by omega), uk_ne (by omega), uk_ne (by omega)]
          · simp only [if_neg (not_not_intro c1), if_neg (not_not_intro c2), if_neg (not_not_intro c3), if_neg (not_not_intro c4), if_pos c5] at p
            refine good_fail hI (k := 3) (E := 1) (by omega) (fun r => ?_) (fun r => ?_)
            · rw [EvU_iff (fun _ => false) 30]
              simp [EvS, stI, enI, caI, s_push, s_iload, s_aload, s_istore, s_astore, s_iinc, s_bin, s_div, s_i2l, s_lcmp, s_dup, s_dup2, s_pop, s_tab, s_look, s_get, s_put, s_iald, s_lald, s_aald, s_iast, s_last, s_aast, s_len, s_newa, s_new, s_thr, s_min, s_copy, s_obj, s_call, s_iret, s_aret, s_vret, go, ldI, lget, lput, lv_args, wsum, va_rf, hnd, cvr, cat_i, cat_r, cat_l, oi_of, oi_add, oi_sub, oA_ap, oA_u2, pi_lt, pi_le, pi_eq, pi_eq0, pi_lt0, pi_le0, pi_gt0, pi_ge0, pi_cl, sb_lit, fv4, isB01, nlt0, EvU_0, wO_ne, wL_ne, wC_ne, wN_ne, pO_ne, pU_ne, CN, LN, -Prod.exists, pi_ti, Op.lookupswitch.offset, EvU_at d47_0, EvU_at d47_1, EvU_at d47_2, EvU_at d47_3, EvU_at d47_4, EvU_at d47_7, EvU_at d47_10, EvU_at d47_12, EvU_at d47_13, EvU_at d47_14, EvU_at d47_16, EvU_at d47_17, EvU_at d47_18, EvU_at d47_20, EvU_at d47_21, EvU_at d47_22, EvU_at d47_23, Z47, Z48, LyS hL, LyG hL, p, thrw]
            · have q := q_plug0 (A := A) (B := A) (gl := gl) (sl := (sl + 6)) (r := r) hA (hL.app (11, 0)) h hx hy
              simp only [if_neg (not_not_intro c1), if_neg (not_not_intro c2), if_neg (not_not_intro c3), if_neg (not_not_intro c4), if_pos c5] at q
              exact q
        · simp only [if_neg (not_not_intro c1), if_neg (not_not_intro c2), if_neg (not_not_intro c3), if_pos c4] at p
          refine good_fail hI (k := 3) (E := 1) (by omega) (fun r => ?_) (fun r => ?_)
          · rw [EvU_iff (fun _ => false) 30]
            simp [EvS, stI, enI, caI, s_push, s_iload, s_aload, s_istore, s_astore, s_iinc, s_bin, s_div, s_i2l, s_lcmp, s_dup, s_dup2, s_pop, s_tab, s_look, s_get, s_put, s_iald, s_lald, s_aald, s_iast, s_last, s_aast, s_len, s_newa, s_new, s_thr, s_min, s_copy, s_obj, s_call, s_iret, s_aret, s_vret, go, ldI, lget, lput, lv_args, wsum, va_rf, hnd, cvr, cat_i, cat_r, cat_l, oi_of, oi_add, oi_sub, oA_ap, oA_u2, pi_lt, pi_le, pi_eq, pi_eq0, pi_lt0, pi_le0, pi_gt0, pi_ge0, pi_cl, sb_lit, fv4, isB01, nlt0, EvU_0, wO_ne, wL_ne, wC_ne, wN_ne, pO_ne, pU_ne, CN, LN, -Prod.exists, pi_ti, Op.lookupswitch.offset, EvU_at d47_0, EvU_at d47_1, EvU_at d47_2, EvU_at d47_3, EvU_at d47_4, EvU_at d47_7, EvU_at d47_10, EvU_at d47_12, EvU_at d47_13, EvU_at d47_14, EvU_at d47_16, EvU_at d47_17, EvU_at d47_18, EvU_at d47_20, EvU_at d47_21, EvU_at d47_22, EvU_at d47_23, Z47, Z48, LyS hL, LyG hL, p, thrw]
          · have q := q_plug0 (A := A) (B := A) (gl := gl) (sl := (sl + 6)) (r := r) hA (hL.app (11, 0)) h hx hy
            simp only [if_neg (not_not_intro c1), if_neg (not_not_intro c2), if_neg (not_not_intro c3), if_pos c4] at q
            exact q
      · simp only [if_neg (not_not_intro c1), if_neg (not_not_intro c2), if_pos c3] at p
        refine good_fail hI (k := 2) (E := 0) (by omega) (fun r => ?_) (fun r => ?_)
        · rw [EvU_iff (fun _ => false) 30]
          simp [EvS, stI, enI, caI, s_push, s_iload, s_aload, s_istore, s_astore, s_iinc, s_bin, s_div, s_i2l, s_lcmp, s_dup, s_dup2, s_pop, s_tab, s_look, s_get, s_put, s_iald, s_lald, s_aald, s_iast, s_last, s_aast, s_len, s_newa, s_new, s_thr, s_min, s_copy, s_obj, s_call, s_iret, s_aret, s_vret, go, ldI, lget, lput, lv_args, wsum, va_rf, hnd, cvr, cat_i, cat_r, cat_l, oi_of, oi_add, oi_sub, oA_ap, oA_u2, pi_lt, pi_le, pi_eq, pi_eq0, pi_lt0, pi_le0, pi_gt0, pi_ge0, pi_cl, sb_lit, fv4, isB01, nlt0, EvU_0, wO_ne, wL_ne, wC_ne, wN_ne, pO_ne, pU_ne, CN, LN, -Prod.exists, pi_ti, Op.lookupswitch.offset, EvU_at d47_0, EvU_at d47_1, EvU_at d47_2, EvU_at d47_3, EvU_at d47_4, EvU_at d47_7, EvU_at d47_10, EvU_at d47_12, EvU_at d47_13, EvU_at d47_14, EvU_at d47_16, EvU_at d47_17, EvU_at d47_18, EvU_at d47_20, EvU_at d47_21, EvU_at d47_22, EvU_at d47_23, Z47, Z48, LyS hL, LyG hL, p, thrw]
        · have q := q_plug0 (A := A) (B := A) (gl := gl) (sl := (sl + 6)) (r := r) hA (hL.app (10, 0)) h hx hy
          simp only [if_neg (not_not_intro c1), if_neg (not_not_intro c2), if_pos c3] at q
          exact q
    · simp only [if_neg (not_not_intro c1), if_pos c2] at p
      refine good_fail hI (k := 1) (E := 2) (by omega) (fun r => ?_) (fun r => ?_)
      · rw [EvU_iff (fun _ => false) 30]
        simp [EvS, stI, enI, caI, s_push, s_iload, s_aload, s_istore, s_astore, s_iinc, s_bin, s_div, s_i2l, s_lcmp, s_dup, s_dup2, s_pop, s_tab, s_look, s_get, s_put, s_iald, s_lald, s_aald, s_iast, s_last, s_aast, s_len, s_newa, s_new, s_thr, s_min, s_copy, s_obj, s_call, s_iret, s_aret, s_vret, go, ldI, lget, lput, lv_args, wsum, va_rf, hnd, cvr, cat_i, cat_r, cat_l, oi_of, oi_add, oi_sub, oA_ap, oA_u2, pi_lt, pi_le, pi_eq, pi_eq0, pi_lt0, pi_le0, pi_gt0, pi_ge0, pi_cl, sb_lit, fv4, isB01, nlt0, EvU_0, wO_ne, wL_ne, wC_ne, wN_ne, pO_ne, pU_ne, CN, LN, -Prod.exists, pi_ti, Op.lookupswitch.offset, EvU_at d47_0, EvU_at d47_1, EvU_at d47_2, EvU_at d47_3, EvU_at d47_4, EvU_at d47_7, EvU_at d47_10, EvU_at d47_12, EvU_at d47_13, EvU_at d47_14, EvU_at d47_16, EvU_at d47_17, EvU_at d47_18, EvU_at d47_20, EvU_at d47_21, EvU_at d47_22, EvU_at d47_23, Z47, Z48, LyS hL, LyG hL, p, thrw]
      · have q := q_plug0 (A := A) (B := A) (gl := gl) (sl := (sl + 6)) (r := r) hA (hL.app (12, 0)) h hx hy
        simp only [if_neg (not_not_intro c1), if_pos c2] at q
        exact q
  · simp only [if_pos c1] at p
    refine good_fail hI (k := 1) (E := 2) (by omega) (fun r => ?_) (fun r => ?_)
    · rw [EvU_iff (fun _ => false) 30]
      simp [EvS, stI, enI, caI, s_push, s_iload, s_aload, s_istore, s_astore, s_iinc, s_bin, s_div, s_i2l, s_lcmp, s_dup, s_dup2, s_pop, s_tab, s_look, s_get, s_put, s_iald, s_lald, s_aald, s_iast, s_last, s_aast, s_len, s_newa, s_new, s_thr, s_min, s_copy, s_obj, s_call, s_iret, s_aret, s_vret, go, ldI, lget, lput, lv_args, wsum, va_rf, hnd, cvr, cat_i, cat_r, cat_l, oi_of, oi_add, oi_sub, oA_ap, oA_u2, pi_lt, pi_le, pi_eq, pi_eq0, pi_lt0, pi_le0, pi_gt0, pi_ge0, pi_cl, sb_lit, fv4, isB01, nlt0, EvU_0, wO_ne, wL_ne, wC_ne, wN_ne, pO_ne, pU_ne, CN, LN, -Prod.exists, pi_ti, Op.lookupswitch.offset, EvU_at d47_0, EvU_at d47_1, EvU_at d47_2, EvU_at d47_3, EvU_at d47_4, EvU_at d47_7, EvU_at d47_10, EvU_at d47_12, EvU_at d47_13, EvU_at d47_14, EvU_at d47_16, EvU_at d47_17, EvU_at d47_18, EvU_at d47_20, EvU_at d47_21, EvU_at d47_22, EvU_at d47_23, Z47, Z48, LyS hL, LyG hL, p, thrw]
    · have q := q_plug0 (A := A) (B := A) (gl := gl) (sl := (sl + 6)) (r := r) hA (hL.app (12, 0)) h hx hy
      simp only [if_pos c1] at q
      exact q
set_option maxRecDepth 20000 in
theorem o_unplug0 (hI : Iv L sh A gr sl n) (hn : n < 600) {x : Int} (hx : sb x) : Good L 52 [(0, .ref 1), (1, .int (oi 0)), (2, .int (oi x)), (3, .ref 216)] 126 [(0, .ref 199), (1, .int (oi 0)), (2, .int (oi x))] false False sh A gl gr sl n := by
  have hI2 := hI
  obtain ⟨hC, hS⟩ := hI.c hn
  obtain ⟨hA, hL, h, hC2, hS2, h0⟩ := hI2
  have hm := h.O.m
  have p := fun (r : Out) => p_unplug0 (gl := gl) (sl := sl) (r := r) hA hL hC hS h.O.ro h.O.m.2 hx
  by_cases c1 : 0 ≤ x ∧ x < (A 2 9)
  · by_cases c2 : A 74 2 = 0
    · simp only [if_neg (not_not_intro c1), if_neg (not_not_intro c2)] at p
      have pw := h.O.M.pp x.toNat (by omega)
      have cs := cntF_in A 10 (A 2 9).toNat
      have cq := h.O.M.cp
      by_cases c3 : A 10 x.toNat = x
      · simp only [if_pos c3] at p
        refine good_ok hI (A' := A) (A'' := u2 (u2 (u2 A 199 0 0) 204 (x).toNat x) 204 (A 10 x.toNat).toNat (A 10 x.toNat)) (gl' := u2 gl 216 0 (oi (-1)).toInt64) (v := -1) (fun r => ?_) (fun r => ?_) (fun _ => rfl) (fun e => e.elim) (Or.inl (g216 _ _)) ?_ ?_ ?_ ?_
        · rw [EvU_iff (fun _ => false) 30]
          simp [EvS, stI, enI, caI, s_push, s_iload, s_aload, s_istore, s_astore, s_iinc, s_bin, s_div, s_i2l, s_lcmp, s_dup, s_dup2, s_pop, s_tab, s_look, s_get, s_put, s_iald, s_lald, s_aald, s_iast, s_last, s_aast, s_len, s_newa, s_new, s_thr, s_min, s_copy, s_obj, s_call, s_iret, s_aret, s_vret, go, ldI, lget, lput, lv_args, wsum, va_rf, hnd, cvr, cat_i, cat_r, cat_l, oi_of, oi_add, oi_sub, oA_ap, oA_u2, pi_lt, pi_le, pi_eq, pi_eq0, pi_lt0, pi_le0, pi_gt0, pi_ge0, pi_cl, sb_lit, fv4, isB01, nlt0, EvU_0, wO_ne, wL_ne, wC_ne, wN_ne, pO_ne, pU_ne, CN, LN, -Prod.exists, pi_ti, Op.lookupswitch.offset, EvU_at d52_0, EvU_at d52_1, EvU_at d52_2, EvU_at d52_3, EvU_at d52_4, EvU_at d52_5, EvU_at d52_8, EvU_at d52_9, EvU_at d52_10, EvU_at d52_13, EvU_at d52_15, EvU_at d52_16, EvU_at d52_17, EvU_at d52_19, EvU_at d52_20, EvU_at d52_21, EvU_at d52_22, Z52, Z53, LyS hL, LyG hL, p]
        · have q := q_unplug0 (A := A) (B := A) (gl := u2 gl 216 0 (oi (-1)).toInt64) (sl := sl) (r := r) hA hL h hx
          rw [if_neg (not_not_intro c1), if_neg (not_not_intro c2), if_pos c3] at q
          exact q
        · exact sb_u2 (sb_u2 (sb_u2 hA (show sb 0 from ⟨by decide, by decide⟩) _ _) hx _ _) (hA _ _) _ _
        · rw [uk_ne (by omega), uk_ne (by omega), ue_eq]
        · have := rl_unplugN0 h (a := x.toNat) (by omega) (by rw [c3]; omega)
          rw [show ((x.toNat : Nat) : Int) = x by omega] at this
          rw [c3]
          exact this
        · exact fun a b ha => by rw [uk_ne (by omega), uk_ne (by omega), uk_ne (by omega)]
      · simp only [if_neg c3] at p
        have hA1 := sb_u2 (sb_u2 (sb_u2 hA hx 10 x.toNat) (hA 10 x.toNat) 10 (A 10 x.toNat).toNat) (show sb (A 9 1 - 1) from ⟨by omega, by omega⟩) 9 1
        have h1 : RL (u2 (u2 (u2 A 10 x.toNat x) 10 (A 10 x.toNat).toNat (A 10 x.toNat)) 9 1 (A 9 1 - 1)) A := h.cg (fun a b g1 g2 g3 => by rw [uk_ne (by omega), uk_ne (by omega), uk_ne (by omega)])
        refine good_ok hI (A' := u2 (u2 (u2 A 10 x.toNat x) 10 (A 10 x.toNat).toNat (A 10 x.toNat)) 9 1 (A 9 1 - 1)) (A'' := u2 (u2 (u2 (u2 (u2 (u2 A 10 x.toNat x) 10 (A 10 x.toNat).toNat (A 10 x.toNat)) 9 1 (A 9 1 - 1)) 199 0 0) 204 (x).toNat x) 204 (A 10 x.toNat).toNat (A 10 x.toNat)) (gl' := u2 gl 216 0 (oi (A 10 x.toNat)).toInt64) (v := A 10 x.toNat) (fun r => ?_) (fun r => ?_) (fun j => by rw [uk_ne (by omega), uk_ne (by omega), uk_ne (by omega)]) (fun e => e.elim) (Or.inl (g216 _ _)) ?_ ?_ ?_ ?_
        · rw [EvU_iff (fun _ => false) 30]
          simp [EvS, stI, enI, caI, s_push, s_iload, s_aload, s_istore, s_astore, s_iinc, s_bin, s_div, s_i2l, s_lcmp, s_dup, s_dup2, s_pop, s_tab, s_look, s_get, s_put, s_iald, s_lald, s_aald, s_iast, s_last, s_aast, s_len, s_newa, s_new, s_thr, s_min, s_copy, s_obj, s_call, s_iret, s_aret, s_vret, go, ldI, lget, lput, lv_args, wsum, va_rf, hnd, cvr, cat_i, cat_r, cat_l, oi_of, oi_add, oi_sub, oA_ap, oA_u2, pi_lt, pi_le, pi_eq, pi_eq0, pi_lt0, pi_le0, pi_gt0, pi_ge0, pi_cl, sb_lit, fv4, isB01, nlt0, EvU_0, wO_ne, wL_ne, wC_ne, wN_ne, pO_ne, pU_ne, CN, LN, -Prod.exists, pi_ti, Op.lookupswitch.offset, EvU_at d52_0, EvU_at d52_1, EvU_at d52_2, EvU_at d52_3, EvU_at d52_4, EvU_at d52_5, EvU_at d52_8, EvU_at d52_9, EvU_at d52_10, EvU_at d52_13, EvU_at d52_15, EvU_at d52_16, EvU_at d52_17, EvU_at d52_19, EvU_at d52_20, EvU_at d52_21, EvU_at d52_22, Z52, Z53, LyS hL, LyG hL, p]
        · have q := q_unplug0 (B := A) (gl := u2 gl 216 0 (oi (A 10 x.toNat)).toInt64) (sl := sl) (r := r) hA1 hL h1 hx
          rw [if_neg (not_not_intro c1), if_neg (not_not_intro c2), if_neg c3] at q
          exact q
        · exact sb_u2 (sb_u2 (sb_u2 hA1 (show sb 0 from ⟨by decide, by decide⟩) _ _) hx _ _) (hA _ _) _ _
        · rw [uk_ne (by omega), uk_ne (by omega), ue_eq]
        · have := rl_unplug0 h1 (a := x.toNat) (d := (A 10 x.toNat).toNat) (by omega) (by omega) (by omega)
          rw [show ((x.toNat : Nat) : Int) = x by omega, show (((A 10 x.toNat).toNat : Nat) : Int) = A 10 x.toNat by omega] at this
          exact this
        · exact fun a b ha => by rw [uk_ne (by omega), uk_ne (by omega), uk_ne (by omega)]
    · simp only [if_neg (not_not_intro c1), if_pos c2] at p
      refine good_fail hI (k := 2) (E := 1) (by omega) (fun r => ?_) (fun r => ?_)
      · rw [EvU_iff (fun _ => false) 30]
        simp [EvS, stI, enI, caI, s_push, s_iload, s_aload, s_istore, s_astore, s_iinc, s_bin, s_div, s_i2l, s_lcmp, s_dup, s_dup2, s_pop, s_tab, s_look, s_get, s_put, s_iald, s_lald, s_aald, s_iast, s_last, s_aast, s_len, s_newa, s_new, s_thr, s_min, s_copy, s_obj, s_call, s_iret, s_aret, s_vret, go, ldI, lget, lput, lv_args, wsum, va_rf, hnd, cvr, cat_i, cat_r, cat_l, oi_of, oi_add, oi_sub, oA_ap, oA_u2, pi_lt, pi_le, pi_eq, pi_eq0, pi_lt0, pi_le0, pi_gt0, pi_ge0, pi_cl, sb_lit, fv4, isB01, nlt0, EvU_0, wO_ne, wL_ne, wC_ne, wN_ne, pO_ne, pU_ne, CN, LN, -Prod.exists, pi_ti, Op.lookupswitch.offset, EvU_at d52_0, EvU_at d52_1, EvU_at d52_2, EvU_at d52_3, EvU_at d52_4, EvU_at d52_5, EvU_at d52_8, EvU_at d52_9, EvU_at d52_10, EvU_at d52_13, EvU_at d52_15, EvU_at d52_16, EvU_at d52_17, EvU_at d52_19, EvU_at d52_20, EvU_at d52_21, EvU_at d52_22, Z52, Z53, LyS hL, LyG hL, p, thrw]
      · have q := q_unplug0 (B := A) (gl := gl) (sl := sl + 6) (r := r) hA (hL.app (11, 0)) h hx
        rw [if_neg (not_not_intro c1), if_pos c2] at q
        exact q
  · simp only [if_pos c1] at p
    refine good_fail hI (k := 1) (E := 2) (by omega) (fun r => ?_) (fun r => ?_)
    · rw [EvU_iff (fun _ => false) 30]
      simp [EvS, stI, enI, caI, s_push, s_iload, s_aload, s_istore, s_astore, s_iinc, s_bin, s_div, s_i2l, s_lcmp, s_dup, s_dup2, s_pop, s_tab, s_look, s_get, s_put, s_iald, s_lald, s_aald, s_iast, s_last, s_aast, s_len, s_newa, s_new, s_thr, s_min, s_copy, s_obj, s_call, s_iret, s_aret, s_vret, go, ldI, lget, lput, lv_args, wsum, va_rf, hnd, cvr, cat_i, cat_r, cat_l, oi_of, oi_add, oi_sub, oA_ap, oA_u2, pi_lt, pi_le, pi_eq, pi_eq0, pi_lt0, pi_le0, pi_gt0, pi_ge0, pi_cl, sb_lit, fv4, isB01, nlt0, EvU_0, wO_ne, wL_ne, wC_ne, wN_ne, pO_ne, pU_ne, CN, LN, -Prod.exists, pi_ti, Op.lookupswitch.offset, EvU_at d52_0, EvU_at d52_1, EvU_at d52_2, EvU_at d52_3, EvU_at d52_4, EvU_at d52_5, EvU_at d52_8, EvU_at d52_9, EvU_at d52_10, EvU_at d52_13, EvU_at d52_15, EvU_at d52_16, EvU_at d52_17, EvU_at d52_19, EvU_at d52_20, EvU_at d52_21, EvU_at d52_22, Z52, Z53, LyS hL, LyG hL, p, thrw]
    · have q := q_unplug0 (B := A) (gl := gl) (sl := sl + 6) (r := r) hA (hL.app (12, 0)) h hx
      rw [if_pos c1] at q
      exact q
set_option maxRecDepth 20000 in
theorem o_plug1 (hI : Iv L sh A gr sl n) (hn : n < 600) {x y : Int} (hx : sb x) (hy : sb y) : Good L 47 [(0, .ref 1), (1, .int (oi 1)), (2, .int (oi x)), (3, .int (oi y))] 124 [(0, .ref 199), (1, .int (oi 1)), (2, .int (oi x)), (3, .int (oi y))] true False sh A gl gr sl n := by
  have hI2 := hI
  obtain ⟨hC, hS⟩ := hI.c hn
  obtain ⟨hA, hL, h, hC2, hS2, h0⟩ := hI2
  have ms := h.O.G.ms
  have hm := h.O.m
  have p := fun (r : Out) => p_plug1 (gl := gl) (sl := sl) (r := r) hA hL hC hS h.O.m.2 hx hy
  by_cases c1 : 0 ≤ x ∧ x < (A 2 9)
  · have k1 := c1
    by_cases c2 : 0 ≤ y ∧ y < (A 2 9)
    · have k2 := c2
      by_cases c3 : x ≠ y
      · have k3 := c3
        by_cases c4 : A 74 2 = 0
        · have k4 := c4
          by_cases c5 : A 12 x.toNat = x ∧ A 12 y.toNat = y
          · have k5 := c5
            simp only [if_neg (not_not_intro c1), if_neg (not_not_intro c2), if_neg (not_not_intro c3), if_neg (not_not_intro c4), if_neg (not_not_intro c5)] at p
            have cs := cntF_in A 12 (A 2 9).toNat
            have cq := h.O.M.cr
            have hA1 : ∀ c0 d0, sb ((u2 (u2 (u2 A 12 x.toNat y) 12 y.toNat x) 11 1 (A 11 1 + 1)) c0 d0) := sb_u2 (sb_u2 (sb_u2 (hA) hy _ _) hx _ _) ⟨by omega, by omega⟩ _ _
            have h1 : RL (u2 (u2 (u2 A 12 x.toNat y) 12 y.toNat x) 11 1 (A 11 1 + 1)) A := h.cg (fun a b g1 g2 g3 => by rw [uk_ne (by first | omega | (simp only [wO, wL, wC, wN, pO, pU, gO, gS, gP, gQ, gK, gC]; omega)), uk_ne (by first | omega | (simp only [wO, wL, wC, wN, pO, pU, gO, gS, gP, gQ, gK, gC]; omega)), uk_ne (by first | omega | (simp only [wO, wL, wC, wN, pO, pU, gO, gS, gP, gQ, gK, gC]; omega))])
            refine good_ok hI (A' := (u2 (u2 (u2 A 12 x.toNat y) 12 y.toNat x) 11 1 (A 11 1 + 1))) (A'' := (u2 (u2 (u2 (u2 (u2 (u2 A 12 x.toNat y) 12 y.toNat x) 11 1 (A 11 1 + 1)) 199 0 0) 204 (32 + x).toNat y) 204 (32 + y).toNat x)) (gl' := gl) (v := 0) (fun r => ?_) (fun r => ?_) (fun j => by rw [uk_ne (by first | omega | (simp only [wO, wL, wC, wN, pO, pU, gO, gS, gP, gQ, gK, gC]; omega)), uk_ne (by first | omega | (simp only [wO, wL, wC, wN, pO, pU, gO, gS, gP, gQ, gK, gC]; omega)), uk_ne (by first | omega | (simp only [wO, wL, wC, wN, pO, pU, gO, gS, gP, gQ, gK, gC]; omega))]) (fun e => e.elim) (Or.inr rfl) ?_ ?_ ?_ ?_
            · rw [EvU_iff (fun _ => false) 30]
              simp [EvS, stI, enI, caI, s_push, s_iload, s_aload, s_istore, s_astore, s_iinc, s_bin, s_div, s_i2l, s_lcmp, s_dup, s_dup2, s_pop, s_tab, s_look, s_get, s_put, s_iald, s_lald, s_aald, s_iast, s_last, s_aast, s_len, s_newa, s_new, s_thr, s_min, s_copy, s_obj, s_call, s_iret, s_aret, s_vret, go, ldI, lget, lput, lv_args, wsum, va_rf, hnd, cvr, cat_i, cat_r, cat_l, oi_of, oi_add, oi_sub, oA_ap, oA_u2, pi_lt, pi_le, pi_eq, pi_eq0, pi_lt0, pi_le0, pi_gt0, pi_ge0, pi_cl, sb_lit, fv4, isB01, nlt0, EvU_0, wO_ne, wL_ne, wC_ne, wN_ne, pO_ne, pU_ne, CN, LN, -Prod.exists, pi_ti, Op.lookupswitch.offset, EvU_at d47_0, EvU_at d47_1, EvU_at d47_2, EvU_at d47_3, EvU_at d47_4, EvU_at d47_7, EvU_at d47_10, EvU_at d47_12, EvU_at d47_13, EvU_at d47_14, EvU_at d47_16, EvU_at d47_17, EvU_at d47_18, EvU_at d47_20, EvU_at d47_21, EvU_at d47_22, EvU_at d47_23, Z47, Z48, LyS hL, LyG hL, p]
            · have q := q_plug1 (A := (u2 (u2 (u2 A 12 x.toNat y) 12 y.toNat x) 11 1 (A 11 1 + 1))) (B := A) (gl := gl) (sl := sl) (r := r) hA1 hL h1 hx hy
              simp only [if_neg (not_not_intro c1), if_neg (not_not_intro c2), if_neg (not_not_intro c3), if_neg (not_not_intro c4), if_neg (not_not_intro c5)] at q
              exact q
            · exact sb_u2 (sb_u2 (sb_u2 hA1 (show sb 0 from ⟨by decide, by decide⟩) _ _) hy _ _) hx _ _
            · rw [uk_ne (by omega), uk_ne (by omega), ue_eq]
            · have := rl_plug1 h1 (a := x.toNat) (b := y.toNat) (by omega) (by omega) (by omega) (by rw [c5.1]; omega) (by rw [c5.2]; omega); rw [show ((x.toNat : Nat) : Int) = x by omega, show ((y.toNat : Nat) : Int) = y by omega, show 32 + x.toNat = (32 + x).toNat by omega, show 32 + y.toNat = (32 + y).toNat by omega] at this; exact this
            · exact fun a b ha => by rw [uk_ne (by omega), uk_ne (by omega), uk_ne (by omega)]
          · simp only [if_neg (not_not_intro c1), if_neg (not_not_intro c2), if_neg (not_not_intro c3), if_neg (not_not_intro c4), if_pos c5] at p
            refine good_fail hI (k := 3) (E := 1) (by omega) (fun r => ?_) (fun r => ?_)
            · rw [EvU_iff (fun _ => false) 30]
              simp [EvS, stI, enI, caI, s_push, s_iload, s_aload, s_istore, s_astore, s_iinc, s_bin, s_div, s_i2l, s_lcmp, s_dup, s_dup2, s_pop, s_tab, s_look, s_get, s_put, s_iald, s_lald, s_aald, s_iast, s_last, s_aast, s_len, s_newa, s_new, s_thr, s_min, s_copy, s_obj, s_call, s_iret, s_aret, s_vret, go, ldI, lget, lput, lv_args, wsum, va_rf, hnd, cvr, cat_i, cat_r, cat_l, oi_of, oi_add, oi_sub, oA_ap, oA_u2, pi_lt, pi_le, pi_eq, pi_eq0, pi_lt0, pi_le0, pi_gt0, pi_ge0, pi_cl, sb_lit, fv4, isB01, nlt0, EvU_0, wO_ne, wL_ne, wC_ne, wN_ne, pO_ne, pU_ne, CN, LN, -Prod.exists, pi_ti, Op.lookupswitch.offset, EvU_at d47_0, EvU_at d47_1, EvU_at d47_2, EvU_at d47_3, EvU_at d47_4, EvU_at d47_7, EvU_at d47_10, EvU_at d47_12, EvU_at d47_13, EvU_at d47_14, EvU_at d47_16, EvU_at d47_17, EvU_at d47_18, EvU_at d47_20, EvU_at d47_21, EvU_at d47_22, EvU_at d47_23, Z47, Z48, LyS hL, LyG hL, p, thrw]
            · have q := q_plug1 (A := A) (B := A) (gl := gl) (sl := (sl + 6)) (r := r) hA (hL.app (11, 0)) h hx hy
              simp only [if_neg (not_not_intro c1), if_neg (not_not_intro c2), if_neg (not_not_intro c3), if_neg (not_not_intro c4), if_pos c5] at q
              exact q
        · simp only [if_neg (not_not_intro c1), if_neg (not_not_intro c2), if_neg (not_not_intro c3), if_pos c4] at p
          refine good_fail hI (k := 3) (E := 1) (by omega) (fun r => ?_) (fun r => ?_)
          · rw [EvU_iff (fun _ => false) 30]
            simp [EvS, stI, enI, caI, s_push, s_iload, s_aload, s_istore, s_astore, s_iinc, s_bin, s_div, s_i2l, s_lcmp, s_dup, s_dup2, s_pop, s_tab, s_look, s_get, s_put, s_iald, s_lald, s_aald, s_iast, s_last, s_aast, s_len, s_newa, s_new, s_thr, s_min, s_copy, s_obj, s_call, s_iret, s_aret, s_vret, go, ldI, lget, lput, lv_args, wsum, va_rf, hnd, cvr, cat_i, cat_r, cat_l, oi_of, oi_add, oi_sub, oA_ap, oA_u2, pi_lt, pi_le, pi_eq, pi_eq0, pi_lt0, pi_le0, pi_gt0, pi_ge0, pi_cl, sb_lit, fv4, isB01, nlt0, EvU_0, wO_ne, wL_ne, wC_ne, wN_ne, pO_ne, pU_ne, CN, LN, -Prod.exists, pi_ti, Op.lookupswitch.offset, EvU_at d47_0, EvU_at d47_1, EvU_at d47_2, EvU_at d47_3, EvU_at d47_4, EvU_at d47_7, EvU_at d47_10, EvU_at d47_12, EvU_at d47_13, EvU_at d47_14, EvU_at d47_16, EvU_at d47_17, EvU_at d47_18, EvU_at d47_20, EvU_at d47_21, EvU_at d47_22, EvU_at d47_23, Z47, Z48, LyS hL, LyG hL, p, thrw]
          · have q := q_plug1 (A := A) (B := A) (gl := gl) (sl := (sl + 6)) (r := r) hA (hL.app (11, 0)) h hx hy
            simp only [if_neg (not_not_intro c1), if_neg (not_not_intro c2), if_neg (not_not_intro c3), if_pos c4] at q
            exact q
      · simp only [if_neg (not_not_intro c1), if_neg (not_not_intro c2), if_pos c3] at p
        refine good_fail hI (k := 2) (E := 0) (by omega) (fun r => ?_) (fun r => ?_)
        · rw [EvU_iff (fun _ => false) 30]
          simp [EvS, stI, enI, caI, s_push, s_iload, s_aload, s_istore, s_astore, s_iinc, s_bin, s_div, s_i2l, s_lcmp, s_dup, s_dup2, s_pop, s_tab, s_look, s_get, s_put, s_iald, s_lald, s_aald, s_iast, s_last, s_aast, s_len, s_newa, s_new, s_thr, s_min, s_copy, s_obj, s_call, s_iret, s_aret, s_vret, go, ldI, lget, lput, lv_args, wsum, va_rf, hnd, cvr, cat_i, cat_r, cat_l, oi_of, oi_add, oi_sub, oA_ap, oA_u2, pi_lt, pi_le, pi_eq, pi_eq0, pi_lt0, pi_le0, pi_gt0, pi_ge0, pi_cl, sb_lit, fv4, isB01, nlt0, EvU_0, wO_ne, wL_ne, wC_ne, wN_ne, pO_ne, pU_ne, CN, LN, -Prod.exists, pi_ti, Op.lookupswitch.offset, EvU_at d47_0, EvU_at d47_1, EvU_at d47_2, EvU_at d47_3, EvU_at d47_4, EvU_at d47_7, EvU_at d47_10, EvU_at d47_12, EvU_at d47_13, EvU_at d47_14, EvU_at d47_16, EvU_at d47_17, EvU_at d47_18, EvU_at d47_20, EvU_at d47_21, EvU_at d47_22, EvU_at d47_23, Z47, Z48, LyS hL, LyG hL, p, thrw]
        · have q := q_plug1 (A := A) (B := A) (gl := gl) (sl := (sl + 6)) (r := r) hA (hL.app (10, 0)) h hx hy
          simp only [if_neg (not_not_intro c1), if_neg (not_not_intro c2), if_pos c3] at q
          exact q
    · simp only [if_neg (not_not_intro c1), if_pos c2] at p
      refine good_fail hI (k := 1) (E := 2) (by omega) (fun r => ?_) (fun r => ?_)
      · rw [EvU_iff (fun _ => false) 30]
        simp [EvS, stI, enI, caI, s_push, s_iload, s_aload, s_istore, s_astore, s_iinc, s_bin, s_div, s_i2l, s_lcmp, s_dup, s_dup2, s_pop, s_tab, s_look, s_get, s_put, s_iald, s_lald, s_aald, s_iast, s_last, s_aast, s_len, s_newa, s_new, s_thr, s_min, s_copy, s_obj, s_call, s_iret, s_aret, s_vret, go, ldI, lget, lput, lv_args, wsum, va_rf, hnd, cvr, cat_i, cat_r, cat_l, oi_of, oi_add, oi_sub, oA_ap, oA_u2, pi_lt, pi_le, pi_eq, pi_eq0, pi_lt0, pi_le0, pi_gt0, pi_ge0, pi_cl, sb_lit, fv4, isB01, nlt0, EvU_0, wO_ne, wL_ne, wC_ne, wN_ne, pO_ne, pU_ne, CN, LN, -Prod.exists, pi_ti, Op.lookupswitch.offset, EvU_at d47_0, EvU_at d47_1, EvU_at d47_2, EvU_at d47_3, EvU_at d47_4, EvU_at d47_7, EvU_at d47_10, EvU_at d47_12, EvU_at d47_13, EvU_at d47_14, EvU_at d47_16, EvU_at d47_17, EvU_at d47_18, EvU_at d47_20, EvU_at d47_21, EvU_at d47_22, EvU_at d47_23, Z47, Z48, LyS hL, LyG hL, p, thrw]
      · have q := q_plug1 (A := A) (B := A) (gl := gl) (sl := (sl + 6)) (r := r) hA (hL.app (12, 0)) h hx hy
        simp only [if_neg (not_not_intro c1), if_pos c2] at q
        exact q
  · simp only [if_pos c1] at p
    refine good_fail hI (k := 1) (E := 2) (by omega) (fun r => ?_) (fun r => ?_)
    · rw [EvU_iff (fun _ => false) 30]
      simp [EvS, stI, enI, caI, s_push, s_iload, s_aload, s_istore, s_astore, s_iinc, s_bin, s_div, s_i2l, s_lcmp, s_dup, s_dup2, s_pop, s_tab, s_look, s_get, s_put, s_iald, s_lald, s_aald, s_iast, s_last, s_aast, s_len, s_newa, s_new, s_thr, s_min, s_copy, s_obj, s_call, s_iret, s_aret, s_vret, go, ldI, lget, lput, lv_args, wsum, va_rf, hnd, cvr, cat_i, cat_r, cat_l, oi_of, oi_add, oi_sub, oA_ap, oA_u2, pi_lt, pi_le, pi_eq, pi_eq0, pi_lt0, pi_le0, pi_gt0, pi_ge0, pi_cl, sb_lit, fv4, isB01, nlt0, EvU_0, wO_ne, wL_ne, wC_ne, wN_ne, pO_ne, pU_ne, CN, LN, -Prod.exists, pi_ti, Op.lookupswitch.offset, EvU_at d47_0, EvU_at d47_1, EvU_at d47_2, EvU_at d47_3, EvU_at d47_4, EvU_at d47_7, EvU_at d47_10, EvU_at d47_12, EvU_at d47_13, EvU_at d47_14, EvU_at d47_16, EvU_at d47_17, EvU_at d47_18, EvU_at d47_20, EvU_at d47_21, EvU_at d47_22, EvU_at d47_23, Z47, Z48, LyS hL, LyG hL, p, thrw]
    · have q := q_plug1 (A := A) (B := A) (gl := gl) (sl := (sl + 6)) (r := r) hA (hL.app (12, 0)) h hx hy
      simp only [if_pos c1] at q
      exact q
set_option maxRecDepth 20000 in
theorem o_unplug1 (hI : Iv L sh A gr sl n) (hn : n < 600) {x : Int} (hx : sb x) : Good L 52 [(0, .ref 1), (1, .int (oi 1)), (2, .int (oi x)), (3, .ref 216)] 126 [(0, .ref 199), (1, .int (oi 1)), (2, .int (oi x))] false False sh A gl gr sl n := by
  have hI2 := hI
  obtain ⟨hC, hS⟩ := hI.c hn
  obtain ⟨hA, hL, h, hC2, hS2, h0⟩ := hI2
  have hm := h.O.m
  have p := fun (r : Out) => p_unplug1 (gl := gl) (sl := sl) (r := r) hA hL hC hS h.O.ro h.O.m.2 hx
  by_cases c1 : 0 ≤ x ∧ x < (A 2 9)
  · by_cases c2 : A 74 2 = 0
    · simp only [if_neg (not_not_intro c1), if_neg (not_not_intro c2)] at p
      have pw := h.O.M.pr x.toNat (by omega)
      have cs := cntF_in A 12 (A 2 9).toNat
      have cq := h.O.M.cr
      by_cases c3 : A 12 x.toNat = x
      · simp only [if_pos c3] at p
        refine good_ok hI (A' := A) (A'' := u2 (u2 (u2 A 199 0 0) 204 (32 + x).toNat x) 204 (32 + A 12 x.toNat).toNat (A 12 x.toNat)) (gl' := u2 gl 216 0 (oi (-1)).toInt64) (v := -1) (fun r => ?_) (fun r => ?_) (fun _ => rfl) (fun e => e.elim) (Or.inl (g216 _ _)) ?_ ?_ ?_ ?_
        · rw [EvU_iff (fun _ => false) 30]
          simp [EvS, stI, enI, caI, s_push, s_iload, s_aload, s_istore, s_astore, s_iinc, s_bin, s_div, s_i2l, s_lcmp, s_dup, s_dup2, s_pop, s_tab, s_look, s_get, s_put, s_iald, s_lald, s_aald, s_iast, s_last, s_aast, s_len, s_newa, s_new, s_thr, s_min, s_copy, s_obj, s_call, s_iret, s_aret, s_vret, go, ldI, lget, lput, lv_args, wsum, va_rf, hnd, cvr, cat_i, cat_r, cat_l, oi_of, oi_add, oi_sub, oA_ap, oA_u2, pi_lt, pi_le, pi_eq, pi_eq0, pi_lt0, pi_le0, pi_gt0, pi_ge0, pi_cl, sb_lit, fv4, isB01, nlt0, EvU_0, wO_ne, wL_ne, wC_ne, wN_ne, pO_ne, pU_ne, CN, LN, -Prod.exists, pi_ti, Op.lookupswitch.offset, EvU_at d52_0, EvU_at d52_1, EvU_at d52_2, EvU_at d52_3, EvU_at d52_4, EvU_at d52_5, EvU_at d52_8, EvU_at d52_9, EvU_at d52_10, EvU_at d52_13, EvU_at d52_15, EvU_at d52_16, EvU_at d52_17, EvU_at d52_19, EvU_at d52_20, EvU_at d52_21, EvU_at d52_22, Z52, Z53, LyS hL, LyG hL, p]
        · have q := q_unplug1 (A := A) (B := A) (gl := u2 gl 216 0 (oi (-1)).toInt64) (sl := sl) (r := r) hA hL h hx
          rw [if_neg (not_not_intro c1), if_neg (not_not_intro c2), if_pos c3] at q
          exact q
        · exact sb_u2 (sb_u2 (sb_u2 hA (show sb 0 from ⟨by decide, by decide⟩) _ _) hx _ _) (hA _ _) _ _
        · rw [uk_ne (by omega), uk_ne (by omega), ue_eq]
        · have := rl_unplugN1 h (a := x.toNat) (by omega) (by rw [c3]; omega)
          rw [show ((x.toNat : Nat) : Int) = x by omega, show 32 + x.toNat = (32 + x).toNat by omega] at this
          rw [c3]
          exact this
        · exact fun a b ha => by rw [uk_ne (by omega), uk_ne (by omega), uk_ne (by omega)]
      · simp only [if_neg c3] at p
        have hA1 := sb_u2 (sb_u2 (sb_u2 hA hx 12 x.toNat) (hA 12 x.toNat) 12 (A 12 x.toNat).toNat) (show sb (A 11 1 - 1) from ⟨by omega, by omega⟩) 11 1
        have h1 : RL (u2 (u2 (u2 A 12 x.toNat x) 12 (A 12 x.toNat).toNat (A 12 x.toNat)) 11 1 (A 11 1 - 1)) A := h.cg (fun a b g1 g2 g3 => by rw [uk_ne (by omega), uk_ne (by omega), uk_ne (by omega)])
        refine good_ok hI (A' := u2 (u2 (u2 A 12 x.toNat x) 12 (A 12 x.toNat).toNat (A 12 x.toNat)) 11 1 (A 11 1 - 1)) (A'' := u2 (u2 (u2 (u2 (u2 (u2 A 12 x.toNat x) 12 (A 12 x.toNat).toNat (A 12 x.toNat)) 11 1 (A 11 1 - 1)) 199 0 0) 204 (32 + x).toNat x) 204 (32 + A 12 x.toNat).toNat (A 12 x.toNat)) (gl' := u2 gl 216 0 (oi (A 12 x.toNat)).toInt64) (v := A 12 x.toNat) (fun r => ?_) (fun r => ?_) (fun j => by rw [uk_ne (by omega), uk_ne (by omega), uk_ne (by omega)]) (fun e => e.elim) (Or.inl (g216 _ _)) ?_ ?_ ?_ ?_
        · rw [EvU_iff (fun _ => false) 30]
          simp [EvS, stI, enI, caI, s_push, s_iload, s_aload, s_istore, s_astore, s_iinc, s_bin, s_div, s_i2l, s_lcmp, s_dup, s_dup2, s_pop, s_tab, s_look, s_get, s_put, s_iald, s_lald, s_aald, s_iast, s_last, s_aast, s_len, s_newa, s_new, s_thr, s_min, s_copy, s_obj, s_call, s_iret, s_aret, s_vret, go, ldI, lget, lput, lv_args, wsum, va_rf, hnd, cvr, cat_i, cat_r, cat_l, oi_of, oi_add, oi_sub, oA_ap, oA_u2, pi_lt, pi_le, pi_eq, pi_eq0, pi_lt0, pi_le0, pi_gt0, pi_ge0, pi_cl, sb_lit, fv4, isB01, nlt0, EvU_0, wO_ne, wL_ne, wC_ne, wN_ne, pO_ne, pU_ne, CN, LN, -Prod.exists, pi_ti, Op.lookupswitch.offset, EvU_at d52_0, EvU_at d52_1, EvU_at d52_2, EvU_at d52_3, EvU_at d52_4, EvU_at d52_5, EvU_at d52_8, EvU_at d52_9, EvU_at d52_10, EvU_at d52_13, EvU_at d52_15, EvU_at d52_16, EvU_at d52_17, EvU_at d52_19, EvU_at d52_20, EvU_at d52_21, EvU_at d52_22, Z52, Z53, LyS hL, LyG hL, p]
        · have q := q_unplug1 (B := A) (gl := u2 gl 216 0 (oi (A 12 x.toNat)).toInt64) (sl := sl) (r := r) hA1 hL h1 hx
          rw [if_neg (not_not_intro c1), if_neg (not_not_intro c2), if_neg c3] at q
          exact q
        · exact sb_u2 (sb_u2 (sb_u2 hA1 (show sb 0 from ⟨by decide, by decide⟩) _ _) hx _ _) (hA _ _) _ _
        · rw [uk_ne (by omega), uk_ne (by omega), ue_eq]
        · have := rl_unplug1 h1 (a := x.toNat) (d := (A 12 x.toNat).toNat) (by omega) (by omega) (by omega)
          rw [show ((x.toNat : Nat) : Int) = x by omega, show (((A 12 x.toNat).toNat : Nat) : Int) = A 12 x.toNat by omega, show 32 + x.toNat = (32 + x).toNat by omega, show 32 + (A 12 x.toNat).toNat = (32 + A 12 x.toNat).toNat by omega] at this
          exact this
        · exact fun a b ha => by rw [uk_ne (by omega), uk_ne (by omega), uk_ne (by omega)]
    · simp only [if_neg (not_not_intro c1), if_pos c2] at p
      refine good_fail hI (k := 2) (E := 1) (by omega) (fun r => ?_) (fun r => ?_)
      · rw [EvU_iff (fun _ => false) 30]
        simp [EvS, stI, enI, caI, s_push, s_iload, s_aload, s_istore, s_astore, s_iinc, s_bin, s_div, s_i2l, s_lcmp, s_dup, s_dup2, s_pop, s_tab, s_look, s_get, s_put, s_iald, s_lald, s_aald, s_iast, s_last, s_aast, s_len, s_newa, s_new, s_thr, s_min, s_copy, s_obj, s_call, s_iret, s_aret, s_vret, go, ldI, lget, lput, lv_args, wsum, va_rf, hnd, cvr, cat_i, cat_r, cat_l, oi_of, oi_add, oi_sub, oA_ap, oA_u2, pi_lt, pi_le, pi_eq, pi_eq0, pi_lt0, pi_le0, pi_gt0, pi_ge0, pi_cl, sb_lit, fv4, isB01, nlt0, EvU_0, wO_ne, wL_ne, wC_ne, wN_ne, pO_ne, pU_ne, CN, LN, -Prod.exists, pi_ti, Op.lookupswitch.offset, EvU_at d52_0, EvU_at d52_1, EvU_at d52_2, EvU_at d52_3, EvU_at d52_4, EvU_at d52_5, EvU_at d52_8, EvU_at d52_9, EvU_at d52_10, EvU_at d52_13, EvU_at d52_15, EvU_at d52_16, EvU_at d52_17, EvU_at d52_19, EvU_at d52_20, EvU_at d52_21, EvU_at d52_22, Z52, Z53, LyS hL, LyG hL, p, thrw]
      · have q := q_unplug1 (B := A) (gl := gl) (sl := sl + 6) (r := r) hA (hL.app (11, 0)) h hx
        rw [if_neg (not_not_intro c1), if_pos c2] at q
        exact q
  · simp only [if_pos c1] at p
    refine good_fail hI (k := 1) (E := 2) (by omega) (fun r => ?_) (fun r => ?_)
    · rw [EvU_iff (fun _ => false) 30]
      simp [EvS, stI, enI, caI, s_push, s_iload, s_aload, s_istore, s_astore, s_iinc, s_bin, s_div, s_i2l, s_lcmp, s_dup, s_dup2, s_pop, s_tab, s_look, s_get, s_put, s_iald, s_lald, s_aald, s_iast, s_last, s_aast, s_len, s_newa, s_new, s_thr, s_min, s_copy, s_obj, s_call, s_iret, s_aret, s_vret, go, ldI, lget, lput, lv_args, wsum, va_rf, hnd, cvr, cat_i, cat_r, cat_l, oi_of, oi_add, oi_sub, oA_ap, oA_u2, pi_lt, pi_le, pi_eq, pi_eq0, pi_lt0, pi_le0, pi_gt0, pi_ge0, pi_cl, sb_lit, fv4, isB01, nlt0, EvU_0, wO_ne, wL_ne, wC_ne, wN_ne, pO_ne, pU_ne, CN, LN, -Prod.exists, pi_ti, Op.lookupswitch.offset, EvU_at d52_0, EvU_at d52_1, EvU_at d52_2, EvU_at d52_3, EvU_at d52_4, EvU_at d52_5, EvU_at d52_8, EvU_at d52_9, EvU_at d52_10, EvU_at d52_13, EvU_at d52_15, EvU_at d52_16, EvU_at d52_17, EvU_at d52_19, EvU_at d52_20, EvU_at d52_21, EvU_at d52_22, Z52, Z53, LyS hL, LyG hL, p, thrw]
    · have q := q_unplug1 (B := A) (gl := gl) (sl := sl + 6) (r := r) hA (hL.app (12, 0)) h hx
      rw [if_pos c1] at q
      exact q
set_option maxRecDepth 20000 in
theorem o_plugN (hI : Iv L sh A gr sl n) (hn : n < 600) {p x y : Int} (hp : sb p) (hx : sb x) (hy : sb y) (c1 : ¬ (0 ≤ p ∧ p < 2)) : Good L 47 [(0, .ref 1), (1, .int (oi p)), (2, .int (oi x)), (3, .int (oi y))] 124 [(0, .ref 199), (1, .int (oi p)), (2, .int (oi x)), (3, .int (oi y))] true False sh A gl gr sl n := by
  have hI2 := hI
  obtain ⟨hC, hS⟩ := hI.c hn
  obtain ⟨hA, hL, h, hC2, hS2, h0⟩ := hI2
  have p9 := fun (r : Out) => p_plugN (p := p) (x := x) (y := y) (gl := gl) (sl := sl) (r := r) hA hL hC hS hp c1
  refine good_fail hI (k := 1) (E := 2) (by omega) (fun r => ?_) (fun r => ?_)
  · rw [EvU_iff (fun _ => false) 30]
    simp [EvS, stI, enI, caI, s_push, s_iload, s_aload, s_istore, s_astore, s_iinc, s_bin, s_div, s_i2l, s_lcmp, s_dup, s_dup2, s_pop, s_tab, s_look, s_get, s_put, s_iald, s_lald, s_aald, s_iast, s_last, s_aast, s_len, s_newa, s_new, s_thr, s_min, s_copy, s_obj, s_call, s_iret, s_aret, s_vret, go, ldI, lget, lput, lv_args, wsum, va_rf, hnd, cvr, cat_i, cat_r, cat_l, oi_of, oi_add, oi_sub, oA_ap, oA_u2, pi_lt, pi_le, pi_eq, pi_eq0, pi_lt0, pi_le0, pi_gt0, pi_ge0, pi_cl, sb_lit, fv4, isB01, nlt0, EvU_0, wO_ne, wL_ne, wC_ne, wN_ne, pO_ne, pU_ne, CN, LN, -Prod.exists, pi_ti, Op.lookupswitch.offset, EvU_at d47_0, EvU_at d47_1, EvU_at d47_2, EvU_at d47_3, EvU_at d47_4, EvU_at d47_7, EvU_at d47_10, EvU_at d47_12, EvU_at d47_13, EvU_at d47_14, EvU_at d47_16, EvU_at d47_17, EvU_at d47_18, EvU_at d47_20, EvU_at d47_21, EvU_at d47_22, EvU_at d47_23, Z47, Z48, LyS hL, LyG hL, p9, thrw]
  · have q := q_plugN (B := A) (gl := gl) (sl := sl + 6) (r := r) hA (hL.app (12, 0)) h hp hx hy c1
    exact q
set_option maxRecDepth 20000 in
theorem o_unplugN (hI : Iv L sh A gr sl n) (hn : n < 600) {p x : Int} (hp : sb p) (hx : sb x) (c1 : ¬ (0 ≤ p ∧ p < 2)) : Good L 52 [(0, .ref 1), (1, .int (oi p)), (2, .int (oi x)), (3, .ref 216)] 126 [(0, .ref 199), (1, .int (oi p)), (2, .int (oi x))] false False sh A gl gr sl n := by
  have hI2 := hI
  obtain ⟨hC, hS⟩ := hI.c hn
  obtain ⟨hA, hL, h, hC2, hS2, h0⟩ := hI2
  have p9 := fun (r : Out) => p_unplugN (p := p) (x := x) (gl := gl) (sl := sl) (r := r) hA hL hC hS hp c1
  refine good_fail hI (k := 1) (E := 2) (by omega) (fun r => ?_) (fun r => ?_)
  · rw [EvU_iff (fun _ => false) 30]
    simp [EvS, stI, enI, caI, s_push, s_iload, s_aload, s_istore, s_astore, s_iinc, s_bin, s_div, s_i2l, s_lcmp, s_dup, s_dup2, s_pop, s_tab, s_look, s_get, s_put, s_iald, s_lald, s_aald, s_iast, s_last, s_aast, s_len, s_newa, s_new, s_thr, s_min, s_copy, s_obj, s_call, s_iret, s_aret, s_vret, go, ldI, lget, lput, lv_args, wsum, va_rf, hnd, cvr, cat_i, cat_r, cat_l, oi_of, oi_add, oi_sub, oA_ap, oA_u2, pi_lt, pi_le, pi_eq, pi_eq0, pi_lt0, pi_le0, pi_gt0, pi_ge0, pi_cl, sb_lit, fv4, isB01, nlt0, EvU_0, wO_ne, wL_ne, wC_ne, wN_ne, pO_ne, pU_ne, CN, LN, -Prod.exists, pi_ti, Op.lookupswitch.offset, EvU_at d52_0, EvU_at d52_1, EvU_at d52_2, EvU_at d52_3, EvU_at d52_4, EvU_at d52_5, EvU_at d52_8, EvU_at d52_9, EvU_at d52_10, EvU_at d52_13, EvU_at d52_15, EvU_at d52_16, EvU_at d52_17, EvU_at d52_19, EvU_at d52_20, EvU_at d52_21, EvU_at d52_22, Z52, Z53, LyS hL, LyG hL, p9, thrw]
  · have q := q_unplugN (B := A) (gl := gl) (sl := sl + 6) (r := r) hA (hL.app (12, 0)) h hp hx c1
    exact q
set_option maxRecDepth 20000 in
theorem o_setN (hI : Iv L sh A gr sl n) (hn : n < 600) {p k x : Int} (hp : sb p) (hk : sb k) (hx : sb x) (c1 : ¬ (p = 0 ∧ 0 ≤ k ∧ k < 6 ∨ p = 1 ∧ 0 ≤ k ∧ k < 12)) : Good L 67 [(0, .ref 1), (1, .int (oi p)), (2, .int (oi k)), (3, .int (oi x)), (4, .ref 216)] 134 [(0, .ref 199), (1, .int (oi p)), (2, .int (oi k)), (3, .int (oi x))] false False sh A gl gr sl n := by
  have hI2 := hI
  obtain ⟨hC, hS⟩ := hI.c hn
  obtain ⟨hA, hL, h, hC2, hS2, h0⟩ := hI2
  have p9 := fun (r : Out) => p_setN (p := p) (k := k) (x := x) (gl := gl) (sl := sl) (r := r) hA hL hC hS hp hk c1
  refine good_fail hI (k := 1) (E := 2) (by omega) (fun r => ?_) (fun r => ?_)
  · rw [EvU_iff (fun _ => false) 30]
    simp [EvS, stI, enI, caI, s_push, s_iload, s_aload, s_istore, s_astore, s_iinc, s_bin, s_div, s_i2l, s_lcmp, s_dup, s_dup2, s_pop, s_tab, s_look, s_get, s_put, s_iald, s_lald, s_aald, s_iast, s_last, s_aast, s_len, s_newa, s_new, s_thr, s_min, s_copy, s_obj, s_call, s_iret, s_aret, s_vret, go, ldI, lget, lput, lv_args, wsum, va_rf, hnd, cvr, cat_i, cat_r, cat_l, oi_of, oi_add, oi_sub, oA_ap, oA_u2, pi_lt, pi_le, pi_eq, pi_eq0, pi_lt0, pi_le0, pi_gt0, pi_ge0, pi_cl, sb_lit, fv4, isB01, nlt0, EvU_0, wO_ne, wL_ne, wC_ne, wN_ne, pO_ne, pU_ne, CN, LN, -Prod.exists, pi_ti, Op.lookupswitch.offset, EvU_at d67_0, EvU_at d67_2, EvU_at d67_3, EvU_at d67_4, EvU_at d67_5, EvU_at d67_6, EvU_at d67_7, EvU_at d67_10, EvU_at d67_11, EvU_at d67_12, EvU_at d67_15, EvU_at d67_17, EvU_at d67_18, EvU_at d67_19, EvU_at d67_21, EvU_at d67_22, EvU_at d67_23, EvU_at d67_24, Z67, Z68, LyS hL, LyG hL, p9, thrw]
  · have q := q_setN (B := A) (gl := gl) (sl := sl + 6) (r := r) hA (hL.app (12, 0)) h hp hk hx c1
    exact q
set_option maxRecDepth 20000 in
theorem o_atN (hI : Iv L sh A gr sl n) (hn : n < 600) {p k : Int} (hp : sb p) (hk : sb k) (c1 : ¬ (p = 0 ∧ 0 ≤ k ∧ k < 6 ∨ p = 1 ∧ 0 ≤ k ∧ k < 12)) : Good L 86 [(0, .ref 1), (1, .int (oi p)), (2, .int (oi k)), (3, .ref 216)] 152 [(0, .ref 199), (1, .int (oi p)), (2, .int (oi k))] false False sh A gl gr sl n := by
  have hI2 := hI
  obtain ⟨hC, hS⟩ := hI.c hn
  obtain ⟨hA, hL, h, hC2, hS2, h0⟩ := hI2
  have p9 := fun (r : Out) => p_atN (p := p) (k := k) (gl := gl) (sl := sl) (r := r) hA hL hC hS hp hk c1
  refine good_fail hI (k := 1) (E := 2) (by omega) (fun r => ?_) (fun r => ?_)
  · rw [EvU_iff (fun _ => false) 30]
    simp [EvS, stI, enI, caI, s_push, s_iload, s_aload, s_istore, s_astore, s_iinc, s_bin, s_div, s_i2l, s_lcmp, s_dup, s_dup2, s_pop, s_tab, s_look, s_get, s_put, s_iald, s_lald, s_aald, s_iast, s_last, s_aast, s_len, s_newa, s_new, s_thr, s_min, s_copy, s_obj, s_call, s_iret, s_aret, s_vret, go, ldI, lget, lput, lv_args, wsum, va_rf, hnd, cvr, cat_i, cat_r, cat_l, oi_of, oi_add, oi_sub, oA_ap, oA_u2, pi_lt, pi_le, pi_eq, pi_eq0, pi_lt0, pi_le0, pi_gt0, pi_ge0, pi_cl, sb_lit, fv4, isB01, nlt0, EvU_0, wO_ne, wL_ne, wC_ne, wN_ne, pO_ne, pU_ne, CN, LN, -Prod.exists, pi_ti, Op.lookupswitch.offset, EvU_at d86_0, EvU_at d86_1, EvU_at d86_2, EvU_at d86_3, EvU_at d86_4, EvU_at d86_5, EvU_at d86_8, EvU_at d86_9, EvU_at d86_10, EvU_at d86_13, EvU_at d86_15, EvU_at d86_16, EvU_at d86_17, EvU_at d86_18, Z86, Z87, LyS hL, LyG hL, p9, thrw]
  · have q := q_atN (B := A) (gl := gl) (sl := sl + 6) (r := r) hA (hL.app (12, 0)) h hp hk c1
    exact q
set_option maxRecDepth 20000 in
theorem o_fillN (hI : Iv L sh A gr sl n) (hn : n < 600) {p x : Int} (hp : sb p) (hx : sb x) (c1 : ¬ (0 ≤ p ∧ p < 6)) : Good L 42 [(0, .ref 1), (1, .int (oi p)), (2, .int (oi x)), (3, .ref 216)] 123 [(0, .ref 199), (1, .int (oi p)), (2, .int (oi x))] false False sh A gl gr sl n := by
  have hI2 := hI
  obtain ⟨hC, hS⟩ := hI.c hn
  obtain ⟨hA, hL, h, hC2, hS2, h0⟩ := hI2
  have p9 := fun (r : Out) => p_fillN (p := p) (x := x) (gl := gl) (sl := sl) (r := r) hA hL hC hS hp c1
  refine good_fail hI (k := 1) (E := 2) (by omega) (fun r => ?_) (fun r => ?_)
  · rw [EvU_iff (fun _ => false) 30]
    simp [EvS, stI, enI, caI, s_push, s_iload, s_aload, s_istore, s_astore, s_iinc, s_bin, s_div, s_i2l, s_lcmp, s_dup, s_dup2, s_pop, s_tab, s_look, s_get, s_put, s_iald, s_lald, s_aald, s_iast, s_last, s_aast, s_len, s_newa, s_new, s_thr, s_min, s_copy, s_obj, s_call, s_iret, s_aret, s_vret, go, ldI, lget, lput, lv_args, wsum, va_rf, hnd, cvr, cat_i, cat_r, cat_l, oi_of, oi_add, oi_sub, oA_ap, oA_u2, pi_lt, pi_le, pi_eq, pi_eq0, pi_lt0, pi_le0, pi_gt0, pi_ge0, pi_cl, sb_lit, fv4, isB01, nlt0, EvU_0, wO_ne, wL_ne, wC_ne, wN_ne, pO_ne, pU_ne, CN, LN, -Prod.exists, pi_ti, Op.lookupswitch.offset, EvU_at d42_0, EvU_at d42_1, EvU_at d42_2, EvU_at d42_3, EvU_at d42_4, EvU_at d42_5, EvU_at d42_8, EvU_at d42_9, EvU_at d42_10, EvU_at d42_13, EvU_at d42_15, EvU_at d42_16, EvU_at d42_17, EvU_at d42_19, EvU_at d42_20, EvU_at d42_21, EvU_at d42_22, Z42, Z43, LyS hL, LyG hL, p9, thrw]
  · have q := q_fill (B := A) (gl := gl) (sl := sl + 6) (r := r) hA (hL.app (12, 0)) h hp hx
    rw [if_pos c1] at q
    exact q
end
