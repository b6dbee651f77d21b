/-! the reference's calls -/
section
variable {sh : List (Nat × Nat)} {A B : Nat → Nat → Int} {gl : Nat → Nat → Int64} {gr : Nat → Nat → Option Nat} {sl : Nat} {r : Out}
set_option maxRecDepth 20000 in
theorem l_rop (hL : Lay sh gr) {i : Nat} (hi : i < 20) {st : Nat → Int} : ∀ (n k : Nat) (A : Nat → Nat → Int) (ls : Lc), k + n = 18 → A 199 18 = (i : Int) → (∀ j, A 208 j = st j) → nl ls = true → lget ls 0 = some (.ref 199) → lget ls 1 = some (.int (oi (k : Int))) →
    (Ev (159, 34, ls, [], (sh, oA A, gl, gr), sl) r ↔ r = (.inl (some (.int (oi (i : Int)))), (sh, oA (u2 (u2 (u2 (fillR A 213 (18 * i + k) (18 * i + 18) (fun j => st (j - 18 * i))) 212 i 0) 199 18 ((i : Int) + 1)) 199 19 1), gl, gr), sl)) := by
  have q0 : sb (i : Int) := ⟨by omega, by omega⟩
  have q1 : ¬ 20 ≤ i := by omega
  have q2 : (i : Int) + 1 - 1 = i := by omega
  intro n
  induction n with
  | zero =>
    intro k A ls hn hm hs g g0 g1
    obtain rfl : k = 18 := by omega
    rw [fillR_0]
    have e0 : sb ((18 : Nat) : Int) := ⟨by omega, by omega⟩
    have e1 : (18 : Int) ≤ ((18 : Nat) : Int) := by omega
    rw [EvU_iff (fun _ => false) 40]
    simp (maxDischargeDepth := 9) [EvS, stI, enI, caI, s_push, s_iload, s_aload, s_istore, s_astore, s_iinc, s_bin, s_div, s_i2l, s_lcmp, s_dup, s_dup2, s_pop, s_tab, s_look, s_get, s_put, s_iald, s_lald, s_aald, s_iast, s_last, s_aast, s_len, s_newa, s_new, s_thr, s_min, s_copy, s_obj, s_call, s_iret, s_aret, s_vret, go, ldI, lget_lput, nl_I, nl_R, lv_args, wsum, va_rf, hnd, cvr, cat_i, cat_r, cat_l, oi_of, oi_add, oi_sub, oA_ap, oA_u2, pi_lt, pi_le, pi_eq, pi_eq0, pi_lt0, pi_le0, pi_gt0, pi_ge0, pi_cl, sb_lit, fv4, isB01, nlt0, EvU_0, wO_ne, wL_ne, wC_ne, wN_ne, pO_ne, pU_ne, CN, LN, -Prod.exists, pi_ti, Op.lookupswitch.offset, EvU_at d159_0, EvU_at d159_1, EvU_at d159_2, EvU_at d159_5, EvU_at d159_8, EvU_at d159_9, EvU_at d159_12, EvU_at d159_14, EvU_at d159_17, EvU_at d159_18, EvU_at d159_21, EvU_at d159_22, EvU_at d159_23, EvU_at d159_24, EvU_at d159_27, EvU_at d159_30, EvU_at d159_31, EvU_at d159_32, EvU_at d159_33, EvU_at d159_34, EvU_at d159_35, EvU_at d159_37, EvU_at d159_40, EvU_at d159_41, EvU_at d159_44, EvU_at d159_46, EvU_at d159_47, EvU_at d159_50, EvU_at d159_51, EvU_at d159_52, EvU_at d159_53, EvU_at d159_54, EvU_at d159_57, EvU_at d159_58, EvU_at d159_59, EvU_at d159_60, EvU_at d159_63, EvU_at d159_66, EvU_at d159_67, EvU_at d159_70, EvU_at d159_71, EvU_at d159_74, EvU_at d159_75, EvU_at d159_76, EvU_at d159_77, EvU_at d159_78, EvU_at d159_81, EvU_at d159_82, EvU_at d159_83, EvU_at d159_86, EvU_at d159_87, EvU_at d159_88, EvU_at d159_91, EvU_at d159_92, EvU_at d159_95, EvU_at d159_96, EvU_at d159_97, Z159, LyS hL, LyG hL, g, g0, g1, e0, e1, hm, q0, q1, q2, ur]
  | succ n ih =>
    intro k A ls hn hm hs g g0 g1
    have e0 : sb (k : Int) := ⟨by omega, by omega⟩
    have e1 : ¬ (18 : Int) ≤ (k : Int) := by omega
    have e2 : ¬ 18 ≤ k := by omega
    have i0 : sb (18 * (i : Int) + (k : Int)) := ⟨by omega, by omega⟩
    have i1 : ¬ 18 * (i : Int) + (k : Int) < 0 := by omega
    have i2 : (18 * (i : Int) + (k : Int)).toNat = 18 * i + k := by omega
    have i3 : ¬ 360 ≤ 18 * i + k := by omega
    have e3 := hs k
    rw [EvU_iff (fun _ => false) 1]
    simp (maxDischargeDepth := 9) [EvS, stI, enI, caI, s_push, s_iload, s_aload, s_istore, s_astore, s_iinc, s_bin, s_div, s_i2l, s_lcmp, s_dup, s_dup2, s_pop, s_tab, s_look, s_get, s_put, s_iald, s_lald, s_aald, s_iast, s_last, s_aast, s_len, s_newa, s_new, s_thr, s_min, s_copy, s_obj, s_call, s_iret, s_aret, s_vret, go, ldI, lget_lput, nl_I, nl_R, lv_args, wsum, va_rf, hnd, cvr, cat_i, cat_r, cat_l, oi_of, oi_add, oi_sub, oA_ap, oA_u2, pi_lt, pi_le, pi_eq, pi_eq0, pi_lt0, pi_le0, pi_gt0, pi_ge0, pi_cl, sb_lit, fv4, isB01, nlt0, EvU_0, wO_ne, wL_ne, wC_ne, wN_ne, pO_ne, pU_ne, CN, LN, -Prod.exists, pi_ti, Op.lookupswitch.offset, EvU_at d159_0, EvU_at d159_1, EvU_at d159_2, EvU_at d159_5, EvU_at d159_8, EvU_at d159_9, EvU_at d159_12, EvU_at d159_14, EvU_at d159_17, EvU_at d159_18, EvU_at d159_21, EvU_at d159_22, EvU_at d159_23, EvU_at d159_24, EvU_at d159_27, EvU_at d159_30, EvU_at d159_31, EvU_at d159_32, EvU_at d159_33, EvU_at d159_34, EvU_at d159_35, EvU_at d159_37, EvU_at d159_40, EvU_at d159_41, EvU_at d159_44, EvU_at d159_46, EvU_at d159_47, EvU_at d159_50, EvU_at d159_51, EvU_at d159_52, EvU_at d159_53, EvU_at d159_54, EvU_at d159_57, EvU_at d159_58, EvU_at d159_59, EvU_at d159_60, EvU_at d159_63, EvU_at d159_66, EvU_at d159_67, EvU_at d159_70, EvU_at d159_71, EvU_at d159_74, EvU_at d159_75, EvU_at d159_76, EvU_at d159_77, EvU_at d159_78, EvU_at d159_81, EvU_at d159_82, EvU_at d159_83, EvU_at d159_86, EvU_at d159_87, EvU_at d159_88, EvU_at d159_91, EvU_at d159_92, EvU_at d159_95, EvU_at d159_96, EvU_at d159_97, Z159, LyS hL, LyG hL, g, g0, g1]
    rw [EvU_iff (fun p => p == 34) 60, ← fillR_s A (fun j => st (j - 18 * i)) (show 18 * i + k < 18 * i + 18 by omega)]
    simp (maxDischargeDepth := 9) [EvS, stI, enI, caI, s_push, s_iload, s_aload, s_istore, s_astore, s_iinc, s_bin, s_div, s_i2l, s_lcmp, s_dup, s_dup2, s_pop, s_tab, s_look, s_get, s_put, s_iald, s_lald, s_aald, s_iast, s_last, s_aast, s_len, s_newa, s_new, s_thr, s_min, s_copy, s_obj, s_call, s_iret, s_aret, s_vret, go, ldI, lget_lput, nl_I, nl_R, lv_args, wsum, va_rf, hnd, cvr, cat_i, cat_r, cat_l, oi_of, oi_add, oi_sub, oA_ap, oA_u2, pi_lt, pi_le, pi_eq, pi_eq0, pi_lt0, pi_le0, pi_gt0, pi_ge0, pi_cl, sb_lit, fv4, isB01, nlt0, EvU_0, wO_ne, wL_ne, wC_ne, wN_ne, pO_ne, pU_ne, CN, LN, -Prod.exists, pi_ti, Op.lookupswitch.offset, EvU_at d159_0, EvU_at d159_1, EvU_at d159_2, EvU_at d159_5, EvU_at d159_8, EvU_at d159_9, EvU_at d159_12, EvU_at d159_14, EvU_at d159_17, EvU_at d159_18, EvU_at d159_21, EvU_at d159_22, EvU_at d159_23, EvU_at d159_24, EvU_at d159_27, EvU_at d159_30, EvU_at d159_31, EvU_at d159_32, EvU_at d159_33, EvU_at d159_34, EvU_at d159_35, EvU_at d159_37, EvU_at d159_40, EvU_at d159_41, EvU_at d159_44, EvU_at d159_46, EvU_at d159_47, EvU_at d159_50, EvU_at d159_51, EvU_at d159_52, EvU_at d159_53, EvU_at d159_54, EvU_at d159_57, EvU_at d159_58, EvU_at d159_59, EvU_at d159_60, EvU_at d159_63, EvU_at d159_66, EvU_at d159_67, EvU_at d159_70, EvU_at d159_71, EvU_at d159_74, EvU_at d159_75, EvU_at d159_76, EvU_at d159_77, EvU_at d159_78, EvU_at d159_81, EvU_at d159_82, EvU_at d159_83, EvU_at d159_86, EvU_at d159_87, EvU_at d159_88, EvU_at d159_91, EvU_at d159_92, EvU_at d159_95, EvU_at d159_96, EvU_at d159_97, Z159, LyS hL, LyG hL, oi_mul, g, g0, g1, e0, e1, e2, e3, hm, q0, i0, i1, i2, i3]
    refine ih (k + 1) _ _ (by omega) ?_ ?_ ?_ ?_ ?_
    · rw [uk_ne (by omega)]
      exact hm
    · intro j
      rw [uk_ne (by omega)]
      exact hs j
    · simp (maxDischargeDepth := 9) [lget_lput, nl_I, nl_R, g]
    · simp (maxDischargeDepth := 9) [lget_lput, nl_I, nl_R, g, g0]
    · simp (maxDischargeDepth := 9) [lget_lput, nl_I, nl_R, g]
set_option maxRecDepth 20000 in
theorem q_open (hA : ∀ k j, sb (A k j)) (hL : Lay sh gr) (h : RL A B) {i : Nat} (hi : B 74 1 = (i : Int)) (hj : i ≤ 20) : Ev (159, 0, [(0, .ref 199)], [], (sh, oA A, gl, gr), sl) r ↔
    r = if ¬ (B 74 2 = 0) then (.inl (some (.int (oi 0))), (sh, oA (u2 A 199 0 1), gl, gr), sl) else if ¬ (i < 20) then (.inl (some (.int (oi 0))), (sh, oA (u2 A 199 0 1), gl, gr), sl) else (.inl (some (.int (oi (i : Int)))), (sh, oA (u2 (u2 (u2 (fillR (u2 A 199 0 0) 213 (18 * i + 0) (18 * i + 18) (fun j => A 208 (j - 18 * i))) 212 i 0) 199 18 ((i : Int) + 1)) 199 19 1), gl, gr), sl) := by
  have xm := h.R.m
  have xo := h.G.op
  have xo2 : sb (B 74 2) := xo ▸ hA _ _
  have hm := h.O.m
  have xs := h.G.ms
  rw [hi] at xs
  by_cases co : B 74 2 = 0
  · by_cases c2 : i < 20
    · have k1 : ¬ (20 : Int) ≤ (i : Int) := by omega
      have k2 : ¬ 20 ≤ i := by omega
      have k3 : sb (i : Int) := ⟨by omega, by omega⟩
      have key := fun ls => l_rop (A := u2 A 199 0 0) (gl := gl) (sl := sl) (r := r) hL c2 (st := fun j => A 208 j) 18 0 ls rfl (by rw [uj_ne (by omega)]; exact xs) (fun j => uk_ne (by omega) _ _ _)
      rw [if_neg (fun e => e co), if_neg (fun e => e c2), EvU_iff (fun p => p == 34) 60]
      simp [EvS, stI, enI, caI, s_push, s_iload, s_aload, s_istore, s_astore, s_iinc, s_bin, s_div, s_i2l, s_lcmp, s_dup, s_dup2, s_pop, s_tab, s_look, s_get, s_put, s_iald, s_lald, s_aald, s_iast, s_last, s_aast, s_len, s_newa, s_new, s_thr, s_min, s_copy, s_obj, s_call, s_iret, s_aret, s_vret, go, ldI, lget, lput, lv_args, wsum, va_rf, hnd, cvr, cat_i, cat_r, cat_l, oi_of, oi_add, oi_sub, oA_ap, oA_u2, pi_lt, pi_le, pi_eq, pi_eq0, pi_lt0, pi_le0, pi_gt0, pi_ge0, pi_cl, sb_lit, fv4, isB01, nlt0, EvU_0, wO_ne, wL_ne, wC_ne, wN_ne, pO_ne, pU_ne, CN, LN, -Prod.exists, pi_ti, Op.lookupswitch.offset, EvU_at d159_0, EvU_at d159_1, EvU_at d159_2, EvU_at d159_5, EvU_at d159_8, EvU_at d159_9, EvU_at d159_12, EvU_at d159_14, EvU_at d159_17, EvU_at d159_18, EvU_at d159_21, EvU_at d159_22, EvU_at d159_23, EvU_at d159_24, EvU_at d159_27, EvU_at d159_30, EvU_at d159_31, EvU_at d159_32, EvU_at d159_33, EvU_at d159_34, EvU_at d159_35, EvU_at d159_37, EvU_at d159_40, EvU_at d159_41, EvU_at d159_44, EvU_at d159_46, EvU_at d159_47, EvU_at d159_50, EvU_at d159_51, EvU_at d159_52, EvU_at d159_53, EvU_at d159_54, EvU_at d159_57, EvU_at d159_58, EvU_at d159_59, EvU_at d159_60, EvU_at d159_63, EvU_at d159_66, EvU_at d159_67, EvU_at d159_70, EvU_at d159_71, EvU_at d159_74, EvU_at d159_75, EvU_at d159_76, EvU_at d159_77, EvU_at d159_78, EvU_at d159_81, EvU_at d159_82, EvU_at d159_83, EvU_at d159_86, EvU_at d159_87, EvU_at d159_88, EvU_at d159_91, EvU_at d159_92, EvU_at d159_95, EvU_at d159_96, EvU_at d159_97, Z159, Z117, LyS hL, LyG hL, hA, xm, xo, xo2, r_go hL, co, xs, k1, k2, k3]
      refine key _ ?_ ?_ ?_
      · simp [nl, cat_i, cat_r]
      · simp [lget, cat_i, cat_r]
      · simp [lget, cat_i, cat_r]
    · have k1 : (20 : Int) ≤ (i : Int) := by omega
      have k2 : 20 ≤ i := by omega
      have k3 : sb (i : Int) := ⟨by omega, by omega⟩
      rw [if_neg (fun e => e co), if_pos c2, EvU_iff (fun _ => false) 60]
      simp [EvS, stI, enI, caI, s_push, s_iload, s_aload, s_istore, s_astore, s_iinc, s_bin, s_div, s_i2l, s_lcmp, s_dup, s_dup2, s_pop, s_tab, s_look, s_get, s_put, s_iald, s_lald, s_aald, s_iast, s_last, s_aast, s_len, s_newa, s_new, s_thr, s_min, s_copy, s_obj, s_call, s_iret, s_aret, s_vret, go, ldI, lget, lput, lv_args, wsum, va_rf, hnd, cvr, cat_i, cat_r, cat_l, oi_of, oi_add, oi_sub, oA_ap, oA_u2, pi_lt, pi_le, pi_eq, pi_eq0, pi_lt0, pi_le0, pi_gt0, pi_ge0, pi_cl, sb_lit, fv4, isB01, nlt0, EvU_0, wO_ne, wL_ne, wC_ne, wN_ne, pO_ne, pU_ne, CN, LN, -Prod.exists, pi_ti, Op.lookupswitch.offset, EvU_at d159_0, EvU_at d159_1, EvU_at d159_2, EvU_at d159_5, EvU_at d159_8, EvU_at d159_9, EvU_at d159_12, EvU_at d159_14, EvU_at d159_17, EvU_at d159_18, EvU_at d159_21, EvU_at d159_22, EvU_at d159_23, EvU_at d159_24, EvU_at d159_27, EvU_at d159_30, EvU_at d159_31, EvU_at d159_32, EvU_at d159_33, EvU_at d159_34, EvU_at d159_35, EvU_at d159_37, EvU_at d159_40, EvU_at d159_41, EvU_at d159_44, EvU_at d159_46, EvU_at d159_47, EvU_at d159_50, EvU_at d159_51, EvU_at d159_52, EvU_at d159_53, EvU_at d159_54, EvU_at d159_57, EvU_at d159_58, EvU_at d159_59, EvU_at d159_60, EvU_at d159_63, EvU_at d159_66, EvU_at d159_67, EvU_at d159_70, EvU_at d159_71, EvU_at d159_74, EvU_at d159_75, EvU_at d159_76, EvU_at d159_77, EvU_at d159_78, EvU_at d159_81, EvU_at d159_82, EvU_at d159_83, EvU_at d159_86, EvU_at d159_87, EvU_at d159_88, EvU_at d159_91, EvU_at d159_92, EvU_at d159_95, EvU_at d159_96, EvU_at d159_97, Z159, Z117, LyS hL, LyG hL, hA, xm, xo, xo2, r_go hL, co, xs, k1, k2, k3]
  · rw [if_pos co, EvU_iff (fun _ => false) 60]
    simp [EvS, stI, enI, caI, s_push, s_iload, s_aload, s_istore, s_astore, s_iinc, s_bin, s_div, s_i2l, s_lcmp, s_dup, s_dup2, s_pop, s_tab, s_look, s_get, s_put, s_iald, s_lald, s_aald, s_iast, s_last, s_aast, s_len, s_newa, s_new, s_thr, s_min, s_copy, s_obj, s_call, s_iret, s_aret, s_vret, go, ldI, lget, lput, lv_args, wsum, va_rf, hnd, cvr, cat_i, cat_r, cat_l, oi_of, oi_add, oi_sub, oA_ap, oA_u2, pi_lt, pi_le, pi_eq, pi_eq0, pi_lt0, pi_le0, pi_gt0, pi_ge0, pi_cl, sb_lit, fv4, isB01, nlt0, EvU_0, wO_ne, wL_ne, wC_ne, wN_ne, pO_ne, pU_ne, CN, LN, -Prod.exists, pi_ti, Op.lookupswitch.offset, EvU_at d159_0, EvU_at d159_1, EvU_at d159_2, EvU_at d159_5, EvU_at d159_8, EvU_at d159_9, EvU_at d159_12, EvU_at d159_14, EvU_at d159_17, EvU_at d159_18, EvU_at d159_21, EvU_at d159_22, EvU_at d159_23, EvU_at d159_24, EvU_at d159_27, EvU_at d159_30, EvU_at d159_31, EvU_at d159_32, EvU_at d159_33, EvU_at d159_34, EvU_at d159_35, EvU_at d159_37, EvU_at d159_40, EvU_at d159_41, EvU_at d159_44, EvU_at d159_46, EvU_at d159_47, EvU_at d159_50, EvU_at d159_51, EvU_at d159_52, EvU_at d159_53, EvU_at d159_54, EvU_at d159_57, EvU_at d159_58, EvU_at d159_59, EvU_at d159_60, EvU_at d159_63, EvU_at d159_66, EvU_at d159_67, EvU_at d159_70, EvU_at d159_71, EvU_at d159_74, EvU_at d159_75, EvU_at d159_76, EvU_at d159_77, EvU_at d159_78, EvU_at d159_81, EvU_at d159_82, EvU_at d159_83, EvU_at d159_86, EvU_at d159_87, EvU_at d159_88, EvU_at d159_91, EvU_at d159_92, EvU_at d159_95, EvU_at d159_96, EvU_at d159_97, Z159, Z117, LyS hL, LyG hL, hA, xm, xo, xo2, r_go hL, co, xs]
set_option maxRecDepth 20000 in
theorem q_close (hA : ∀ k j, sb (A k j)) (hL : Lay sh gr) (h : RL A B) {i : Nat} (hi : B 74 2 ≠ 0 → i < 20 ∧ B 74 1 = (i : Int) + 1) : Ev (160, 0, [(0, .ref 199)], [], (sh, oA A, gl, gr), sl) r ↔
    r = if ¬ (B 74 2 ≠ 0) then (.inl (some (.int (oi 0))), (sh, oA (u2 A 199 0 1), gl, gr), sl) else (.inl (some (.int (oi (B (gO i) 3)))), (sh, oA (u2 (u2 A 199 0 0) 199 19 0), gl, gr), sl) := by
  have xm := h.R.m
  have xo := h.G.op
  have xo2 : sb (B 74 2) := xo ▸ hA _ _
  have hm := h.O.m
  have xs := h.G.ms
  rw [EvU_iff (fun _ => false) 60]
  rcases h.O.G.op with co | co
  · rw [if_pos (fun e => e co)]
    simp [EvS, stI, enI, caI, s_push, s_iload, s_aload, s_istore, s_astore, s_iinc, s_bin, s_div, s_i2l, s_lcmp, s_dup, s_dup2, s_pop, s_tab, s_look, s_get, s_put, s_iald, s_lald, s_aald, s_iast, s_last, s_aast, s_len, s_newa, s_new, s_thr, s_min, s_copy, s_obj, s_call, s_iret, s_aret, s_vret, go, ldI, lget, lput, lv_args, wsum, va_rf, hnd, cvr, cat_i, cat_r, cat_l, oi_of, oi_add, oi_sub, oA_ap, oA_u2, pi_lt, pi_le, pi_eq, pi_eq0, pi_lt0, pi_le0, pi_gt0, pi_ge0, pi_cl, sb_lit, fv4, isB01, nlt0, EvU_0, wO_ne, wL_ne, wC_ne, wN_ne, pO_ne, pU_ne, CN, LN, -Prod.exists, pi_ti, Op.lookupswitch.offset, EvU_at d160_0, EvU_at d160_1, EvU_at d160_2, EvU_at d160_5, EvU_at d160_6, EvU_at d160_7, EvU_at d160_10, EvU_at d160_13, EvU_at d160_14, EvU_at d160_15, EvU_at d160_16, EvU_at d160_17, EvU_at d160_20, EvU_at d160_21, EvU_at d160_24, EvU_at d160_25, EvU_at d160_28, EvU_at d160_29, EvU_at d160_30, EvU_at d160_31, Z160, Z117, LyS hL, LyG hL, hA, xm, xo, xo2, r_go hL, co]
  · have c1 : B 74 2 ≠ 0 := by omega
    obtain ⟨h1, h2⟩ := hi c1
    rw [if_neg (fun e => e c1)]
    have x1 := h.G.sg i (by omega)
    have k2 : ¬ 20 ≤ i := by omega
    have k3 : sb (i : Int) := ⟨by omega, by omega⟩
    have k4 : (i : Int) + 1 - 1 = i := by omega
    rw [h2] at xs
    simp [EvS, stI, enI, caI, s_push, s_iload, s_aload, s_istore, s_astore, s_iinc, s_bin, s_div, s_i2l, s_lcmp, s_dup, s_dup2, s_pop, s_tab, s_look, s_get, s_put, s_iald, s_lald, s_aald, s_iast, s_last, s_aast, s_len, s_newa, s_new, s_thr, s_min, s_copy, s_obj, s_call, s_iret, s_aret, s_vret, go, ldI, lget, lput, lv_args, wsum, va_rf, hnd, cvr, cat_i, cat_r, cat_l, oi_of, oi_add, oi_sub, oA_ap, oA_u2, pi_lt, pi_le, pi_eq, pi_eq0, pi_lt0, pi_le0, pi_gt0, pi_ge0, pi_cl, sb_lit, fv4, isB01, nlt0, EvU_0, wO_ne, wL_ne, wC_ne, wN_ne, pO_ne, pU_ne, CN, LN, -Prod.exists, pi_ti, Op.lookupswitch.offset, EvU_at d160_0, EvU_at d160_1, EvU_at d160_2, EvU_at d160_5, EvU_at d160_6, EvU_at d160_7, EvU_at d160_10, EvU_at d160_13, EvU_at d160_14, EvU_at d160_15, EvU_at d160_16, EvU_at d160_17, EvU_at d160_20, EvU_at d160_21, EvU_at d160_24, EvU_at d160_25, EvU_at d160_28, EvU_at d160_29, EvU_at d160_30, EvU_at d160_31, Z160, Z117, LyS hL, LyG hL, hA, xm, xo, xo2, r_go hL, co, xs, x1, k2, k3, k4, ur]
set_option maxRecDepth 20000 in
theorem q_logged (hA : ∀ k j, sb (A k j)) (hL : Lay sh gr) (h : RL A B) {n k y : Int} (hn : sb n) (hk : sb k) (hy : sb y) : Ev (161, 0, [(0, .ref 199), (1, .int (oi n)), (2, .int (oi k)), (3, .int (oi y))], [], (sh, oA A, gl, gr), sl) r ↔
    r = if ¬ (0 ≤ n ∧ n < B 74 1) then (.inl (some (.int (oi 0))), (sh, oA (u2 A 199 0 1), gl, gr), sl) else if ¬ (0 ≤ k ∧ k < B (gO n.toNat) 3) then (.inl (some (.int (oi 0))), (sh, oA (u2 A 199 0 1), gl, gr), sl) else if ¬ (y = 0 ∨ y = 1) then (.inl (some (.int (oi 0))), (sh, oA (u2 A 199 0 2), gl, gr), sl) else (.inl (some (.int (oi (if y = 0 then B (gK n.toNat) k.toNat else B (gC n.toNat) k.toNat)))), (sh, oA (u2 A 199 0 0), gl, gr), sl) := by
  have xm := h.R.m
  have xo := h.G.op
  have xo2 : sb (B 74 2) := xo ▸ hA _ _
  have hm := h.O.m
  have xs := h.G.ms
  have o1 := h.O.G.ms
  have n1 := fun (sl : Nat) (r : Out) => r_message (gl := gl) (sl := sl) (r := r) hA hL hn
  rw [xs] at n1
  have n2 := r_within hy (show sb 0 from ⟨by decide, by decide⟩) (show sb 1 from ⟨by decide, by decide⟩)
  rw [EvU_iff (fun _ => false) 60]
  by_cases c1 : 0 ≤ n ∧ n < B 74 1
  · rw [show b1 (0 ≤ n ∧ n < B 74 1) = 1 from if_pos c1] at n1
    rw [if_neg (fun e => e c1)]
    have x1 := h.G.sg n.toNat (by omega)
    have o2 := h.O.G.sg n.toNat (by omega)
    have w0 : ¬ n < 0 := by omega
    have w1 : ¬ 20 ≤ n.toNat := by omega
    have w4 : sb (B (gO n.toNat) 3) := ⟨by omega, by omega⟩
    by_cases c2 : 0 ≤ k ∧ k < B (gO n.toNat) 3
    · rw [if_neg (fun e => e c2)]
      have w2 : ¬ k < 0 := by omega
      have w3 : ¬ B (gO n.toNat) 3 ≤ k := by omega
      by_cases c3 : y = 0 ∨ y = 1
      · rw [show b1 (0 ≤ y ∧ y ≤ 1) = 1 from if_pos (by omega)] at n2
        rw [if_neg (fun e => e c3)]
        have x2 := h.G.ky n.toNat (by omega) k.toNat (by omega)
        have i0 : sb (60 * n + k) := ⟨by omega, by omega⟩
        have i1 : ¬ 60 * n + k < 0 := by omega
        have i2 : (60 * n + k).toNat = 60 * n.toNat + k.toNat := by omega
        have i3 : ¬ 1200 ≤ 60 * n.toNat + k.toNat := by omega
        rcases c3 with c9 | c9
        · subst c9
          simp [EvS, stI, enI, caI, s_push, s_iload, s_aload, s_istore, s_astore, s_iinc, s_bin, s_div, s_i2l, s_lcmp, s_dup, s_dup2, s_pop, s_tab, s_look, s_get, s_put, s_iald, s_lald, s_aald, s_iast, s_last, s_aast, s_len, s_newa, s_new, s_thr, s_min, s_copy, s_obj, s_call, s_iret, s_aret, s_vret, go, ldI, lget, lput, lv_args, wsum, va_rf, hnd, cvr, cat_i, cat_r, cat_l, oi_of, oi_add, oi_sub, oA_ap, oA_u2, pi_lt, pi_le, pi_eq, pi_eq0, pi_lt0, pi_le0, pi_gt0, pi_ge0, pi_cl, sb_lit, fv4, isB01, nlt0, EvU_0, wO_ne, wL_ne, wC_ne, wN_ne, pO_ne, pU_ne, CN, LN, -Prod.exists, pi_ti, Op.lookupswitch.offset, EvU_at d161_0, EvU_at d161_1, EvU_at d161_2, EvU_at d161_3, EvU_at d161_6, EvU_at d161_9, EvU_at d161_10, EvU_at d161_13, EvU_at d161_14, EvU_at d161_15, EvU_at d161_18, EvU_at d161_19, EvU_at d161_20, EvU_at d161_23, EvU_at d161_24, EvU_at d161_27, EvU_at d161_28, EvU_at d161_29, EvU_at d161_30, EvU_at d161_31, EvU_at d161_34, EvU_at d161_35, EvU_at d161_38, EvU_at d161_41, EvU_at d161_42, EvU_at d161_43, EvU_at d161_44, EvU_at d161_47, EvU_at d161_48, EvU_at d161_51, EvU_at d161_53, EvU_at d161_54, EvU_at d161_55, EvU_at d161_56, EvU_at d161_57, EvU_at d161_58, EvU_at d161_61, EvU_at d161_62, EvU_at d161_65, EvU_at d161_67, EvU_at d161_68, EvU_at d161_69, EvU_at d161_70, EvU_at d161_71, EvU_at d161_72, Z161, Z117, LyS hL, LyG hL, hA, xm, xo, xo2, r_go hL, Z119, Z162, n1, n2, hn, hk, hy, x1, x2, w0, w1, w2, w3, w4, oi_mul, i0, i1, i2, i3, ur]
        · subst c9
          simp [EvS, stI, enI, caI, s_push, s_iload, s_aload, s_istore, s_astore, s_iinc, s_bin, s_div, s_i2l, s_lcmp, s_dup, s_dup2, s_pop, s_tab, s_look, s_get, s_put, s_iald, s_lald, s_aald, s_iast, s_last, s_aast, s_len, s_newa, s_new, s_thr, s_min, s_copy, s_obj, s_call, s_iret, s_aret, s_vret, go, ldI, lget, lput, lv_args, wsum, va_rf, hnd, cvr, cat_i, cat_r, cat_l, oi_of, oi_add, oi_sub, oA_ap, oA_u2, pi_lt, pi_le, pi_eq, pi_eq0, pi_lt0, pi_le0, pi_gt0, pi_ge0, pi_cl, sb_lit, fv4, isB01, nlt0, EvU_0, wO_ne, wL_ne, wC_ne, wN_ne, pO_ne, pU_ne, CN, LN, -Prod.exists, pi_ti, Op.lookupswitch.offset, EvU_at d161_0, EvU_at d161_1, EvU_at d161_2, EvU_at d161_3, EvU_at d161_6, EvU_at d161_9, EvU_at d161_10, EvU_at d161_13, EvU_at d161_14, EvU_at d161_15, EvU_at d161_18, EvU_at d161_19, EvU_at d161_20, EvU_at d161_23, EvU_at d161_24, EvU_at d161_27, EvU_at d161_28, EvU_at d161_29, EvU_at d161_30, EvU_at d161_31, EvU_at d161_34, EvU_at d161_35, EvU_at d161_38, EvU_at d161_41, EvU_at d161_42, EvU_at d161_43, EvU_at d161_44, EvU_at d161_47, EvU_at d161_48, EvU_at d161_51, EvU_at d161_53, EvU_at d161_54, EvU_at d161_55, EvU_at d161_56, EvU_at d161_57, EvU_at d161_58, EvU_at d161_61, EvU_at d161_62, EvU_at d161_65, EvU_at d161_67, EvU_at d161_68, EvU_at d161_69, EvU_at d161_70, EvU_at d161_71, EvU_at d161_72, Z161, Z117, LyS hL, LyG hL, hA, xm, xo, xo2, r_go hL, Z119, Z162, n1, n2, hn, hk, hy, x1, x2, w0, w1, w2, w3, w4, oi_mul, i0, i1, i2, i3, ur]
      · rw [show b1 (0 ≤ y ∧ y ≤ 1) = 0 from if_neg (by omega)] at n2
        rw [if_pos c3]
        simp [EvS, stI, enI, caI, s_push, s_iload, s_aload, s_istore, s_astore, s_iinc, s_bin, s_div, s_i2l, s_lcmp, s_dup, s_dup2, s_pop, s_tab, s_look, s_get, s_put, s_iald, s_lald, s_aald, s_iast, s_last, s_aast, s_len, s_newa, s_new, s_thr, s_min, s_copy, s_obj, s_call, s_iret, s_aret, s_vret, go, ldI, lget, lput, lv_args, wsum, va_rf, hnd, cvr, cat_i, cat_r, cat_l, oi_of, oi_add, oi_sub, oA_ap, oA_u2, pi_lt, pi_le, pi_eq, pi_eq0, pi_lt0, pi_le0, pi_gt0, pi_ge0, pi_cl, sb_lit, fv4, isB01, nlt0, EvU_0, wO_ne, wL_ne, wC_ne, wN_ne, pO_ne, pU_ne, CN, LN, -Prod.exists, pi_ti, Op.lookupswitch.offset, EvU_at d161_0, EvU_at d161_1, EvU_at d161_2, EvU_at d161_3, EvU_at d161_6, EvU_at d161_9, EvU_at d161_10, EvU_at d161_13, EvU_at d161_14, EvU_at d161_15, EvU_at d161_18, EvU_at d161_19, EvU_at d161_20, EvU_at d161_23, EvU_at d161_24, EvU_at d161_27, EvU_at d161_28, EvU_at d161_29, EvU_at d161_30, EvU_at d161_31, EvU_at d161_34, EvU_at d161_35, EvU_at d161_38, EvU_at d161_41, EvU_at d161_42, EvU_at d161_43, EvU_at d161_44, EvU_at d161_47, EvU_at d161_48, EvU_at d161_51, EvU_at d161_53, EvU_at d161_54, EvU_at d161_55, EvU_at d161_56, EvU_at d161_57, EvU_at d161_58, EvU_at d161_61, EvU_at d161_62, EvU_at d161_65, EvU_at d161_67, EvU_at d161_68, EvU_at d161_69, EvU_at d161_70, EvU_at d161_71, EvU_at d161_72, Z161, Z117, LyS hL, LyG hL, hA, xm, xo, xo2, r_go hL, Z119, Z162, n1, n2, hn, hk, hy, x1, w0, w1, w2, w3, w4]
    · rw [if_pos c2]
      have n3 : b1 (0 ≤ y ∧ y ≤ 1) = 0 ∨ b1 (0 ≤ y ∧ y ≤ 1) = 1 := b1_01 _
      rcases (show k < 0 ∨ ¬ k < 0 ∧ B (gO n.toNat) 3 ≤ k by omega) with w2 | ⟨w2, w3⟩
      · rcases n3 with n3 | n3
        · rw [n3] at n2
          simp [EvS, stI, enI, caI, s_push, s_iload, s_aload, s_istore, s_astore, s_iinc, s_bin, s_div, s_i2l, s_lcmp, s_dup, s_dup2, s_pop, s_tab, s_look, s_get, s_put, s_iald, s_lald, s_aald, s_iast, s_last, s_aast, s_len, s_newa, s_new, s_thr, s_min, s_copy, s_obj, s_call, s_iret, s_aret, s_vret, go, ldI, lget, lput, lv_args, wsum, va_rf, hnd, cvr, cat_i, cat_r, cat_l, oi_of, oi_add, oi_sub, oA_ap, oA_u2, pi_lt, pi_le, pi_eq, pi_eq0, pi_lt0, pi_le0, pi_gt0, pi_ge0, pi_cl, sb_lit, fv4, isB01, nlt0, EvU_0, wO_ne, wL_ne, wC_ne, wN_ne, pO_ne, pU_ne, CN, LN, -Prod.exists, pi_ti, Op.lookupswitch.offset, EvU_at d161_0, EvU_at d161_1, EvU_at d161_2, EvU_at d161_3, EvU_at d161_6, EvU_at d161_9, EvU_at d161_10, EvU_at d161_13, EvU_at d161_14, EvU_at d161_15, EvU_at d161_18, EvU_at d161_19, EvU_at d161_20, EvU_at d161_23, EvU_at d161_24, EvU_at d161_27, EvU_at d161_28, EvU_at d161_29, EvU_at d161_30, EvU_at d161_31, EvU_at d161_34, EvU_at d161_35, EvU_at d161_38, EvU_at d161_41, EvU_at d161_42, EvU_at d161_43, EvU_at d161_44, EvU_at d161_47, EvU_at d161_48, EvU_at d161_51, EvU_at d161_53, EvU_at d161_54, EvU_at d161_55, EvU_at d161_56, EvU_at d161_57, EvU_at d161_58, EvU_at d161_61, EvU_at d161_62, EvU_at d161_65, EvU_at d161_67, EvU_at d161_68, EvU_at d161_69, EvU_at d161_70, EvU_at d161_71, EvU_at d161_72, Z161, Z117, LyS hL, LyG hL, hA, xm, xo, xo2, r_go hL, Z119, Z162, n1, n2, hn, hk, hy, x1, w0, w1, w2, w4]
        · rw [n3] at n2
          simp [EvS, stI, enI, caI, s_push, s_iload, s_aload, s_istore, s_astore, s_iinc, s_bin, s_div, s_i2l, s_lcmp, s_dup, s_dup2, s_pop, s_tab, s_look, s_get, s_put, s_iald, s_lald, s_aald, s_iast, s_last, s_aast, s_len, s_newa, s_new, s_thr, s_min, s_copy, s_obj, s_call, s_iret, s_aret, s_vret, go, ldI, lget, lput, lv_args, wsum, va_rf, hnd, cvr, cat_i, cat_r, cat_l, oi_of, oi_add, oi_sub, oA_ap, oA_u2, pi_lt, pi_le, pi_eq, pi_eq0, pi_lt0, pi_le0, pi_gt0, pi_ge0, pi_cl, sb_lit, fv4, isB01, nlt0, EvU_0, wO_ne, wL_ne, wC_ne, wN_ne, pO_ne, pU_ne, CN, LN, -Prod.exists, pi_ti, Op.lookupswitch.offset, EvU_at d161_0, EvU_at d161_1, EvU_at d161_2, EvU_at d161_3, EvU_at d161_6, EvU_at d161_9, EvU_at d161_10, EvU_at d161_13, EvU_at d161_14, EvU_at d161_15, EvU_at d161_18, EvU_at d161_19, EvU_at d161_20, EvU_at d161_23, EvU_at d161_24, EvU_at d161_27, EvU_at d161_28, EvU_at d161_29, EvU_at d161_30, EvU_at d161_31, EvU_at d161_34, EvU_at d161_35, EvU_at d161_38, EvU_at d161_41, EvU_at d161_42, EvU_at d161_43, EvU_at d161_44, EvU_at d161_47, EvU_at d161_48, EvU_at d161_51, EvU_at d161_53, EvU_at d161_54, EvU_at d161_55, EvU_at d161_56, EvU_at d161_57, EvU_at d161_58, EvU_at d161_61, EvU_at d161_62, EvU_at d161_65, EvU_at d161_67, EvU_at d161_68, EvU_at d161_69, EvU_at d161_70, EvU_at d161_71, EvU_at d161_72, Z161, Z117, LyS hL, LyG hL, hA, xm, xo, xo2, r_go hL, Z119, Z162, n1, n2, hn, hk, hy, x1, w0, w1, w2, w4]
      · rcases n3 with n3 | n3
        · rw [n3] at n2
          simp [EvS, stI, enI, caI, s_push, s_iload, s_aload, s_istore, s_astore, s_iinc, s_bin, s_div, s_i2l, s_lcmp, s_dup, s_dup2, s_pop, s_tab, s_look, s_get, s_put, s_iald, s_lald, s_aald, s_iast, s_last, s_aast, s_len, s_newa, s_new, s_thr, s_min, s_copy, s_obj, s_call, s_iret, s_aret, s_vret, go, ldI, lget, lput, lv_args, wsum, va_rf, hnd, cvr, cat_i, cat_r, cat_l, oi_of, oi_add, oi_sub, oA_ap, oA_u2, pi_lt, pi_le, pi_eq, pi_eq0, pi_lt0, pi_le0, pi_gt0, pi_ge0, pi_cl, sb_lit, fv4, isB01, nlt0, EvU_0, wO_ne, wL_ne, wC_ne, wN_ne, pO_ne, pU_ne, CN, LN, -Prod.exists, pi_ti, Op.lookupswitch.offset, EvU_at d161_0, EvU_at d161_1, EvU_at d161_2, EvU_at d161_3, EvU_at d161_6, EvU_at d161_9, EvU_at d161_10, EvU_at d161_13, EvU_at d161_14, EvU_at d161_15, EvU_at d161_18, EvU_at d161_19, EvU_at d161_20, EvU_at d161_23, EvU_at d161_24, EvU_at d161_27, EvU_at d161_28, EvU_at d161_29, EvU_at d161_30, EvU_at d161_31, EvU_at d161_34, EvU_at d161_35, EvU_at d161_38, EvU_at d161_41, EvU_at d161_42, EvU_at d161_43, EvU_at d161_44, EvU_at d161_47, EvU_at d161_48, EvU_at d161_51, EvU_at d161_53, EvU_at d161_54, EvU_at d161_55, EvU_at d161_56, EvU_at d161_57, EvU_at d161_58, EvU_at d161_61, EvU_at d161_62, EvU_at d161_65, EvU_at d161_67, EvU_at d161_68, EvU_at d161_69, EvU_at d161_70, EvU_at d161_71, EvU_at d161_72, Z161, Z117, LyS hL, LyG hL, hA, xm, xo, xo2, r_go hL, Z119, Z162, n1, n2, hn, hk, hy, x1, w0, w1, w2, w3, w4]
        · rw [n3] at n2
          simp [EvS, stI, enI, caI, s_push, s_iload, s_aload, s_istore, s_astore, s_iinc, s_bin, s_div, s_i2l, s_lcmp, s_dup, s_dup2, s_pop, s_tab, s_look, s_get, s_put, s_iald, s_lald, s_aald, s_iast, s_last, s_aast, s_len, s_newa, s_new, s_thr, s_min, s_copy, s_obj, s_call, s_iret, s_aret, s_vret, go, ldI, lget, lput, lv_args, wsum, va_rf, hnd, cvr, cat_i, cat_r, cat_l, oi_of, oi_add, oi_sub, oA_ap, oA_u2, pi_lt, pi_le, pi_eq, pi_eq0, pi_lt0, pi_le0, pi_gt0, pi_ge0, pi_cl, sb_lit, fv4, isB01, nlt0, EvU_0, wO_ne, wL_ne, wC_ne, wN_ne, pO_ne, pU_ne, CN, LN, -Prod.exists, pi_ti, Op.lookupswitch.offset, EvU_at d161_0, EvU_at d161_1, EvU_at d161_2, EvU_at d161_3, EvU_at d161_6, EvU_at d161_9, EvU_at d161_10, EvU_at d161_13, EvU_at d161_14, EvU_at d161_15, EvU_at d161_18, EvU_at d161_19, EvU_at d161_20, EvU_at d161_23, EvU_at d161_24, EvU_at d161_27, EvU_at d161_28, EvU_at d161_29, EvU_at d161_30, EvU_at d161_31, EvU_at d161_34, EvU_at d161_35, EvU_at d161_38, EvU_at d161_41, EvU_at d161_42, EvU_at d161_43, EvU_at d161_44, EvU_at d161_47, EvU_at d161_48, EvU_at d161_51, EvU_at d161_53, EvU_at d161_54, EvU_at d161_55, EvU_at d161_56, EvU_at d161_57, EvU_at d161_58, EvU_at d161_61, EvU_at d161_62, EvU_at d161_65, EvU_at d161_67, EvU_at d161_68, EvU_at d161_69, EvU_at d161_70, EvU_at d161_71, EvU_at d161_72, Z161, Z117, LyS hL, LyG hL, hA, xm, xo, xo2, r_go hL, Z119, Z162, n1, n2, hn, hk, hy, x1, w0, w1, w2, w3, w4]
  · rw [show b1 (0 ≤ n ∧ n < B 74 1) = 0 from if_neg c1] at n1
    rw [if_pos c1]
    rcases b1_01 (0 ≤ y ∧ y ≤ 1) with n3 | n3
    · rw [n3] at n2
      simp [EvS, stI, enI, caI, s_push, s_iload, s_aload, s_istore, s_astore, s_iinc, s_bin, s_div, s_i2l, s_lcmp, s_dup, s_dup2, s_pop, s_tab, s_look, s_get, s_put, s_iald, s_lald, s_aald, s_iast, s_last, s_aast, s_len, s_newa, s_new, s_thr, s_min, s_copy, s_obj, s_call, s_iret, s_aret, s_vret, go, ldI, lget, lput, lv_args, wsum, va_rf, hnd, cvr, cat_i, cat_r, cat_l, oi_of, oi_add, oi_sub, oA_ap, oA_u2, pi_lt, pi_le, pi_eq, pi_eq0, pi_lt0, pi_le0, pi_gt0, pi_ge0, pi_cl, sb_lit, fv4, isB01, nlt0, EvU_0, wO_ne, wL_ne, wC_ne, wN_ne, pO_ne, pU_ne, CN, LN, -Prod.exists, pi_ti, Op.lookupswitch.offset, EvU_at d161_0, EvU_at d161_1, EvU_at d161_2, EvU_at d161_3, EvU_at d161_6, EvU_at d161_9, EvU_at d161_10, EvU_at d161_13, EvU_at d161_14, EvU_at d161_15, EvU_at d161_18, EvU_at d161_19, EvU_at d161_20, EvU_at d161_23, EvU_at d161_24, EvU_at d161_27, EvU_at d161_28, EvU_at d161_29, EvU_at d161_30, EvU_at d161_31, EvU_at d161_34, EvU_at d161_35, EvU_at d161_38, EvU_at d161_41, EvU_at d161_42, EvU_at d161_43, EvU_at d161_44, EvU_at d161_47, EvU_at d161_48, EvU_at d161_51, EvU_at d161_53, EvU_at d161_54, EvU_at d161_55, EvU_at d161_56, EvU_at d161_57, EvU_at d161_58, EvU_at d161_61, EvU_at d161_62, EvU_at d161_65, EvU_at d161_67, EvU_at d161_68, EvU_at d161_69, EvU_at d161_70, EvU_at d161_71, EvU_at d161_72, Z161, Z117, LyS hL, LyG hL, hA, xm, xo, xo2, r_go hL, Z119, Z162, n1, n2, hn, hk, hy]
    · rw [n3] at n2
      simp [EvS, stI, enI, caI, s_push, s_iload, s_aload, s_istore, s_astore, s_iinc, s_bin, s_div, s_i2l, s_lcmp, s_dup, s_dup2, s_pop, s_tab, s_look, s_get, s_put, s_iald, s_lald, s_aald, s_iast, s_last, s_aast, s_len, s_newa, s_new, s_thr, s_min, s_copy, s_obj, s_call, s_iret, s_aret, s_vret, go, ldI, lget, lput, lv_args, wsum, va_rf, hnd, cvr, cat_i, cat_r, cat_l, oi_of, oi_add, oi_sub, oA_ap, oA_u2, pi_lt, pi_le, pi_eq, pi_eq0, pi_lt0, pi_le0, pi_gt0, pi_ge0, pi_cl, sb_lit, fv4, isB01, nlt0, EvU_0, wO_ne, wL_ne, wC_ne, wN_ne, pO_ne, pU_ne, CN, LN, -Prod.exists, pi_ti, Op.lookupswitch.offset, EvU_at d161_0, EvU_at d161_1, EvU_at d161_2, EvU_at d161_3, EvU_at d161_6, EvU_at d161_9, EvU_at d161_10, EvU_at d161_13, EvU_at d161_14, EvU_at d161_15, EvU_at d161_18, EvU_at d161_19, EvU_at d161_20, EvU_at d161_23, EvU_at d161_24, EvU_at d161_27, EvU_at d161_28, EvU_at d161_29, EvU_at d161_30, EvU_at d161_31, EvU_at d161_34, EvU_at d161_35, EvU_at d161_38, EvU_at d161_41, EvU_at d161_42, EvU_at d161_43, EvU_at d161_44, EvU_at d161_47, EvU_at d161_48, EvU_at d161_51, EvU_at d161_53, EvU_at d161_54, EvU_at d161_55, EvU_at d161_56, EvU_at d161_57, EvU_at d161_58, EvU_at d161_61, EvU_at d161_62, EvU_at d161_65, EvU_at d161_67, EvU_at d161_68, EvU_at d161_69, EvU_at d161_70, EvU_at d161_71, EvU_at d161_72, Z161, Z117, LyS hL, LyG hL, hA, xm, xo, xo2, r_go hL, Z119, Z162, n1, n2, hn, hk, hy]
set_option maxRecDepth 20000 in
theorem l_run (hL : Lay sh gr) {u : Nat} (hu : u < 40) {od : Nat → Int} : ∀ (n k : Nat) (A : Nat → Nat → Int) (ls : Lc), k + n = 18 → A 199 16 = (u : Int) → (∀ j, A 211 j = od j) → nl ls = true → lget ls 0 = some (.ref 199) → lget ls 1 = some (.int (oi (k : Int))) →
    (Ev (153, 42, ls, [], (sh, oA A, gl, gr), sl) r ↔ r = (.inl (some (.int (oi (u : Int)))), (sh, oA (fillR A 208 k 18 (fun j => od (18 * u + j))), gl, gr), sl)) := by
  intro n
  induction n with
  | zero =>
    intro k A ls hn hm hs g g0 g1
    obtain rfl : k = 18 := by omega
    rw [fillR_0]
    have e0 : sb ((18 : Nat) : Int) := ⟨by omega, by omega⟩
    have e1 : (18 : Int) ≤ ((18 : Nat) : Int) := by omega
    rw [EvU_iff (fun _ => false) 40]
    simp (maxDischargeDepth := 9) [EvS, stI, enI, caI, s_push, s_iload, s_aload, s_istore, s_astore, s_iinc, s_bin, s_div, s_i2l, s_lcmp, s_dup, s_dup2, s_pop, s_tab, s_look, s_get, s_put, s_iald, s_lald, s_aald, s_iast, s_last, s_aast, s_len, s_newa, s_new, s_thr, s_min, s_copy, s_obj, s_call, s_iret, s_aret, s_vret, go, ldI, lget_lput, nl_I, nl_R, lv_args, wsum, va_rf, hnd, cvr, cat_i, cat_r, cat_l, oi_of, oi_add, oi_sub, oA_ap, oA_u2, pi_lt, pi_le, pi_eq, pi_eq0, pi_lt0, pi_le0, pi_gt0, pi_ge0, pi_cl, sb_lit, fv4, isB01, nlt0, EvU_0, wO_ne, wL_ne, wC_ne, wN_ne, pO_ne, pU_ne, CN, LN, -Prod.exists, pi_ti, Op.lookupswitch.offset, EvU_at d153_0, EvU_at d153_1, EvU_at d153_2, EvU_at d153_5, EvU_at d153_8, EvU_at d153_9, EvU_at d153_12, EvU_at d153_15, EvU_at d153_16, EvU_at d153_19, EvU_at d153_20, EvU_at d153_21, EvU_at d153_22, EvU_at d153_25, EvU_at d153_28, EvU_at d153_29, EvU_at d153_30, EvU_at d153_31, EvU_at d153_32, EvU_at d153_35, EvU_at d153_36, EvU_at d153_37, EvU_at d153_40, EvU_at d153_41, EvU_at d153_42, EvU_at d153_43, EvU_at d153_45, EvU_at d153_48, EvU_at d153_49, EvU_at d153_52, EvU_at d153_53, EvU_at d153_54, EvU_at d153_57, EvU_at d153_59, EvU_at d153_60, EvU_at d153_63, EvU_at d153_64, EvU_at d153_65, EvU_at d153_66, EvU_at d153_67, EvU_at d153_68, EvU_at d153_71, EvU_at d153_74, EvU_at d153_75, EvU_at d153_78, Z153, LyS hL, LyG hL, g, g0, g1, e0, e1, hm]
  | succ n ih =>
    intro k A ls hn hm hs g g0 g1
    have e0 : sb (k : Int) := ⟨by omega, by omega⟩
    have e1 : ¬ (18 : Int) ≤ (k : Int) := by omega
    have e2 : ¬ 18 ≤ k := by omega
    have i0 : sb (18 * (u : Int) + (k : Int)) := ⟨by omega, by omega⟩
    have i1 : ¬ 18 * (u : Int) + (k : Int) < 0 := by omega
    have i2 : (18 * (u : Int) + (k : Int)).toNat = 18 * u + k := by omega
    have i3 : ¬ 720 ≤ 18 * u + k := by omega
    have e3 := hs (18 * u + k)
    rw [EvU_iff (fun _ => false) 1]
    simp (maxDischargeDepth := 9) [EvS, stI, enI, caI, s_push, s_iload, s_aload, s_istore, s_astore, s_iinc, s_bin, s_div, s_i2l, s_lcmp, s_dup, s_dup2, s_pop, s_tab, s_look, s_get, s_put, s_iald, s_lald, s_aald, s_iast, s_last, s_aast, s_len, s_newa, s_new, s_thr, s_min, s_copy, s_obj, s_call, s_iret, s_aret, s_vret, go, ldI, lget_lput, nl_I, nl_R, lv_args, wsum, va_rf, hnd, cvr, cat_i, cat_r, cat_l, oi_of, oi_add, oi_sub, oA_ap, oA_u2, pi_lt, pi_le, pi_eq, pi_eq0, pi_lt0, pi_le0, pi_gt0, pi_ge0, pi_cl, sb_lit, fv4, isB01, nlt0, EvU_0, wO_ne, wL_ne, wC_ne, wN_ne, pO_ne, pU_ne, CN, LN, -Prod.exists, pi_ti, Op.lookupswitch.offset, EvU_at d153_0, EvU_at d153_1, EvU_at d153_2, EvU_at d153_5, EvU_at d153_8, EvU_at d153_9, EvU_at d153_12, EvU_at d153_15, EvU_at d153_16, EvU_at d153_19, EvU_at d153_20, EvU_at d153_21, EvU_at d153_22, EvU_at d153_25, EvU_at d153_28, EvU_at d153_29, EvU_at d153_30, EvU_at d153_31, EvU_at d153_32, EvU_at d153_35, EvU_at d153_36, EvU_at d153_37, EvU_at d153_40, EvU_at d153_41, EvU_at d153_42, EvU_at d153_43, EvU_at d153_45, EvU_at d153_48, EvU_at d153_49, EvU_at d153_52, EvU_at d153_53, EvU_at d153_54, EvU_at d153_57, EvU_at d153_59, EvU_at d153_60, EvU_at d153_63, EvU_at d153_64, EvU_at d153_65, EvU_at d153_66, EvU_at d153_67, EvU_at d153_68, EvU_at d153_71, EvU_at d153_74, EvU_at d153_75, EvU_at d153_78, Z153, LyS hL, LyG hL, g, g0, g1]
    rw [EvU_iff (fun p => p == 42) 60, ← fillR_s A (fun j => od (18 * u + j)) (show k < 18 by omega)]
    simp (maxDischargeDepth := 9) [EvS, stI, enI, caI, s_push, s_iload, s_aload, s_istore, s_astore, s_iinc, s_bin, s_div, s_i2l, s_lcmp, s_dup, s_dup2, s_pop, s_tab, s_look, s_get, s_put, s_iald, s_lald, s_aald, s_iast, s_last, s_aast, s_len, s_newa, s_new, s_thr, s_min, s_copy, s_obj, s_call, s_iret, s_aret, s_vret, go, ldI, lget_lput, nl_I, nl_R, lv_args, wsum, va_rf, hnd, cvr, cat_i, cat_r, cat_l, oi_of, oi_add, oi_sub, oA_ap, oA_u2, pi_lt, pi_le, pi_eq, pi_eq0, pi_lt0, pi_le0, pi_gt0, pi_ge0, pi_cl, sb_lit, fv4, isB01, nlt0, EvU_0, wO_ne, wL_ne, wC_ne, wN_ne, pO_ne, pU_ne, CN, LN, -Prod.exists, pi_ti, Op.lookupswitch.offset, EvU_at d153_0, EvU_at d153_1, EvU_at d153_2, EvU_at d153_5, EvU_at d153_8, EvU_at d153_9, EvU_at d153_12, EvU_at d153_15, EvU_at d153_16, EvU_at d153_19, EvU_at d153_20, EvU_at d153_21, EvU_at d153_22, EvU_at d153_25, EvU_at d153_28, EvU_at d153_29, EvU_at d153_30, EvU_at d153_31, EvU_at d153_32, EvU_at d153_35, EvU_at d153_36, EvU_at d153_37, EvU_at d153_40, EvU_at d153_41, EvU_at d153_42, EvU_at d153_43, EvU_at d153_45, EvU_at d153_48, EvU_at d153_49, EvU_at d153_52, EvU_at d153_53, EvU_at d153_54, EvU_at d153_57, EvU_at d153_59, EvU_at d153_60, EvU_at d153_63, EvU_at d153_64, EvU_at d153_65, EvU_at d153_66, EvU_at d153_67, EvU_at d153_68, EvU_at d153_71, EvU_at d153_74, EvU_at d153_75, EvU_at d153_78, Z153, LyS hL, LyG hL, oi_mul, g, g0, g1, e0, e1, e2, e3, hm, i0, i1, i2, i3]
    refine ih (k + 1) _ _ (by omega) ?_ ?_ ?_ ?_ ?_
    · rw [uk_ne (by omega)]
      exact hm
    · intro j
      rw [uk_ne (by omega)]
      exact hs j
    · simp (maxDischargeDepth := 9) [lget_lput, nl_I, nl_R, g]
    · simp (maxDischargeDepth := 9) [lget_lput, nl_I, nl_R, g, g0]
    · simp (maxDischargeDepth := 9) [lget_lput, nl_I, nl_R, g]
set_option maxRecDepth 20000 in
theorem q_undo (hA : ∀ k j, sb (A k j)) (hL : Lay sh gr) (h : RL A B) : Ev (153, 0, [(0, .ref 199)], [], (sh, oA A, gl, gr), sl) r ↔
    r = if ¬ (B 74 2 = 0) then (.inl (some (.int (oi 0))), (sh, oA (u2 A 199 0 1), gl, gr), sl) else if ¬ (B 72 2 ≠ 0) then (.inl (some (.int (oi 0))), (sh, oA (u2 A 199 0 1), gl, gr), sl) else (.inl (some (.int (oi (B 72 2 - 1)))), (sh, oA (fillR (u2 (u2 A 199 0 0) 199 16 (B 72 2 - 1)) 208 0 18 (fun j => A 211 (18 * ((B 72 2).toNat - 1) + j))), gl, gr), sl) := by
  have xm := h.R.m
  have xo := h.G.op
  have xo2 : sb (B 74 2) := xo ▸ hA _ _
  have hm := h.O.m
  have xs := h.U.un
  have o1 := h.O.U.un
  have o2 : sb (B 72 2) := ⟨by omega, by omega⟩
  by_cases co : B 74 2 = 0
  · by_cases c2 : B 72 2 ≠ 0
    · have k1 : ¬ B 72 2 ≤ 0 := by omega
      obtain ⟨u, hu⟩ : ∃ u : Nat, B 72 2 = (u : Int) + 1 := ⟨(B 72 2).toNat - 1, by omega⟩
      have hu2 : (B 72 2).toNat - 1 = u := by omega
      have hu3 : B 72 2 - 1 = (u : Int) := by omega
      have key := fun ls => l_run (A := u2 (u2 A 199 0 0) 199 16 (u : Int)) (gl := gl) (sl := sl) (r := r) hL (u := u) (by omega) (od := fun j => A 211 j) 18 0 ls rfl (by rw [ue_eq]) (fun j => by rw [uk_ne (by omega), uk_ne (by omega)])
      have k4 : (u : Int) + 1 - 1 = u := by omega
      rw [if_neg (fun e => e co), if_neg (fun e => e c2), hu2, hu3, EvU_iff (fun p => p == 42) 60]
      rw [hu] at xs o2 k1
      simp [EvS, stI, enI, caI, s_push, s_iload, s_aload, s_istore, s_astore, s_iinc, s_bin, s_div, s_i2l, s_lcmp, s_dup, s_dup2, s_pop, s_tab, s_look, s_get, s_put, s_iald, s_lald, s_aald, s_iast, s_last, s_aast, s_len, s_newa, s_new, s_thr, s_min, s_copy, s_obj, s_call, s_iret, s_aret, s_vret, go, ldI, lget, lput, lv_args, wsum, va_rf, hnd, cvr, cat_i, cat_r, cat_l, oi_of, oi_add, oi_sub, oA_ap, oA_u2, pi_lt, pi_le, pi_eq, pi_eq0, pi_lt0, pi_le0, pi_gt0, pi_ge0, pi_cl, sb_lit, fv4, isB01, nlt0, EvU_0, wO_ne, wL_ne, wC_ne, wN_ne, pO_ne, pU_ne, CN, LN, -Prod.exists, pi_ti, Op.lookupswitch.offset, EvU_at d153_0, EvU_at d153_1, EvU_at d153_2, EvU_at d153_5, EvU_at d153_8, EvU_at d153_9, EvU_at d153_12, EvU_at d153_15, EvU_at d153_16, EvU_at d153_19, EvU_at d153_20, EvU_at d153_21, EvU_at d153_22, EvU_at d153_25, EvU_at d153_28, EvU_at d153_29, EvU_at d153_30, EvU_at d153_31, EvU_at d153_32, EvU_at d153_35, EvU_at d153_36, EvU_at d153_37, EvU_at d153_40, EvU_at d153_41, EvU_at d153_42, EvU_at d153_43, EvU_at d153_45, EvU_at d153_48, EvU_at d153_49, EvU_at d153_52, EvU_at d153_53, EvU_at d153_54, EvU_at d153_57, EvU_at d153_59, EvU_at d153_60, EvU_at d153_63, EvU_at d153_64, EvU_at d153_65, EvU_at d153_66, EvU_at d153_67, EvU_at d153_68, EvU_at d153_71, EvU_at d153_74, EvU_at d153_75, EvU_at d153_78, Z153, Z117, LyS hL, LyG hL, hA, xm, xo, xo2, r_go hL, co, xs, o2, k1, k4, ur]
      refine key _ ?_ ?_ ?_
      · simp [nl, cat_i, cat_r]
      · simp [lget, cat_i, cat_r]
      · simp [lget, cat_i, cat_r]
    · have k1 : B 72 2 = 0 := Classical.not_not.mp c2
      rw [if_neg (fun e => e co), if_pos c2, EvU_iff (fun _ => false) 60]
      simp [EvS, stI, enI, caI, s_push, s_iload, s_aload, s_istore, s_astore, s_iinc, s_bin, s_div, s_i2l, s_lcmp, s_dup, s_dup2, s_pop, s_tab, s_look, s_get, s_put, s_iald, s_lald, s_aald, s_iast, s_last, s_aast, s_len, s_newa, s_new, s_thr, s_min, s_copy, s_obj, s_call, s_iret, s_aret, s_vret, go, ldI, lget, lput, lv_args, wsum, va_rf, hnd, cvr, cat_i, cat_r, cat_l, oi_of, oi_add, oi_sub, oA_ap, oA_u2, pi_lt, pi_le, pi_eq, pi_eq0, pi_lt0, pi_le0, pi_gt0, pi_ge0, pi_cl, sb_lit, fv4, isB01, nlt0, EvU_0, wO_ne, wL_ne, wC_ne, wN_ne, pO_ne, pU_ne, CN, LN, -Prod.exists, pi_ti, Op.lookupswitch.offset, EvU_at d153_0, EvU_at d153_1, EvU_at d153_2, EvU_at d153_5, EvU_at d153_8, EvU_at d153_9, EvU_at d153_12, EvU_at d153_15, EvU_at d153_16, EvU_at d153_19, EvU_at d153_20, EvU_at d153_21, EvU_at d153_22, EvU_at d153_25, EvU_at d153_28, EvU_at d153_29, EvU_at d153_30, EvU_at d153_31, EvU_at d153_32, EvU_at d153_35, EvU_at d153_36, EvU_at d153_37, EvU_at d153_40, EvU_at d153_41, EvU_at d153_42, EvU_at d153_43, EvU_at d153_45, EvU_at d153_48, EvU_at d153_49, EvU_at d153_52, EvU_at d153_53, EvU_at d153_54, EvU_at d153_57, EvU_at d153_59, EvU_at d153_60, EvU_at d153_63, EvU_at d153_64, EvU_at d153_65, EvU_at d153_66, EvU_at d153_67, EvU_at d153_68, EvU_at d153_71, EvU_at d153_74, EvU_at d153_75, EvU_at d153_78, Z153, Z117, LyS hL, LyG hL, hA, xm, xo, xo2, r_go hL, co, xs, k1]
  · rw [if_pos co, EvU_iff (fun _ => false) 60]
    simp [EvS, stI, enI, caI, s_push, s_iload, s_aload, s_istore, s_astore, s_iinc, s_bin, s_div, s_i2l, s_lcmp, s_dup, s_dup2, s_pop, s_tab, s_look, s_get, s_put, s_iald, s_lald, s_aald, s_iast, s_last, s_aast, s_len, s_newa, s_new, s_thr, s_min, s_copy, s_obj, s_call, s_iret, s_aret, s_vret, go, ldI, lget, lput, lv_args, wsum, va_rf, hnd, cvr, cat_i, cat_r, cat_l, oi_of, oi_add, oi_sub, oA_ap, oA_u2, pi_lt, pi_le, pi_eq, pi_eq0, pi_lt0, pi_le0, pi_gt0, pi_ge0, pi_cl, sb_lit, fv4, isB01, nlt0, EvU_0, wO_ne, wL_ne, wC_ne, wN_ne, pO_ne, pU_ne, CN, LN, -Prod.exists, pi_ti, Op.lookupswitch.offset, EvU_at d153_0, EvU_at d153_1, EvU_at d153_2, EvU_at d153_5, EvU_at d153_8, EvU_at d153_9, EvU_at d153_12, EvU_at d153_15, EvU_at d153_16, EvU_at d153_19, EvU_at d153_20, EvU_at d153_21, EvU_at d153_22, EvU_at d153_25, EvU_at d153_28, EvU_at d153_29, EvU_at d153_30, EvU_at d153_31, EvU_at d153_32, EvU_at d153_35, EvU_at d153_36, EvU_at d153_37, EvU_at d153_40, EvU_at d153_41, EvU_at d153_42, EvU_at d153_43, EvU_at d153_45, EvU_at d153_48, EvU_at d153_49, EvU_at d153_52, EvU_at d153_53, EvU_at d153_54, EvU_at d153_57, EvU_at d153_59, EvU_at d153_60, EvU_at d153_63, EvU_at d153_64, EvU_at d153_65, EvU_at d153_66, EvU_at d153_67, EvU_at d153_68, EvU_at d153_71, EvU_at d153_74, EvU_at d153_75, EvU_at d153_78, Z153, Z117, LyS hL, LyG hL, hA, xm, xo, xo2, r_go hL, co, xs]
end
