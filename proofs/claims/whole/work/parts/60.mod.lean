/-! the reference's calls -/
section
variable {sh : List (Nat × Nat)} {A B : Nat → Nat → Int} {gl : Nat → Nat → Int64} {gr : Nat → Nat → Option Nat} {sl : Nat} {r : Out}
set_option maxRecDepth 20000 in
theorem l_aside (hL : Lay sh gr) {st : Nat → Int} : ∀ (n k : Nat) (A : Nat → Nat → Int) (ls : Lc), k + n = 18 → (∀ j, A 208 j = st j) → nl ls = true → lget ls 0 = some (.ref 199) → lget ls 1 = some (.int (oi (k : Int))) →
    (Ev (155, 2, ls, [], (sh, oA A, gl, gr), sl) r ↔ r = (.inl none, (sh, oA (fillR A 209 k 18 st), gl, gr), sl)) := by
  intro n
  induction n with
  | zero =>
    intro k A ls hn hs g g0 g1
    obtain rfl : k = 18 := by omega
    rw [fillR_0]
    have e0 : sb ((18 : Nat) : Int) := ⟨by omega, by omega⟩
    have e1 : (18 : Int) ≤ ((18 : Nat) : Int) := by omega
    rw [EvU_iff (fun _ => false) 40]
    simp (maxDischargeDepth := 9) [EvS, stI, enI, caI, s_push, s_iload, s_aload, s_istore, s_astore, s_iinc, s_bin, s_div, s_i2l, s_lcmp, s_dup, s_dup2, s_pop, s_tab, s_look, s_get, s_put, s_iald, s_lald, s_aald, s_iast, s_last, s_aast, s_len, s_newa, s_new, s_thr, s_min, s_copy, s_obj, s_call, s_iret, s_aret, s_vret, go, ldI, lget_lput, nl_I, nl_R, lv_args, wsum, va_rf, hnd, cvr, cat_i, cat_r, cat_l, oi_of, oi_add, oi_sub, oA_ap, oA_u2, pi_lt, pi_le, pi_eq, pi_eq0, pi_lt0, pi_le0, pi_gt0, pi_ge0, pi_cl, sb_lit, fv4, isB01, nlt0, EvU_0, wO_ne, wL_ne, wC_ne, wN_ne, pO_ne, pU_ne, CN, LN, -Prod.exists, pi_ti, Op.lookupswitch.offset, EvU_at d155_0, EvU_at d155_1, EvU_at d155_2, EvU_at d155_3, EvU_at d155_5, EvU_at d155_8, EvU_at d155_9, EvU_at d155_12, EvU_at d155_13, EvU_at d155_14, EvU_at d155_17, EvU_at d155_18, EvU_at d155_19, EvU_at d155_20, EvU_at d155_23, EvU_at d155_26, Z155, LyS hL, LyG hL, g, g0, g1, e0, e1]
  | succ n ih =>
    intro k A ls hn hs g g0 g1
    have e0 : sb (k : Int) := ⟨by omega, by omega⟩
    have e1 : ¬ (18 : Int) ≤ (k : Int) := by omega
    have e2 : ¬ 18 ≤ k := by omega
    have e3 := hs k
    rw [EvU_iff (fun _ => false) 1]
    simp (maxDischargeDepth := 9) [EvS, stI, enI, caI, s_push, s_iload, s_aload, s_istore, s_astore, s_iinc, s_bin, s_div, s_i2l, s_lcmp, s_dup, s_dup2, s_pop, s_tab, s_look, s_get, s_put, s_iald, s_lald, s_aald, s_iast, s_last, s_aast, s_len, s_newa, s_new, s_thr, s_min, s_copy, s_obj, s_call, s_iret, s_aret, s_vret, go, ldI, lget_lput, nl_I, nl_R, lv_args, wsum, va_rf, hnd, cvr, cat_i, cat_r, cat_l, oi_of, oi_add, oi_sub, oA_ap, oA_u2, pi_lt, pi_le, pi_eq, pi_eq0, pi_lt0, pi_le0, pi_gt0, pi_ge0, pi_cl, sb_lit, fv4, isB01, nlt0, EvU_0, wO_ne, wL_ne, wC_ne, wN_ne, pO_ne, pU_ne, CN, LN, -Prod.exists, pi_ti, Op.lookupswitch.offset, EvU_at d155_0, EvU_at d155_1, EvU_at d155_2, EvU_at d155_3, EvU_at d155_5, EvU_at d155_8, EvU_at d155_9, EvU_at d155_12, EvU_at d155_13, EvU_at d155_14, EvU_at d155_17, EvU_at d155_18, EvU_at d155_19, EvU_at d155_20, EvU_at d155_23, EvU_at d155_26, Z155, LyS hL, LyG hL, g, g0, g1]
    rw [EvU_iff (fun p => p == 2) 60, ← fillR_s A st (show k < 18 by omega)]
    simp (maxDischargeDepth := 9) [EvS, stI, enI, caI, s_push, s_iload, s_aload, s_istore, s_astore, s_iinc, s_bin, s_div, s_i2l, s_lcmp, s_dup, s_dup2, s_pop, s_tab, s_look, s_get, s_put, s_iald, s_lald, s_aald, s_iast, s_last, s_aast, s_len, s_newa, s_new, s_thr, s_min, s_copy, s_obj, s_call, s_iret, s_aret, s_vret, go, ldI, lget_lput, nl_I, nl_R, lv_args, wsum, va_rf, hnd, cvr, cat_i, cat_r, cat_l, oi_of, oi_add, oi_sub, oA_ap, oA_u2, pi_lt, pi_le, pi_eq, pi_eq0, pi_lt0, pi_le0, pi_gt0, pi_ge0, pi_cl, sb_lit, fv4, isB01, nlt0, EvU_0, wO_ne, wL_ne, wC_ne, wN_ne, pO_ne, pU_ne, CN, LN, -Prod.exists, pi_ti, Op.lookupswitch.offset, EvU_at d155_0, EvU_at d155_1, EvU_at d155_2, EvU_at d155_3, EvU_at d155_5, EvU_at d155_8, EvU_at d155_9, EvU_at d155_12, EvU_at d155_13, EvU_at d155_14, EvU_at d155_17, EvU_at d155_18, EvU_at d155_19, EvU_at d155_20, EvU_at d155_23, EvU_at d155_26, Z155, LyS hL, LyG hL, g, g0, g1, e0, e1, e2, e3]
    refine ih (k + 1) _ _ (by omega) ?_ ?_ ?_ ?_
    · intro j
      rw [uk_ne (by omega)]
      exact hs j
    · simp (maxDischargeDepth := 9) [lget_lput, nl_I, nl_R, g]
    · simp (maxDischargeDepth := 9) [lget_lput, nl_I, nl_R, g, g0]
    · simp (maxDischargeDepth := 9) [lget_lput, nl_I, nl_R, g]
set_option maxRecDepth 20000 in
theorem r_aside (hL : Lay sh gr) : Ev (155, 0, [(0, .ref 199)], [], (sh, oA A, gl, gr), sl) r ↔ r = (.inl none, (sh, oA (fillR A 209 0 18 (fun j => A 208 j)), gl, gr), sl) := by
  rw [EvU_iff (fun p => p == 2) 20]
  simp [EvS, stI, enI, caI, s_push, s_iload, s_aload, s_istore, s_astore, s_iinc, s_bin, s_div, s_i2l, s_lcmp, s_dup, s_dup2, s_pop, s_tab, s_look, s_get, s_put, s_iald, s_lald, s_aald, s_iast, s_last, s_aast, s_len, s_newa, s_new, s_thr, s_min, s_copy, s_obj, s_call, s_iret, s_aret, s_vret, go, ldI, lget, lput, lv_args, wsum, va_rf, hnd, cvr, cat_i, cat_r, cat_l, oi_of, oi_add, oi_sub, oA_ap, oA_u2, pi_lt, pi_le, pi_eq, pi_eq0, pi_lt0, pi_le0, pi_gt0, pi_ge0, pi_cl, sb_lit, fv4, isB01, nlt0, EvU_0, wO_ne, wL_ne, wC_ne, wN_ne, pO_ne, pU_ne, CN, LN, -Prod.exists, pi_ti, Op.lookupswitch.offset, EvU_at d155_0, EvU_at d155_1, EvU_at d155_2, EvU_at d155_3, EvU_at d155_5, EvU_at d155_8, EvU_at d155_9, EvU_at d155_12, EvU_at d155_13, EvU_at d155_14, EvU_at d155_17, EvU_at d155_18, EvU_at d155_19, EvU_at d155_20, EvU_at d155_23, EvU_at d155_26, Z155]
  refine l_aside hL 18 0 A _ rfl (fun _ => rfl) ?_ ?_ ?_
  · simp [nl, cat_i, cat_r]
  · simp [lget, cat_i, cat_r]
  · simp [lget, cat_i, cat_r]
set_option maxRecDepth 20000 in
theorem l_tback (hL : Lay sh gr) {st : Nat → Int} : ∀ (n k : Nat) (A : Nat → Nat → Int) (ls : Lc), k + n = 18 → (∀ j, A 209 j = st j) → nl ls = true → lget ls 0 = some (.ref 199) → lget ls 1 = some (.int (oi (k : Int))) →
    (Ev (157, 2, ls, [], (sh, oA A, gl, gr), sl) r ↔ r = (.inl none, (sh, oA (fillR A 208 k 18 st), gl, gr), sl)) := by
  intro n
  induction n with
  | zero =>
    intro k A ls hn hs g g0 g1
    obtain rfl : k = 18 := by omega
    rw [fillR_0]
    have e0 : sb ((18 : Nat) : Int) := ⟨by omega, by omega⟩
    have e1 : (18 : Int) ≤ ((18 : Nat) : Int) := by omega
    rw [EvU_iff (fun _ => false) 40]
    simp (maxDischargeDepth := 9) [EvS, stI, enI, caI, s_push, s_iload, s_aload, s_istore, s_astore, s_iinc, s_bin, s_div, s_i2l, s_lcmp, s_dup, s_dup2, s_pop, s_tab, s_look, s_get, s_put, s_iald, s_lald, s_aald, s_iast, s_last, s_aast, s_len, s_newa, s_new, s_thr, s_min, s_copy, s_obj, s_call, s_iret, s_aret, s_vret, go, ldI, lget_lput, nl_I, nl_R, lv_args, wsum, va_rf, hnd, cvr, cat_i, cat_r, cat_l, oi_of, oi_add, oi_sub, oA_ap, oA_u2, pi_lt, pi_le, pi_eq, pi_eq0, pi_lt0, pi_le0, pi_gt0, pi_ge0, pi_cl, sb_lit, fv4, isB01, nlt0, EvU_0, wO_ne, wL_ne, wC_ne, wN_ne, pO_ne, pU_ne, CN, LN, -Prod.exists, pi_ti, Op.lookupswitch.offset, EvU_at d157_0, EvU_at d157_1, EvU_at d157_2, EvU_at d157_3, EvU_at d157_5, EvU_at d157_8, EvU_at d157_9, EvU_at d157_12, EvU_at d157_13, EvU_at d157_14, EvU_at d157_17, EvU_at d157_18, EvU_at d157_19, EvU_at d157_20, EvU_at d157_23, EvU_at d157_26, Z157, LyS hL, LyG hL, g, g0, g1, e0, e1]
  | succ n ih =>
    intro k A ls hn hs g g0 g1
    have e0 : sb (k : Int) := ⟨by omega, by omega⟩
    have e1 : ¬ (18 : Int) ≤ (k : Int) := by omega
    have e2 : ¬ 18 ≤ k := by omega
    have e3 := hs k
    rw [EvU_iff (fun _ => false) 1]
    simp (maxDischargeDepth := 9) [EvS, stI, enI, caI, s_push, s_iload, s_aload, s_istore, s_astore, s_iinc, s_bin, s_div, s_i2l, s_lcmp, s_dup, s_dup2, s_pop, s_tab, s_look, s_get, s_put, s_iald, s_lald, s_aald, s_iast, s_last, s_aast, s_len, s_newa, s_new, s_thr, s_min, s_copy, s_obj, s_call, s_iret, s_aret, s_vret, go, ldI, lget_lput, nl_I, nl_R, lv_args, wsum, va_rf, hnd, cvr, cat_i, cat_r, cat_l, oi_of, oi_add, oi_sub, oA_ap, oA_u2, pi_lt, pi_le, pi_eq, pi_eq0, pi_lt0, pi_le0, pi_gt0, pi_ge0, pi_cl, sb_lit, fv4, isB01, nlt0, EvU_0, wO_ne, wL_ne, wC_ne, wN_ne, pO_ne, pU_ne, CN, LN, -Prod.exists, pi_ti, Op.lookupswitch.offset, EvU_at d157_0, EvU_at d157_1, EvU_at d157_2, EvU_at d157_3, EvU_at d157_5, EvU_at d157_8, EvU_at d157_9, EvU_at d157_12, EvU_at d157_13, EvU_at d157_14, EvU_at d157_17, EvU_at d157_18, EvU_at d157_19, EvU_at d157_20, EvU_at d157_23, EvU_at d157_26, Z157, LyS hL, LyG hL, g, g0, g1]
    rw [EvU_iff (fun p => p == 2) 60, ← fillR_s A st (show k < 18 by omega)]
    simp (maxDischargeDepth := 9) [EvS, stI, enI, caI, s_push, s_iload, s_aload, s_istore, s_astore, s_iinc, s_bin, s_div, s_i2l, s_lcmp, s_dup, s_dup2, s_pop, s_tab, s_look, s_get, s_put, s_iald, s_lald, s_aald, s_iast, s_last, s_aast, s_len, s_newa, s_new, s_thr, s_min, s_copy, s_obj, s_call, s_iret, s_aret, s_vret, go, ldI, lget_lput, nl_I, nl_R, lv_args, wsum, va_rf, hnd, cvr, cat_i, cat_r, cat_l, oi_of, oi_add, oi_sub, oA_ap, oA_u2, pi_lt, pi_le, pi_eq, pi_eq0, pi_lt0, pi_le0, pi_gt0, pi_ge0, pi_cl, sb_lit, fv4, isB01, nlt0, EvU_0, wO_ne, wL_ne, wC_ne, wN_ne, pO_ne, pU_ne, CN, LN, -Prod.exists, pi_ti, Op.lookupswitch.offset, EvU_at d157_0, EvU_at d157_1, EvU_at d157_2, EvU_at d157_3, EvU_at d157_5, EvU_at d157_8, EvU_at d157_9, EvU_at d157_12, EvU_at d157_13, EvU_at d157_14, EvU_at d157_17, EvU_at d157_18, EvU_at d157_19, EvU_at d157_20, EvU_at d157_23, EvU_at d157_26, Z157, LyS hL, LyG hL, g, g0, g1, e0, e1, e2, e3]
    refine ih (k + 1) _ _ (by omega) ?_ ?_ ?_ ?_
    · intro j
      rw [uk_ne (by omega)]
      exact hs j
    · simp (maxDischargeDepth := 9) [lget_lput, nl_I, nl_R, g]
    · simp (maxDischargeDepth := 9) [lget_lput, nl_I, nl_R, g, g0]
    · simp (maxDischargeDepth := 9) [lget_lput, nl_I, nl_R, g]
set_option maxRecDepth 20000 in
theorem r_tback (hL : Lay sh gr) : Ev (157, 0, [(0, .ref 199)], [], (sh, oA A, gl, gr), sl) r ↔ r = (.inl none, (sh, oA (fillR A 208 0 18 (fun j => A 209 j)), gl, gr), sl) := by
  rw [EvU_iff (fun p => p == 2) 20]
  simp [EvS, stI, enI, caI, s_push, s_iload, s_aload, s_istore, s_astore, s_iinc, s_bin, s_div, s_i2l, s_lcmp, s_dup, s_dup2, s_pop, s_tab, s_look, s_get, s_put, s_iald, s_lald, s_aald, s_iast, s_last, s_aast, s_len, s_newa, s_new, s_thr, s_min, s_copy, s_obj, s_call, s_iret, s_aret, s_vret, go, ldI, lget, lput, lv_args, wsum, va_rf, hnd, cvr, cat_i, cat_r, cat_l, oi_of, oi_add, oi_sub, oA_ap, oA_u2, pi_lt, pi_le, pi_eq, pi_eq0, pi_lt0, pi_le0, pi_gt0, pi_ge0, pi_cl, sb_lit, fv4, isB01, nlt0, EvU_0, wO_ne, wL_ne, wC_ne, wN_ne, pO_ne, pU_ne, CN, LN, -Prod.exists, pi_ti, Op.lookupswitch.offset, EvU_at d157_0, EvU_at d157_1, EvU_at d157_2, EvU_at d157_3, EvU_at d157_5, EvU_at d157_8, EvU_at d157_9, EvU_at d157_12, EvU_at d157_13, EvU_at d157_14, EvU_at d157_17, EvU_at d157_18, EvU_at d157_19, EvU_at d157_20, EvU_at d157_23, EvU_at d157_26, Z157]
  refine l_tback hL 18 0 A _ rfl (fun _ => rfl) ?_ ?_ ?_
  · simp [nl, cat_i, cat_r]
  · simp [lget, cat_i, cat_r]
  · simp [lget, cat_i, cat_r]
def isF (A : Nat → Nat → Int) : Nat → Nat → Int → Int
  | 0, _, x => x
  | n + 1, k, x => isF A n (k + 1) (if x = 1 ∧ A 209 k = A 208 k then 1 else 0)
set_option maxRecDepth 20000 in
theorem l_isA (hA : ∀ k j, sb (A k j)) (hL : Lay sh gr) : ∀ (n k : Nat) (x : Int) (ls : Lc), k + n = 18 → (x = 0 ∨ x = 1) → nl ls = true → lget ls 0 = some (.ref 199) → lget ls 1 = some (.int (oi x)) → lget ls 2 = some (.int (oi (k : Int))) →
    (Ev (156, 4, ls, [], (sh, oA A, gl, gr), sl) r ↔ r = (.inl (some (.int (oi (isF A n k x)))), (sh, oA A, gl, gr), sl)) := by
  intro n
  induction n with
  | zero =>
    intro k x ls hn hx g g0 g1 g2
    obtain rfl : k = 18 := by omega
    have e0 : sb ((18 : Nat) : Int) := ⟨by omega, by omega⟩
    have e1 : (18 : Int) ≤ ((18 : Nat) : Int) := by omega
    have e2 := isB_oi hx
    rw [EvU_iff (fun _ => false) 40]
    simp (maxDischargeDepth := 9) [EvS, stI, enI, caI, s_push, s_iload, s_aload, s_istore, s_astore, s_iinc, s_bin, s_div, s_i2l, s_lcmp, s_dup, s_dup2, s_pop, s_tab, s_look, s_get, s_put, s_iald, s_lald, s_aald, s_iast, s_last, s_aast, s_len, s_newa, s_new, s_thr, s_min, s_copy, s_obj, s_call, s_iret, s_aret, s_vret, go, ldI, lget_lput, nl_I, nl_R, lv_args, wsum, va_rf, hnd, cvr, cat_i, cat_r, cat_l, oi_of, oi_add, oi_sub, oA_ap, oA_u2, pi_lt, pi_le, pi_eq, pi_eq0, pi_lt0, pi_le0, pi_gt0, pi_ge0, pi_cl, sb_lit, fv4, isB01, nlt0, EvU_0, wO_ne, wL_ne, wC_ne, wN_ne, pO_ne, pU_ne, CN, LN, -Prod.exists, pi_ti, Op.lookupswitch.offset, EvU_at d156_0, EvU_at d156_1, EvU_at d156_2, EvU_at d156_3, EvU_at d156_4, EvU_at d156_5, EvU_at d156_7, EvU_at d156_10, EvU_at d156_11, EvU_at d156_14, EvU_at d156_15, EvU_at d156_18, EvU_at d156_19, EvU_at d156_20, EvU_at d156_21, EvU_at d156_24, EvU_at d156_25, EvU_at d156_26, EvU_at d156_29, EvU_at d156_30, EvU_at d156_33, EvU_at d156_34, EvU_at d156_35, EvU_at d156_38, EvU_at d156_41, EvU_at d156_42, Z156, LyS hL, LyG hL, g, g0, g1, g2, e0, e1, e2, isF]
  | succ n ih =>
    intro k x ls hn hx g g0 g1 g2
    have e0 : sb (k : Int) := ⟨by omega, by omega⟩
    have e1 : ¬ (18 : Int) ≤ (k : Int) := by omega
    have e2 : ¬ 18 ≤ k := by omega
    have fin : ∀ y : Int, (y = 0 ∨ y = 1) → (Ev (156, 4, lput (lput ls 1 (.int (oi y))) 2 (.int (oi ((k : Int) + 1))), [], (sh, oA A, gl, gr), sl) r ↔ r = (.inl (some (.int (oi (isF A n (k + 1) y)))), (sh, oA A, gl, gr), sl)) := by
      intro y hy
      refine ih (k + 1) y _ (by omega) hy ?_ ?_ ?_ ?_
      · simp (maxDischargeDepth := 9) [lget_lput, nl_I, nl_R, g]
      · simp (maxDischargeDepth := 9) [lget_lput, nl_I, nl_R, g, g0]
      · simp (maxDischargeDepth := 9) [lget_lput, nl_I, nl_R, g]
      · simp (maxDischargeDepth := 9) [lget_lput, nl_I, nl_R, g]
    have f0 := fin 0 (Or.inl rfl)
    have f1 := fin 1 (Or.inr rfl)
    rw [EvU_iff (fun _ => false) 1]
    simp (maxDischargeDepth := 9) [EvS, stI, enI, caI, s_push, s_iload, s_aload, s_istore, s_astore, s_iinc, s_bin, s_div, s_i2l, s_lcmp, s_dup, s_dup2, s_pop, s_tab, s_look, s_get, s_put, s_iald, s_lald, s_aald, s_iast, s_last, s_aast, s_len, s_newa, s_new, s_thr, s_min, s_copy, s_obj, s_call, s_iret, s_aret, s_vret, go, ldI, lget_lput, nl_I, nl_R, lv_args, wsum, va_rf, hnd, cvr, cat_i, cat_r, cat_l, oi_of, oi_add, oi_sub, oA_ap, oA_u2, pi_lt, pi_le, pi_eq, pi_eq0, pi_lt0, pi_le0, pi_gt0, pi_ge0, pi_cl, sb_lit, fv4, isB01, nlt0, EvU_0, wO_ne, wL_ne, wC_ne, wN_ne, pO_ne, pU_ne, CN, LN, -Prod.exists, pi_ti, Op.lookupswitch.offset, EvU_at d156_0, EvU_at d156_1, EvU_at d156_2, EvU_at d156_3, EvU_at d156_4, EvU_at d156_5, EvU_at d156_7, EvU_at d156_10, EvU_at d156_11, EvU_at d156_14, EvU_at d156_15, EvU_at d156_18, EvU_at d156_19, EvU_at d156_20, EvU_at d156_21, EvU_at d156_24, EvU_at d156_25, EvU_at d156_26, EvU_at d156_29, EvU_at d156_30, EvU_at d156_33, EvU_at d156_34, EvU_at d156_35, EvU_at d156_38, EvU_at d156_41, EvU_at d156_42, Z156, LyS hL, LyG hL, g, g0, g1, g2]
    rw [EvU_iff (fun p => p == 4) 60, isF]
    rcases hx with rfl | rfl
    · simp (maxDischargeDepth := 9) [EvS, stI, enI, caI, s_push, s_iload, s_aload, s_istore, s_astore, s_iinc, s_bin, s_div, s_i2l, s_lcmp, s_dup, s_dup2, s_pop, s_tab, s_look, s_get, s_put, s_iald, s_lald, s_aald, s_iast, s_last, s_aast, s_len, s_newa, s_new, s_thr, s_min, s_copy, s_obj, s_call, s_iret, s_aret, s_vret, go, ldI, lget_lput, nl_I, nl_R, lv_args, wsum, va_rf, hnd, cvr, cat_i, cat_r, cat_l, oi_of, oi_add, oi_sub, oA_ap, oA_u2, pi_lt, pi_le, pi_eq, pi_eq0, pi_lt0, pi_le0, pi_gt0, pi_ge0, pi_cl, sb_lit, fv4, isB01, nlt0, EvU_0, wO_ne, wL_ne, wC_ne, wN_ne, pO_ne, pU_ne, CN, LN, -Prod.exists, pi_ti, Op.lookupswitch.offset, EvU_at d156_0, EvU_at d156_1, EvU_at d156_2, EvU_at d156_3, EvU_at d156_4, EvU_at d156_5, EvU_at d156_7, EvU_at d156_10, EvU_at d156_11, EvU_at d156_14, EvU_at d156_15, EvU_at d156_18, EvU_at d156_19, EvU_at d156_20, EvU_at d156_21, EvU_at d156_24, EvU_at d156_25, EvU_at d156_26, EvU_at d156_29, EvU_at d156_30, EvU_at d156_33, EvU_at d156_34, EvU_at d156_35, EvU_at d156_38, EvU_at d156_41, EvU_at d156_42, Z156, LyS hL, LyG hL, hA, g, g0, g1, g2, e0, e1, e2, f0]
    · by_cases d : A 209 k = A 208 k
      · simp (maxDischargeDepth := 9) [EvS, stI, enI, caI, s_push, s_iload, s_aload, s_istore, s_astore, s_iinc, s_bin, s_div, s_i2l, s_lcmp, s_dup, s_dup2, s_pop, s_tab, s_look, s_get, s_put, s_iald, s_lald, s_aald, s_iast, s_last, s_aast, s_len, s_newa, s_new, s_thr, s_min, s_copy, s_obj, s_call, s_iret, s_aret, s_vret, go, ldI, lget_lput, nl_I, nl_R, lv_args, wsum, va_rf, hnd, cvr, cat_i, cat_r, cat_l, oi_of, oi_add, oi_sub, oA_ap, oA_u2, pi_lt, pi_le, pi_eq, pi_eq0, pi_lt0, pi_le0, pi_gt0, pi_ge0, pi_cl, sb_lit, fv4, isB01, nlt0, EvU_0, wO_ne, wL_ne, wC_ne, wN_ne, pO_ne, pU_ne, CN, LN, -Prod.exists, pi_ti, Op.lookupswitch.offset, EvU_at d156_0, EvU_at d156_1, EvU_at d156_2, EvU_at d156_3, EvU_at d156_4, EvU_at d156_5, EvU_at d156_7, EvU_at d156_10, EvU_at d156_11, EvU_at d156_14, EvU_at d156_15, EvU_at d156_18, EvU_at d156_19, EvU_at d156_20, EvU_at d156_21, EvU_at d156_24, EvU_at d156_25, EvU_at d156_26, EvU_at d156_29, EvU_at d156_30, EvU_at d156_33, EvU_at d156_34, EvU_at d156_35, EvU_at d156_38, EvU_at d156_41, EvU_at d156_42, Z156, LyS hL, LyG hL, hA, g, g0, g1, g2, e0, e1, e2, d, f1]
      · simp (maxDischargeDepth := 9) [EvS, stI, enI, caI, s_push, s_iload, s_aload, s_istore, s_astore, s_iinc, s_bin, s_div, s_i2l, s_lcmp, s_dup, s_dup2, s_pop, s_tab, s_look, s_get, s_put, s_iald, s_lald, s_aald, s_iast, s_last, s_aast, s_len, s_newa, s_new, s_thr, s_min, s_copy, s_obj, s_call, s_iret, s_aret, s_vret, go, ldI, lget_lput, nl_I, nl_R, lv_args, wsum, va_rf, hnd, cvr, cat_i, cat_r, cat_l, oi_of, oi_add, oi_sub, oA_ap, oA_u2, pi_lt, pi_le, pi_eq, pi_eq0, pi_lt0, pi_le0, pi_gt0, pi_ge0, pi_cl, sb_lit, fv4, isB01, nlt0, EvU_0, wO_ne, wL_ne, wC_ne, wN_ne, pO_ne, pU_ne, CN, LN, -Prod.exists, pi_ti, Op.lookupswitch.offset, EvU_at d156_0, EvU_at d156_1, EvU_at d156_2, EvU_at d156_3, EvU_at d156_4, EvU_at d156_5, EvU_at d156_7, EvU_at d156_10, EvU_at d156_11, EvU_at d156_14, EvU_at d156_15, EvU_at d156_18, EvU_at d156_19, EvU_at d156_20, EvU_at d156_21, EvU_at d156_24, EvU_at d156_25, EvU_at d156_26, EvU_at d156_29, EvU_at d156_30, EvU_at d156_33, EvU_at d156_34, EvU_at d156_35, EvU_at d156_38, EvU_at d156_41, EvU_at d156_42, Z156, LyS hL, LyG hL, hA, g, g0, g1, g2, e0, e1, e2, d, f0]
set_option maxRecDepth 20000 in
theorem r_isA (hA : ∀ k j, sb (A k j)) (hL : Lay sh gr) : Ev (156, 0, [(0, .ref 199)], [], (sh, oA A, gl, gr), sl) r ↔ r = (.inl (some (.int (oi (isF A 18 0 1)))), (sh, oA A, gl, gr), sl) := by
  rw [EvU_iff (fun p => p == 4) 20]
  simp [EvS, stI, enI, caI, s_push, s_iload, s_aload, s_istore, s_astore, s_iinc, s_bin, s_div, s_i2l, s_lcmp, s_dup, s_dup2, s_pop, s_tab, s_look, s_get, s_put, s_iald, s_lald, s_aald, s_iast, s_last, s_aast, s_len, s_newa, s_new, s_thr, s_min, s_copy, s_obj, s_call, s_iret, s_aret, s_vret, go, ldI, lget, lput, lv_args, wsum, va_rf, hnd, cvr, cat_i, cat_r, cat_l, oi_of, oi_add, oi_sub, oA_ap, oA_u2, pi_lt, pi_le, pi_eq, pi_eq0, pi_lt0, pi_le0, pi_gt0, pi_ge0, pi_cl, sb_lit, fv4, isB01, nlt0, EvU_0, wO_ne, wL_ne, wC_ne, wN_ne, pO_ne, pU_ne, CN, LN, -Prod.exists, pi_ti, Op.lookupswitch.offset, EvU_at d156_0, EvU_at d156_1, EvU_at d156_2, EvU_at d156_3, EvU_at d156_4, EvU_at d156_5, EvU_at d156_7, EvU_at d156_10, EvU_at d156_11, EvU_at d156_14, EvU_at d156_15, EvU_at d156_18, EvU_at d156_19, EvU_at d156_20, EvU_at d156_21, EvU_at d156_24, EvU_at d156_25, EvU_at d156_26, EvU_at d156_29, EvU_at d156_30, EvU_at d156_33, EvU_at d156_34, EvU_at d156_35, EvU_at d156_38, EvU_at d156_41, EvU_at d156_42, Z156]
  refine l_isA hA hL 18 0 1 _ rfl (Or.inr rfl) ?_ ?_ ?_ ?_
  · simp [nl, cat_i, cat_r]
  · simp [lget, cat_i, cat_r]
  · simp [lget, cat_i, cat_r]
  · simp [lget, cat_i, cat_r]
theorem isF_0 : ∀ n k : Nat, isF A n k 0 = 0 := by
  intro n
  induction n with
  | zero => exact fun k => rfl
  | succ n ih =>
    intro k
    rw [isF, if_neg (fun e => by omega)]
    exact ih _
/-- what was put aside -/
abbrev RK (A B : Nat → Nat → Int) : Prop := (∀ s, s < 6 → A 209 s = B 197 s) ∧ ∀ k, k < 12 → A 209 (6 + k) = B 198 k
theorem isF_P (h : RP A B) (hk : RK A B) : ∀ n k : Nat, k + n = 12 → isF A n (6 + k) 1 = likeP B n k := by
  intro n
  induction n with
  | zero => exact fun k _ => rfl
  | succ n ih =>
    intro k hn
    rw [isF, likeP, hk.2 k (by omega), h.pl k (by omega)]
    by_cases d : B 15 k = B 198 k
    · rw [if_pos d, if_pos ⟨rfl, d.symm⟩]
      exact ih (k + 1) (by omega)
    · rw [if_neg d, if_neg (fun e => d e.2.symm), isF_0]
theorem isF_S (h : RP A B) (hk : RK A B) : ∀ n s : Nat, s + n = 6 → isF A (n + 12) s 1 = likeS B n s := by
  intro n
  induction n with
  | zero =>
    intro s hn
    obtain rfl : s = 6 := by omega
    exact isF_P h hk 12 0 rfl
  | succ n ih =>
    intro s hn
    rw [show n + 1 + 12 = n + 12 + 1 by omega, isF, likeS, hk.1 s (by omega), h.pos s (by omega)]
    by_cases d : B 14 s = B 197 s
    · rw [if_pos d, if_pos ⟨rfl, d.symm⟩]
      exact ih (s + 1) (by omega)
    · rw [if_neg d, if_neg (fun e => d e.2.symm), isF_0]
theorem RK.st (hk : RK A B) : RK (stR A B 0) (stF B) := by
  refine ⟨fun s hs => ?_, fun k h => ?_⟩
  · rw [stR_ne _ _ _ (by omega) (by omega), stF_ne _ (by omega) (by omega)]
    exact hk.1 s hs
  · rw [stR_ne _ _ _ (by omega) (by omega), stF_ne _ (by omega) (by omega)]
    exact hk.2 k h
def perR : Nat → (Nat → Nat → Int) → (Nat → Nat → Int) → Nat → Nat → Int
  | 0, A, _ => A
  | n + 1, A, B => if likeS (stF B) 6 0 = 1 then stR A B 0 else perR n (stR A B 0) (stF B)
theorem perR_ne : ∀ (n : Nat) (A B : Nat → Nat → Int) {a : Nat}, a ≠ 208 → a ≠ 210 → ∀ b, perR n A B a b = A a b := by
  intro n
  induction n with
  | zero => exact fun A B a _ _ b => rfl
  | succ n ih =>
    intro A B a h1 h2 b
    rw [perR]
    split
    · exact stR_ne A B 0 h1 h2 b
    · rw [ih _ _ h1 h2, stR_ne A B 0 h1 h2]
set_option maxRecDepth 20000 in
theorem l_per (hL : Lay sh gr) {x : Nat} (hx : x ≤ 5000) : ∀ (n t : Nat) (A B : Nat → Nat → Int) (ls : Lc), t + n = x → (∀ k j, sb (A k j)) → RW A B → RK A B → nl ls = true → lget ls 0 = some (.ref 199) → lget ls 1 = some (.int (oi (x : Int))) → lget ls 2 = some (.int (oi (t : Int))) → lget ls 3 = some (.int (oi 0)) →
    (Ev (154, 38, ls, [], (sh, oA A, gl, gr), sl) r ↔ r = (.inl (some (.int (oi (tillF n (t + 1) B).1))), (sh, oA (fillR (perR n A B) 208 0 18 (fun j => A 209 j)), gl, gr), sl)) := by
  have f0 : sb (x : Int) := ⟨by omega, by omega⟩
  intro n
  induction n with
  | zero =>
    intro t A B ls hn hA h hk g g0 g1 g2 g3
    have e0 : sb (t : Int) := ⟨by omega, by omega⟩
    have e1 : (x : Int) ≤ (t : Int) := by omega
    have e1b : x ≤ t := by omega
    have tb := fun (sl : Nat) (r : Out) => r_tback (A := A) (gl := gl) (sl := sl) (r := r) hL
    rw [EvU_iff (fun _ => false) 40]
    simp (maxDischargeDepth := 9) [EvS, stI, enI, caI, s_push, s_iload, s_aload, s_istore, s_astore, s_iinc, s_bin, s_div, s_i2l, s_lcmp, s_dup, s_dup2, s_pop, s_tab, s_look, s_get, s_put, s_iald, s_lald, s_aald, s_iast, s_last, s_aast, s_len, s_newa, s_new, s_thr, s_min, s_copy, s_obj, s_call, s_iret, s_aret, s_vret, go, ldI, lget_lput, nl_I, nl_R, lv_args, wsum, va_rf, hnd, cvr, cat_i, cat_r, cat_l, oi_of, oi_add, oi_sub, oA_ap, oA_u2, pi_lt, pi_le, pi_eq, pi_eq0, pi_lt0, pi_le0, pi_gt0, pi_ge0, pi_cl, sb_lit, fv4, isB01, nlt0, EvU_0, wO_ne, wL_ne, wC_ne, wN_ne, pO_ne, pU_ne, CN, LN, -Prod.exists, pi_ti, Op.lookupswitch.offset, EvU_at d154_0, EvU_at d154_1, EvU_at d154_2, EvU_at d154_3, EvU_at d154_6, EvU_at d154_9, EvU_at d154_10, EvU_at d154_13, EvU_at d154_16, EvU_at d154_17, EvU_at d154_20, EvU_at d154_21, EvU_at d154_22, EvU_at d154_25, EvU_at d154_28, EvU_at d154_29, EvU_at d154_30, EvU_at d154_31, EvU_at d154_34, EvU_at d154_35, EvU_at d154_36, EvU_at d154_37, EvU_at d154_38, EvU_at d154_39, EvU_at d154_40, EvU_at d154_43, EvU_at d154_44, EvU_at d154_47, EvU_at d154_48, EvU_at d154_51, EvU_at d154_54, EvU_at d154_55, EvU_at d154_58, EvU_at d154_59, EvU_at d154_62, EvU_at d154_63, EvU_at d154_66, EvU_at d154_67, EvU_at d154_70, EvU_at d154_71, EvU_at d154_74, EvU_at d154_75, Z154, Z157, LyS hL, LyG hL, hA, g, g0, g1, g2, g3, e0, e1, e1b, f0, tillF, perR, tb]
  | succ n ih =>
    intro t A B ls hn hA h hk g g0 g1 g2 g3
    have e0 : sb (t : Int) := ⟨by omega, by omega⟩
    have e1 : ¬ (x : Int) ≤ (t : Int) := by omega
    have e1b : ¬ x ≤ t := by omega
    have hA1 := sb_stR h hA
    have h1 := h.st
    have hk1 := hk.st
    have s1 := fun (sl : Nat) (r : Out) => r_step (gl := gl) (sl := sl) (r := r) hA hL h
    have s2 := fun (sl : Nat) (r : Out) => r_isA (gl := gl) (sl := sl) (r := r) hA1 hL
    rw [isF_S h1.P hk1 6 0 rfl] at s2
    have e9 : ∀ j, stR A B 0 209 j = A 209 j := fun j => stR_ne A B 0 (by omega) (by omega) j
    rw [EvU_iff (fun _ => false) 1]
    simp (maxDischargeDepth := 9) [EvS, stI, enI, caI, s_push, s_iload, s_aload, s_istore, s_astore, s_iinc, s_bin, s_div, s_i2l, s_lcmp, s_dup, s_dup2, s_pop, s_tab, s_look, s_get, s_put, s_iald, s_lald, s_aald, s_iast, s_last, s_aast, s_len, s_newa, s_new, s_thr, s_min, s_copy, s_obj, s_call, s_iret, s_aret, s_vret, go, ldI, lget_lput, nl_I, nl_R, lv_args, wsum, va_rf, hnd, cvr, cat_i, cat_r, cat_l, oi_of, oi_add, oi_sub, oA_ap, oA_u2, pi_lt, pi_le, pi_eq, pi_eq0, pi_lt0, pi_le0, pi_gt0, pi_ge0, pi_cl, sb_lit, fv4, isB01, nlt0, EvU_0, wO_ne, wL_ne, wC_ne, wN_ne, pO_ne, pU_ne, CN, LN, -Prod.exists, pi_ti, Op.lookupswitch.offset, EvU_at d154_0, EvU_at d154_1, EvU_at d154_2, EvU_at d154_3, EvU_at d154_6, EvU_at d154_9, EvU_at d154_10, EvU_at d154_13, EvU_at d154_16, EvU_at d154_17, EvU_at d154_20, EvU_at d154_21, EvU_at d154_22, EvU_at d154_25, EvU_at d154_28, EvU_at d154_29, EvU_at d154_30, EvU_at d154_31, EvU_at d154_34, EvU_at d154_35, EvU_at d154_36, EvU_at d154_37, EvU_at d154_38, EvU_at d154_39, EvU_at d154_40, EvU_at d154_43, EvU_at d154_44, EvU_at d154_47, EvU_at d154_48, EvU_at d154_51, EvU_at d154_54, EvU_at d154_55, EvU_at d154_58, EvU_at d154_59, EvU_at d154_62, EvU_at d154_63, EvU_at d154_66, EvU_at d154_67, EvU_at d154_70, EvU_at d154_71, EvU_at d154_74, EvU_at d154_75, Z154, LyS hL, LyG hL, hA, g, g0, g1, g2, g3]
    rw [EvU_iff (fun p => p == 38) 60, tillF, perR]
    rcases likeS01 (A := stF B) 6 0 with c | c
    · rw [c] at s2
      rw [c, if_neg (by omega), if_neg (by omega)]
      simp (maxDischargeDepth := 9) [EvS, stI, enI, caI, s_push, s_iload, s_aload, s_istore, s_astore, s_iinc, s_bin, s_div, s_i2l, s_lcmp, s_dup, s_dup2, s_pop, s_tab, s_look, s_get, s_put, s_iald, s_lald, s_aald, s_iast, s_last, s_aast, s_len, s_newa, s_new, s_thr, s_min, s_copy, s_obj, s_call, s_iret, s_aret, s_vret, go, ldI, lget_lput, nl_I, nl_R, lv_args, wsum, va_rf, hnd, cvr, cat_i, cat_r, cat_l, oi_of, oi_add, oi_sub, oA_ap, oA_u2, pi_lt, pi_le, pi_eq, pi_eq0, pi_lt0, pi_le0, pi_gt0, pi_ge0, pi_cl, sb_lit, fv4, isB01, nlt0, EvU_0, wO_ne, wL_ne, wC_ne, wN_ne, pO_ne, pU_ne, CN, LN, -Prod.exists, pi_ti, Op.lookupswitch.offset, EvU_at d154_0, EvU_at d154_1, EvU_at d154_2, EvU_at d154_3, EvU_at d154_6, EvU_at d154_9, EvU_at d154_10, EvU_at d154_13, EvU_at d154_16, EvU_at d154_17, EvU_at d154_20, EvU_at d154_21, EvU_at d154_22, EvU_at d154_25, EvU_at d154_28, EvU_at d154_29, EvU_at d154_30, EvU_at d154_31, EvU_at d154_34, EvU_at d154_35, EvU_at d154_36, EvU_at d154_37, EvU_at d154_38, EvU_at d154_39, EvU_at d154_40, EvU_at d154_43, EvU_at d154_44, EvU_at d154_47, EvU_at d154_48, EvU_at d154_51, EvU_at d154_54, EvU_at d154_55, EvU_at d154_58, EvU_at d154_59, EvU_at d154_62, EvU_at d154_63, EvU_at d154_66, EvU_at d154_67, EvU_at d154_70, EvU_at d154_71, EvU_at d154_74, EvU_at d154_75, Z154, Z138, Z156, LyS hL, LyG hL, hA, g, g0, g1, g2, g3, e0, e1, e1b, f0, s1, s2]
      have key := fun ls => ih (t + 1) (stR A B 0) (stF B) ls (by omega) hA1 h1 hk1
      simp only [e9] at key
      refine key _ ?_ ?_ ?_ ?_ ?_
      · simp (maxDischargeDepth := 9) [lget_lput, nl_I, nl_R, g]
      · simp (maxDischargeDepth := 9) [lget_lput, nl_I, nl_R, g, g0]
      · simp (maxDischargeDepth := 9) [lget_lput, nl_I, nl_R, g, g1]
      · simp (maxDischargeDepth := 9) [lget_lput, nl_I, nl_R, g]
      · simp (maxDischargeDepth := 9) [lget_lput, nl_I, nl_R, g]
    · rw [c] at s2
      rw [c, if_pos rfl, if_pos rfl]
      have fin : ∀ (ls : Lc), nl ls = true → lget ls 0 = some (.ref 199) → lget ls 1 = some (.int (oi (x : Int))) → lget ls 2 = some (.int (oi ((t : Int) + 1))) → lget ls 3 = some (.int (oi 1)) →
          (Ev (154, 38, ls, [], (sh, oA (stR A B 0), gl, gr), sl) r ↔ r = (.inl (some (.int (oi ((t : Int) + 1)))), (sh, oA (fillR (stR A B 0) 208 0 18 (fun j => A 209 j)), gl, gr), sl)) := by
        intro ls g g0 g1 g2 g3
        have tb := fun (sl : Nat) (r : Out) => r_tback (A := stR A B 0) (gl := gl) (sl := sl) (r := r) hL
        simp only [e9] at tb
        have q0 : sb ((t : Int) + 1) := ⟨by omega, by omega⟩
        rw [EvU_iff (fun _ => false) 40]
        by_cases d : (x : Int) ≤ (t : Int) + 1
        · have d' : x ≤ t + 1 := by omega
          simp (maxDischargeDepth := 9) [EvS, stI, enI, caI, s_push, s_iload, s_aload, s_istore, s_astore, s_iinc, s_bin, s_div, s_i2l, s_lcmp, s_dup, s_dup2, s_pop, s_tab, s_look, s_get, s_put, s_iald, s_lald, s_aald, s_iast, s_last, s_aast, s_len, s_newa, s_new, s_thr, s_min, s_copy, s_obj, s_call, s_iret, s_aret, s_vret, go, ldI, lget_lput, nl_I, nl_R, lv_args, wsum, va_rf, hnd, cvr, cat_i, cat_r, cat_l, oi_of, oi_add, oi_sub, oA_ap, oA_u2, pi_lt, pi_le, pi_eq, pi_eq0, pi_lt0, pi_le0, pi_gt0, pi_ge0, pi_cl, sb_lit, fv4, isB01, nlt0, EvU_0, wO_ne, wL_ne, wC_ne, wN_ne, pO_ne, pU_ne, CN, LN, -Prod.exists, pi_ti, Op.lookupswitch.offset, EvU_at d154_0, EvU_at d154_1, EvU_at d154_2, EvU_at d154_3, EvU_at d154_6, EvU_at d154_9, EvU_at d154_10, EvU_at d154_13, EvU_at d154_16, EvU_at d154_17, EvU_at d154_20, EvU_at d154_21, EvU_at d154_22, EvU_at d154_25, EvU_at d154_28, EvU_at d154_29, EvU_at d154_30, EvU_at d154_31, EvU_at d154_34, EvU_at d154_35, EvU_at d154_36, EvU_at d154_37, EvU_at d154_38, EvU_at d154_39, EvU_at d154_40, EvU_at d154_43, EvU_at d154_44, EvU_at d154_47, EvU_at d154_48, EvU_at d154_51, EvU_at d154_54, EvU_at d154_55, EvU_at d154_58, EvU_at d154_59, EvU_at d154_62, EvU_at d154_63, EvU_at d154_66, EvU_at d154_67, EvU_at d154_70, EvU_at d154_71, EvU_at d154_74, EvU_at d154_75, Z154, Z157, LyS hL, LyG hL, g, g0, g1, g2, g3, q0, f0, d, d', tb]
        · have d' : ¬ x ≤ t + 1 := by omega
          simp (maxDischargeDepth := 9) [EvS, stI, enI, caI, s_push, s_iload, s_aload, s_istore, s_astore, s_iinc, s_bin, s_div, s_i2l, s_lcmp, s_dup, s_dup2, s_pop, s_tab, s_look, s_get, s_put, s_iald, s_lald, s_aald, s_iast, s_last, s_aast, s_len, s_newa, s_new, s_thr, s_min, s_copy, s_obj, s_call, s_iret, s_aret, s_vret, go, ldI, lget_lput, nl_I, nl_R, lv_args, wsum, va_rf, hnd, cvr, cat_i, cat_r, cat_l, oi_of, oi_add, oi_sub, oA_ap, oA_u2, pi_lt, pi_le, pi_eq, pi_eq0, pi_lt0, pi_le0, pi_gt0, pi_ge0, pi_cl, sb_lit, fv4, isB01, nlt0, EvU_0, wO_ne, wL_ne, wC_ne, wN_ne, pO_ne, pU_ne, CN, LN, -Prod.exists, pi_ti, Op.lookupswitch.offset, EvU_at d154_0, EvU_at d154_1, EvU_at d154_2, EvU_at d154_3, EvU_at d154_6, EvU_at d154_9, EvU_at d154_10, EvU_at d154_13, EvU_at d154_16, EvU_at d154_17, EvU_at d154_20, EvU_at d154_21, EvU_at d154_22, EvU_at d154_25, EvU_at d154_28, EvU_at d154_29, EvU_at d154_30, EvU_at d154_31, EvU_at d154_34, EvU_at d154_35, EvU_at d154_36, EvU_at d154_37, EvU_at d154_38, EvU_at d154_39, EvU_at d154_40, EvU_at d154_43, EvU_at d154_44, EvU_at d154_47, EvU_at d154_48, EvU_at d154_51, EvU_at d154_54, EvU_at d154_55, EvU_at d154_58, EvU_at d154_59, EvU_at d154_62, EvU_at d154_63, EvU_at d154_66, EvU_at d154_67, EvU_at d154_70, EvU_at d154_71, EvU_at d154_74, EvU_at d154_75, Z154, Z157, LyS hL, LyG hL, g, g0, g1, g2, g3, q0, f0, d, d', tb]
      simp (maxDischargeDepth := 9) [EvS, stI, enI, caI, s_push, s_iload, s_aload, s_istore, s_astore, s_iinc, s_bin, s_div, s_i2l, s_lcmp, s_dup, s_dup2, s_pop, s_tab, s_look, s_get, s_put, s_iald, s_lald, s_aald, s_iast, s_last, s_aast, s_len, s_newa, s_new, s_thr, s_min, s_copy, s_obj, s_call, s_iret, s_aret, s_vret, go, ldI, lget_lput, nl_I, nl_R, lv_args, wsum, va_rf, hnd, cvr, cat_i, cat_r, cat_l, oi_of, oi_add, oi_sub, oA_ap, oA_u2, pi_lt, pi_le, pi_eq, pi_eq0, pi_lt0, pi_le0, pi_gt0, pi_ge0, pi_cl, sb_lit, fv4, isB01, nlt0, EvU_0, wO_ne, wL_ne, wC_ne, wN_ne, pO_ne, pU_ne, CN, LN, -Prod.exists, pi_ti, Op.lookupswitch.offset, EvU_at d154_0, EvU_at d154_1, EvU_at d154_2, EvU_at d154_3, EvU_at d154_6, EvU_at d154_9, EvU_at d154_10, EvU_at d154_13, EvU_at d154_16, EvU_at d154_17, EvU_at d154_20, EvU_at d154_21, EvU_at d154_22, EvU_at d154_25, EvU_at d154_28, EvU_at d154_29, EvU_at d154_30, EvU_at d154_31, EvU_at d154_34, EvU_at d154_35, EvU_at d154_36, EvU_at d154_37, EvU_at d154_38, EvU_at d154_39, EvU_at d154_40, EvU_at d154_43, EvU_at d154_44, EvU_at d154_47, EvU_at d154_48, EvU_at d154_51, EvU_at d154_54, EvU_at d154_55, EvU_at d154_58, EvU_at d154_59, EvU_at d154_62, EvU_at d154_63, EvU_at d154_66, EvU_at d154_67, EvU_at d154_70, EvU_at d154_71, EvU_at d154_74, EvU_at d154_75, Z154, Z138, Z156, LyS hL, LyG hL, hA, g, g0, g1, g2, g3, e0, e1, e1b, f0, s1, s2]
      refine fin _ ?_ ?_ ?_ ?_ ?_
      · simp (maxDischargeDepth := 9) [lget_lput, nl_I, nl_R, g]
      · simp (maxDischargeDepth := 9) [lget_lput, nl_I, nl_R, g, g0]
      · simp (maxDischargeDepth := 9) [lget_lput, nl_I, nl_R, g, g1]
      · simp (maxDischargeDepth := 9) [lget_lput, nl_I, nl_R, g]
      · simp (maxDischargeDepth := 9) [lget_lput, nl_I, nl_R, g]
def asideR (A : Nat → Nat → Int) : Nat → Nat → Int := fillR (u2 A 199 0 0) 209 0 18 (fun j => A 208 j)
theorem asideR_ne (A : Nat → Nat → Int) {a : Nat} (h1 : a ≠ 209) {b : Nat} (h2 : a = 199 → b ≠ 0) : asideR A a b = A a b := by
  unfold asideR fillR u2
  rw [if_neg h1]
  by_cases c : a = 199
  · rw [if_pos c, if_neg (h2 c)]
  · rw [if_neg c]
theorem asideR_9 (A : Nat → Nat → Int) {b : Nat} (hb : b < 18) : asideR A 209 b = A 208 b := by
  unfold asideR fillR
  rw [if_pos rfl, if_pos ⟨by omega, hb⟩]
theorem keepF_ne (B : Nat → Nat → Int) {a : Nat} (ha : a < 196) (b : Nat) : keepF B a b = B a b := by
  unfold keepF rowC
  rw [if_neg (by omega), if_neg (by omega)]
theorem RW.aside (h : RL A B) : RW (asideR A) (keepF B) := by
  refine ⟨(h.R.cg (fun b hb => asideR_ne A (by omega) (by omega)) (fun a b _ _ => asideR_ne A (by omega) (by omega))).cgB (fun a b h0 _ _ => keepF_ne B (by omega) b), ⟨fun s hs => ?_, fun k hk => ?_⟩, h.O.keep.M, h.O.keep.P⟩
  · rw [asideR_ne A (by omega) (by omega), keepF_ne B (by omega)]
    exact h.P.pos s hs
  · rw [asideR_ne A (by omega) (by omega), keepF_ne B (by omega)]
    exact h.P.pl k hk
theorem RK.aside (h : RL A B) : RK (asideR A) (keepF B) := by
  refine ⟨fun s hs => ?_, fun k hk => ?_⟩
  · rw [asideR_9 A (by omega), h.P.pos s hs]
    unfold keepF rowC
    rw [if_neg (by omega), if_pos rfl, if_pos hs]
  · rw [asideR_9 A (by omega), h.P.pl k hk]
    unfold keepF rowC
    rw [if_pos rfl, if_pos hk, if_neg (by omega)]
theorem sb_aside (hA : ∀ k j, sb (A k j)) : ∀ k j, sb (asideR A k j) := sb_fillR (sb_u2 hA ⟨by decide, by decide⟩ _ _) _ _ _ (fun j _ => hA _ _)
/-- and the stand is brought back -/
def bringR (A' A : Nat → Nat → Int) : Nat → Nat → Int := fillR A' 208 0 18 (fun j => asideR A 209 j)
set_option maxRecDepth 20000 in
theorem q_period (hA : ∀ k j, sb (A k j)) (hL : Lay sh gr) (h : RL A B) {x : Int} (hx : sb x) : Ev (154, 0, [(0, .ref 199), (1, .int (oi x))], [], (sh, oA A, gl, gr), sl) r ↔
    r = if ¬ (1 ≤ x ∧ x ≤ 5000) then (.inl (some (.int (oi 0))), (sh, oA (u2 A 199 0 1), gl, gr), sl) else if ¬ (B 74 2 = 0) then (.inl (some (.int (oi 0))), (sh, oA (u2 A 199 0 2), gl, gr), sl) else (.inl (some (.int (oi (tillF x.toNat 1 (keepF B)).1))), (sh, oA (bringR (perR x.toNat (asideR A) (keepF B)) A), gl, gr), sl) := by
  have xm := h.R.m
  have xo := h.G.op
  have xo2 : sb (B 74 2) := xo ▸ hA _ _
  have hm := h.O.m
  have n1 := r_within hx (show sb 1 from ⟨by decide, by decide⟩) (show sb 5000 from ⟨by decide, by decide⟩)
  by_cases c1 : 1 ≤ x ∧ x ≤ 5000
  · rw [show b1 (1 ≤ x ∧ x ≤ 5000) = 1 from if_pos c1] at n1
    rw [if_neg (fun e => e c1)]
    by_cases co : B 74 2 = 0
    · obtain ⟨n, rfl⟩ : ∃ n : Nat, x = (n : Int) := ⟨x.toNat, by omega⟩
      have as := fun (sl : Nat) (r : Out) => r_aside (A := u2 A 199 0 0) (gl := gl) (sl := sl) (r := r) hL
      have as2 : fillR (u2 A 199 0 0) 209 0 18 (fun j => u2 A 199 0 0 208 j) = asideR A := by
        unfold asideR
        congr 1
      rw [as2] at as
      have key := fun ls => l_per (gl := gl) (sl := sl) (r := r) hL (x := n) (by omega) n 0 (asideR A) (keepF B) ls (by omega) (sb_aside hA) (RW.aside h) (RK.aside h)
      rw [if_neg (fun e => e co), Int.toNat_natCast, EvU_iff (fun p => p == 38) 60]
      simp [EvS, stI, enI, caI, s_push, s_iload, s_aload, s_istore, s_astore, s_iinc, s_bin, s_div, s_i2l, s_lcmp, s_dup, s_dup2, s_pop, s_tab, s_look, s_get, s_put, s_iald, s_lald, s_aald, s_iast, s_last, s_aast, s_len, s_newa, s_new, s_thr, s_min, s_copy, s_obj, s_call, s_iret, s_aret, s_vret, go, ldI, lget, lput, lv_args, wsum, va_rf, hnd, cvr, cat_i, cat_r, cat_l, oi_of, oi_add, oi_sub, oA_ap, oA_u2, pi_lt, pi_le, pi_eq, pi_eq0, pi_lt0, pi_le0, pi_gt0, pi_ge0, pi_cl, sb_lit, fv4, isB01, nlt0, EvU_0, wO_ne, wL_ne, wC_ne, wN_ne, pO_ne, pU_ne, CN, LN, -Prod.exists, pi_ti, Op.lookupswitch.offset, EvU_at d154_0, EvU_at d154_1, EvU_at d154_2, EvU_at d154_3, EvU_at d154_6, EvU_at d154_9, EvU_at d154_10, EvU_at d154_13, EvU_at d154_16, EvU_at d154_17, EvU_at d154_20, EvU_at d154_21, EvU_at d154_22, EvU_at d154_25, EvU_at d154_28, EvU_at d154_29, EvU_at d154_30, EvU_at d154_31, EvU_at d154_34, EvU_at d154_35, EvU_at d154_36, EvU_at d154_37, EvU_at d154_38, EvU_at d154_39, EvU_at d154_40, EvU_at d154_43, EvU_at d154_44, EvU_at d154_47, EvU_at d154_48, EvU_at d154_51, EvU_at d154_54, EvU_at d154_55, EvU_at d154_58, EvU_at d154_59, EvU_at d154_62, EvU_at d154_63, EvU_at d154_66, EvU_at d154_67, EvU_at d154_70, EvU_at d154_71, EvU_at d154_74, EvU_at d154_75, Z154, Z117, LyS hL, LyG hL, hA, xm, xo, xo2, r_go hL, Z119, n1, hx, Z155, co, as]
      refine key _ ?_ ?_ ?_ ?_ ?_
      · simp [nl, cat_i, cat_r]
      · simp [lget, cat_i, cat_r]
      · simp [lget, cat_i, cat_r]
      · simp [lget, cat_i, cat_r]
      · simp [lget, cat_i, cat_r]
    · rw [EvU_iff (fun _ => false) 60]
      simp [EvS, stI, enI, caI, s_push, s_iload, s_aload, s_istore, s_astore, s_iinc, s_bin, s_div, s_i2l, s_lcmp, s_dup, s_dup2, s_pop, s_tab, s_look, s_get, s_put, s_iald, s_lald, s_aald, s_iast, s_last, s_aast, s_len, s_newa, s_new, s_thr, s_min, s_copy, s_obj, s_call, s_iret, s_aret, s_vret, go, ldI, lget, lput, lv_args, wsum, va_rf, hnd, cvr, cat_i, cat_r, cat_l, oi_of, oi_add, oi_sub, oA_ap, oA_u2, pi_lt, pi_le, pi_eq, pi_eq0, pi_lt0, pi_le0, pi_gt0, pi_ge0, pi_cl, sb_lit, fv4, isB01, nlt0, EvU_0, wO_ne, wL_ne, wC_ne, wN_ne, pO_ne, pU_ne, CN, LN, -Prod.exists, pi_ti, Op.lookupswitch.offset, EvU_at d154_0, EvU_at d154_1, EvU_at d154_2, EvU_at d154_3, EvU_at d154_6, EvU_at d154_9, EvU_at d154_10, EvU_at d154_13, EvU_at d154_16, EvU_at d154_17, EvU_at d154_20, EvU_at d154_21, EvU_at d154_22, EvU_at d154_25, EvU_at d154_28, EvU_at d154_29, EvU_at d154_30, EvU_at d154_31, EvU_at d154_34, EvU_at d154_35, EvU_at d154_36, EvU_at d154_37, EvU_at d154_38, EvU_at d154_39, EvU_at d154_40, EvU_at d154_43, EvU_at d154_44, EvU_at d154_47, EvU_at d154_48, EvU_at d154_51, EvU_at d154_54, EvU_at d154_55, EvU_at d154_58, EvU_at d154_59, EvU_at d154_62, EvU_at d154_63, EvU_at d154_66, EvU_at d154_67, EvU_at d154_70, EvU_at d154_71, EvU_at d154_74, EvU_at d154_75, Z154, Z117, LyS hL, LyG hL, hA, xm, xo, xo2, r_go hL, Z119, n1, hx, co]
  · rw [show b1 (1 ≤ x ∧ x ≤ 5000) = 0 from if_neg c1] at n1
    rw [if_pos c1, EvU_iff (fun _ => false) 60]
    by_cases co : B 74 2 = 0
    · simp [EvS, stI, enI, caI, s_push, s_iload, s_aload, s_istore, s_astore, s_iinc, s_bin, s_div, s_i2l, s_lcmp, s_dup, s_dup2, s_pop, s_tab, s_look, s_get, s_put, s_iald, s_lald, s_aald, s_iast, s_last, s_aast, s_len, s_newa, s_new, s_thr, s_min, s_copy, s_obj, s_call, s_iret, s_aret, s_vret, go, ldI, lget, lput, lv_args, wsum, va_rf, hnd, cvr, cat_i, cat_r, cat_l, oi_of, oi_add, oi_sub, oA_ap, oA_u2, pi_lt, pi_le, pi_eq, pi_eq0, pi_lt0, pi_le0, pi_gt0, pi_ge0, pi_cl, sb_lit, fv4, isB01, nlt0, EvU_0, wO_ne, wL_ne, wC_ne, wN_ne, pO_ne, pU_ne, CN, LN, -Prod.exists, pi_ti, Op.lookupswitch.offset, EvU_at d154_0, EvU_at d154_1, EvU_at d154_2, EvU_at d154_3, EvU_at d154_6, EvU_at d154_9, EvU_at d154_10, EvU_at d154_13, EvU_at d154_16, EvU_at d154_17, EvU_at d154_20, EvU_at d154_21, EvU_at d154_22, EvU_at d154_25, EvU_at d154_28, EvU_at d154_29, EvU_at d154_30, EvU_at d154_31, EvU_at d154_34, EvU_at d154_35, EvU_at d154_36, EvU_at d154_37, EvU_at d154_38, EvU_at d154_39, EvU_at d154_40, EvU_at d154_43, EvU_at d154_44, EvU_at d154_47, EvU_at d154_48, EvU_at d154_51, EvU_at d154_54, EvU_at d154_55, EvU_at d154_58, EvU_at d154_59, EvU_at d154_62, EvU_at d154_63, EvU_at d154_66, EvU_at d154_67, EvU_at d154_70, EvU_at d154_71, EvU_at d154_74, EvU_at d154_75, Z154, Z117, LyS hL, LyG hL, hA, xm, xo, xo2, r_go hL, Z119, n1, hx, co]
    · simp [EvS, stI, enI, caI, s_push, s_iload, s_aload, s_istore, s_astore, s_iinc, s_bin, s_div, s_i2l, s_lcmp, s_dup, s_dup2, s_pop, s_tab, s_look, s_get, s_put, s_iald, s_lald, s_aald, s_iast, s_last, s_aast, s_len, s_newa, s_new, s_thr, s_min, s_copy, s_obj, s_call, s_iret, s_aret, s_vret, go, ldI, lget, lput, lv_args, wsum, va_rf, hnd, cvr, cat_i, cat_r, cat_l, oi_of, oi_add, oi_sub, oA_ap, oA_u2, pi_lt, pi_le, pi_eq, pi_eq0, pi_lt0, pi_le0, pi_gt0, pi_ge0, pi_cl, sb_lit, fv4, isB01, nlt0, EvU_0, wO_ne, wL_ne, wC_ne, wN_ne, pO_ne, pU_ne, CN, LN, -Prod.exists, pi_ti, Op.lookupswitch.offset, EvU_at d154_0, EvU_at d154_1, EvU_at d154_2, EvU_at d154_3, EvU_at d154_6, EvU_at d154_9, EvU_at d154_10, EvU_at d154_13, EvU_at d154_16, EvU_at d154_17, EvU_at d154_20, EvU_at d154_21, EvU_at d154_22, EvU_at d154_25, EvU_at d154_28, EvU_at d154_29, EvU_at d154_30, EvU_at d154_31, EvU_at d154_34, EvU_at d154_35, EvU_at d154_36, EvU_at d154_37, EvU_at d154_38, EvU_at d154_39, EvU_at d154_40, EvU_at d154_43, EvU_at d154_44, EvU_at d154_47, EvU_at d154_48, EvU_at d154_51, EvU_at d154_54, EvU_at d154_55, EvU_at d154_58, EvU_at d154_59, EvU_at d154_62, EvU_at d154_63, EvU_at d154_66, EvU_at d154_67, EvU_at d154_70, EvU_at d154_71, EvU_at d154_74, EvU_at d154_75, Z154, Z117, LyS hL, LyG hL, hA, xm, xo, xo2, r_go hL, Z119, n1, hx, co]
def othR (i : Nat) : Nat → Nat → (Nat → Nat → Int) → (Nat → Nat → Int) → Nat → Nat → Int
  | 0, _, A, _ => A
  | n + 1, k, A, B => if sendF (stF B) (B (gK i) k) = B (gC i) k then othR i n (k + 1) (stR A B 0) (stF B) else stR A B 0
theorem othR_ne (i : Nat) : ∀ (n k : Nat) (A B : Nat → Nat → Int) {a : Nat}, a ≠ 208 → a ≠ 210 → ∀ b, othR i n k A B a b = A a b := by
  intro n
  induction n with
  | zero => exact fun k A B a _ _ b => rfl
  | succ n ih =>
    intro k A B a h1 h2 b
    rw [othR]
    split
    · rw [ih _ _ _ h1 h2, stR_ne A B 0 h1 h2]
    · exact stR_ne A B 0 h1 h2 b
/-- a message's rows -/
abbrev RX (i : Nat) (A B : Nat → Nat → Int) : Prop := A 212 i = B (gO i) 3 ∧ (0 ≤ B (gO i) 3 ∧ B (gO i) 3 ≤ 60) ∧ ∀ j : Nat, (j : Int) < B (gO i) 3 → A 214 (60 * i + j) = B (gK i) j ∧ A 215 (60 * i + j) = B (gC i) j ∧ 0 ≤ B (gK i) j ∧ B (gK i) j < B 2 9
theorem RX.st {i : Nat} (h : RX i A B) : RX i (stR A B 0) (stF B) := by
  have e1 : ∀ b, stF B (gO i) b = B (gO i) b := fun b => stF_ne _ (by unfold gO; omega) (by unfold gO; omega) b
  have e2 : ∀ b, stF B (gK i) b = B (gK i) b := fun b => stF_ne _ (by unfold gK; omega) (by unfold gK; omega) b
  have e3 : ∀ b, stF B (gC i) b = B (gC i) b := fun b => stF_ne _ (by unfold gC; omega) (by unfold gC; omega) b
  refine ⟨?_, ?_, fun j hj => ?_⟩
  · rw [stR_ne _ _ _ (by omega) (by omega), e1]
    exact h.1
  · rw [e1]
    exact h.2.1
  · rw [e1] at hj
    rw [stR_ne _ _ _ (by omega) (by omega), stR_ne _ _ _ (by omega) (by omega), e2, e3, stF_ne _ (by omega) (by omega)]
    exact h.2.2 j hj
set_option maxRecDepth 20000 in
theorem l_rp2 (hL : Lay sh gr) {i : Nat} (hi : i < 20) : ∀ (n k : Nat) (A B : Nat → Nat → Int) (ls : Lc), (k : Int) + n = B (gO i) 3 → (∀ k j, sb (A k j)) → RW A B → RX i A B → nl ls = true → lget ls 0 = some (.ref 199) → lget ls 1 = some (.int (oi (i : Int))) → lget ls 2 = some (.int (oi (-1))) → lget ls 3 = some (.int (oi (k : Int))) →
    (Ev (163, 109, ls, [], (sh, oA A, gl, gr), sl) r ↔ r = (.inl (some (.int (oi (othF i n k B).1))), (sh, oA (fillR (othR i n k A B) 208 0 18 (fun j => A 209 j)), gl, gr), sl)) := by
  have q0 : sb (i : Int) := ⟨by omega, by omega⟩
  have q1 : ¬ 20 ≤ i := by omega
  intro n
  induction n with
  | zero =>
    intro k A B ls hn hA h hx g g0 g1 g2 g3
    obtain ⟨x1, x2, x3⟩ := hx
    have e0 : sb (k : Int) := ⟨by omega, by omega⟩
    have e1 : B (gO i) 3 ≤ (k : Int) := by omega
    have e2 : sb (B (gO i) 3) := ⟨by omega, by omega⟩
    have tb := fun (sl : Nat) (r : Out) => r_tback (A := A) (gl := gl) (sl := sl) (r := r) hL
    rw [EvU_iff (fun _ => false) 40]
    simp (maxDischargeDepth := 9) [EvS, stI, enI, caI, s_push, s_iload, s_aload, s_istore, s_astore, s_iinc, s_bin, s_div, s_i2l, s_lcmp, s_dup, s_dup2, s_pop, s_tab, s_look, s_get, s_put, s_iald, s_lald, s_aald, s_iast, s_last, s_aast, s_len, s_newa, s_new, s_thr, s_min, s_copy, s_obj, s_call, s_iret, s_aret, s_vret, go, ldI, lget_lput, nl_I, nl_R, lv_args, wsum, va_rf, hnd, cvr, cat_i, cat_r, cat_l, oi_of, oi_add, oi_sub, oA_ap, oA_u2, pi_lt, pi_le, pi_eq, pi_eq0, pi_lt0, pi_le0, pi_gt0, pi_ge0, pi_cl, sb_lit, fv4, isB01, nlt0, EvU_0, wO_ne, wL_ne, wC_ne, wN_ne, pO_ne, pU_ne, CN, LN, -Prod.exists, pi_ti, Op.lookupswitch.offset, EvU_at d163_0, EvU_at d163_1, EvU_at d163_2, EvU_at d163_3, EvU_at d163_6, EvU_at d163_7, EvU_at d163_10, EvU_at d163_13, EvU_at d163_14, EvU_at d163_15, EvU_at d163_18, EvU_at d163_19, EvU_at d163_20, EvU_at d163_23, EvU_at d163_24, EvU_at d163_27, EvU_at d163_28, EvU_at d163_29, EvU_at d163_32, EvU_at d163_35, EvU_at d163_36, EvU_at d163_37, EvU_at d163_38, EvU_at d163_41, EvU_at d163_42, EvU_at d163_43, EvU_at d163_44, EvU_at d163_46, EvU_at d163_49, EvU_at d163_50, EvU_at d163_52, EvU_at d163_55, EvU_at d163_56, EvU_at d163_59, EvU_at d163_62, EvU_at d163_63, EvU_at d163_66, EvU_at d163_67, EvU_at d163_69, EvU_at d163_70, EvU_at d163_71, EvU_at d163_72, EvU_at d163_73, EvU_at d163_76, EvU_at d163_77, EvU_at d163_78, EvU_at d163_81, EvU_at d163_82, EvU_at d163_85, EvU_at d163_86, EvU_at d163_89, EvU_at d163_91, EvU_at d163_92, EvU_at d163_93, EvU_at d163_94, EvU_at d163_95, EvU_at d163_96, EvU_at d163_97, EvU_at d163_98, EvU_at d163_99, EvU_at d163_102, EvU_at d163_105, EvU_at d163_106, EvU_at d163_107, EvU_at d163_108, EvU_at d163_109, EvU_at d163_110, EvU_at d163_111, EvU_at d163_114, EvU_at d163_115, EvU_at d163_116, EvU_at d163_119, EvU_at d163_120, EvU_at d163_121, EvU_at d163_124, EvU_at d163_125, EvU_at d163_128, EvU_at d163_129, EvU_at d163_130, EvU_at d163_133, EvU_at d163_135, EvU_at d163_136, EvU_at d163_137, EvU_at d163_138, EvU_at d163_139, EvU_at d163_140, EvU_at d163_143, EvU_at d163_144, EvU_at d163_147, EvU_at d163_149, EvU_at d163_150, EvU_at d163_151, EvU_at d163_152, EvU_at d163_153, EvU_at d163_154, EvU_at d163_157, EvU_at d163_158, EvU_at d163_161, EvU_at d163_162, EvU_at d163_163, EvU_at d163_166, EvU_at d163_169, EvU_at d163_170, EvU_at d163_173, EvU_at d163_174, Z163, Z157, LyS hL, LyG hL, hA, g, g0, g1, g2, g3, e0, e1, e2, q0, q1, x1, othF, othR, tb]
  | succ n ih =>
    intro k A B ls hn hA h hx g g0 g1 g2 g3
    have hx1 := hx.st
    obtain ⟨x1, x2, x3⟩ := hx
    obtain ⟨y1, y2, y3, y4⟩ := x3 k (by omega)
    have e0 : sb (k : Int) := ⟨by omega, by omega⟩
    have e1 : ¬ B (gO i) 3 ≤ (k : Int) := by omega
    have e2 : sb (B (gO i) 3) := ⟨by omega, by omega⟩
    have hA1 := sb_stR h hA
    have h1 := h.st
    have s1 := fun (sl : Nat) (r : Out) => r_step (gl := gl) (sl := sl) (r := r) hA hL h
    have m1 : stF B 2 9 = B 2 9 := stF_ne _ (by omega) (by omega) _
    have s2 := fun (sl : Nat) (r : Out) => r_img (gl := gl) (sl := sl) (r := r) hA1 hL h1 (c := B (gK i) k) y3 (by rw [m1]; exact y4)
    have s3 := send_in h1 (c := B (gK i) k) y3 (by rw [m1]; exact y4)
    have hm := h.M.m
    have e3 : sb (sendF (stF B) (B (gK i) k)) := ⟨by omega, by omega⟩
    have e9 : ∀ j, stR A B 0 209 j = A 209 j := fun j => stR_ne A B 0 (by omega) (by omega) j
    have z1 : stR A B 0 214 (60 * i + k) = B (gK i) k := by
      rw [stR_ne _ _ _ (by omega) (by omega)]
      exact y1
    have z2 : stR A B 0 215 (60 * i + k) = B (gC i) k := by
      rw [stR_ne _ _ _ (by omega) (by omega)]
      exact y2
    have e4 : sb (B (gC i) k) := y2 ▸ hA _ _
    have i0 : sb (60 * (i : Int) + (k : Int)) := ⟨by omega, by omega⟩
    have i1 : ¬ 60 * (i : Int) + (k : Int) < 0 := by omega
    have i2 : (60 * (i : Int) + (k : Int)).toNat = 60 * i + k := by omega
    have i3 : ¬ 1200 ≤ 60 * i + k := by omega
    rw [EvU_iff (fun _ => false) 1]
    simp (maxDischargeDepth := 9) [EvS, stI, enI, caI, s_push, s_iload, s_aload, s_istore, s_astore, s_iinc, s_bin, s_div, s_i2l, s_lcmp, s_dup, s_dup2, s_pop, s_tab, s_look, s_get, s_put, s_iald, s_lald, s_aald, s_iast, s_last, s_aast, s_len, s_newa, s_new, s_thr, s_min, s_copy, s_obj, s_call, s_iret, s_aret, s_vret, go, ldI, lget_lput, nl_I, nl_R, lv_args, wsum, va_rf, hnd, cvr, cat_i, cat_r, cat_l, oi_of, oi_add, oi_sub, oA_ap, oA_u2, pi_lt, pi_le, pi_eq, pi_eq0, pi_lt0, pi_le0, pi_gt0, pi_ge0, pi_cl, sb_lit, fv4, isB01, nlt0, EvU_0, wO_ne, wL_ne, wC_ne, wN_ne, pO_ne, pU_ne, CN, LN, -Prod.exists, pi_ti, Op.lookupswitch.offset, EvU_at d163_0, EvU_at d163_1, EvU_at d163_2, EvU_at d163_3, EvU_at d163_6, EvU_at d163_7, EvU_at d163_10, EvU_at d163_13, EvU_at d163_14, EvU_at d163_15, EvU_at d163_18, EvU_at d163_19, EvU_at d163_20, EvU_at d163_23, EvU_at d163_24, EvU_at d163_27, EvU_at d163_28, EvU_at d163_29, EvU_at d163_32, EvU_at d163_35, EvU_at d163_36, EvU_at d163_37, EvU_at d163_38, EvU_at d163_41, EvU_at d163_42, EvU_at d163_43, EvU_at d163_44, EvU_at d163_46, EvU_at d163_49, EvU_at d163_50, EvU_at d163_52, EvU_at d163_55, EvU_at d163_56, EvU_at d163_59, EvU_at d163_62, EvU_at d163_63, EvU_at d163_66, EvU_at d163_67, EvU_at d163_69, EvU_at d163_70, EvU_at d163_71, EvU_at d163_72, EvU_at d163_73, EvU_at d163_76, EvU_at d163_77, EvU_at d163_78, EvU_at d163_81, EvU_at d163_82, EvU_at d163_85, EvU_at d163_86, EvU_at d163_89, EvU_at d163_91, EvU_at d163_92, EvU_at d163_93, EvU_at d163_94, EvU_at d163_95, EvU_at d163_96, EvU_at d163_97, EvU_at d163_98, EvU_at d163_99, EvU_at d163_102, EvU_at d163_105, EvU_at d163_106, EvU_at d163_107, EvU_at d163_108, EvU_at d163_109, EvU_at d163_110, EvU_at d163_111, EvU_at d163_114, EvU_at d163_115, EvU_at d163_116, EvU_at d163_119, EvU_at d163_120, EvU_at d163_121, EvU_at d163_124, EvU_at d163_125, EvU_at d163_128, EvU_at d163_129, EvU_at d163_130, EvU_at d163_133, EvU_at d163_135, EvU_at d163_136, EvU_at d163_137, EvU_at d163_138, EvU_at d163_139, EvU_at d163_140, EvU_at d163_143, EvU_at d163_144, EvU_at d163_147, EvU_at d163_149, EvU_at d163_150, EvU_at d163_151, EvU_at d163_152, EvU_at d163_153, EvU_at d163_154, EvU_at d163_157, EvU_at d163_158, EvU_at d163_161, EvU_at d163_162, EvU_at d163_163, EvU_at d163_166, EvU_at d163_169, EvU_at d163_170, EvU_at d163_173, EvU_at d163_174, Z163, LyS hL, LyG hL, hA, g, g0, g1, g2, g3]
    rw [EvU_iff (fun p => p == 109) 60, othF, othR]
    by_cases c : sendF (stF B) (B (gK i) k) = B (gC i) k
    · rw [if_pos c, if_pos c]
      simp (maxDischargeDepth := 9) [EvS, stI, enI, caI, s_push, s_iload, s_aload, s_istore, s_astore, s_iinc, s_bin, s_div, s_i2l, s_lcmp, s_dup, s_dup2, s_pop, s_tab, s_look, s_get, s_put, s_iald, s_lald, s_aald, s_iast, s_last, s_aast, s_len, s_newa, s_new, s_thr, s_min, s_copy, s_obj, s_call, s_iret, s_aret, s_vret, go, ldI, lget_lput, nl_I, nl_R, lv_args, wsum, va_rf, hnd, cvr, cat_i, cat_r, cat_l, oi_of, oi_add, oi_sub, oA_ap, oA_u2, pi_lt, pi_le, pi_eq, pi_eq0, pi_lt0, pi_le0, pi_gt0, pi_ge0, pi_cl, sb_lit, fv4, isB01, nlt0, EvU_0, wO_ne, wL_ne, wC_ne, wN_ne, pO_ne, pU_ne, CN, LN, -Prod.exists, pi_ti, Op.lookupswitch.offset, EvU_at d163_0, EvU_at d163_1, EvU_at d163_2, EvU_at d163_3, EvU_at d163_6, EvU_at d163_7, EvU_at d163_10, EvU_at d163_13, EvU_at d163_14, EvU_at d163_15, EvU_at d163_18, EvU_at d163_19, EvU_at d163_20, EvU_at d163_23, EvU_at d163_24, EvU_at d163_27, EvU_at d163_28, EvU_at d163_29, EvU_at d163_32, EvU_at d163_35, EvU_at d163_36, EvU_at d163_37, EvU_at d163_38, EvU_at d163_41, EvU_at d163_42, EvU_at d163_43, EvU_at d163_44, EvU_at d163_46, EvU_at d163_49, EvU_at d163_50, EvU_at d163_52, EvU_at d163_55, EvU_at d163_56, EvU_at d163_59, EvU_at d163_62, EvU_at d163_63, EvU_at d163_66, EvU_at d163_67, EvU_at d163_69, EvU_at d163_70, EvU_at d163_71, EvU_at d163_72, EvU_at d163_73, EvU_at d163_76, EvU_at d163_77, EvU_at d163_78, EvU_at d163_81, EvU_at d163_82, EvU_at d163_85, EvU_at d163_86, EvU_at d163_89, EvU_at d163_91, EvU_at d163_92, EvU_at d163_93, EvU_at d163_94, EvU_at d163_95, EvU_at d163_96, EvU_at d163_97, EvU_at d163_98, EvU_at d163_99, EvU_at d163_102, EvU_at d163_105, EvU_at d163_106, EvU_at d163_107, EvU_at d163_108, EvU_at d163_109, EvU_at d163_110, EvU_at d163_111, EvU_at d163_114, EvU_at d163_115, EvU_at d163_116, EvU_at d163_119, EvU_at d163_120, EvU_at d163_121, EvU_at d163_124, EvU_at d163_125, EvU_at d163_128, EvU_at d163_129, EvU_at d163_130, EvU_at d163_133, EvU_at d163_135, EvU_at d163_136, EvU_at d163_137, EvU_at d163_138, EvU_at d163_139, EvU_at d163_140, EvU_at d163_143, EvU_at d163_144, EvU_at d163_147, EvU_at d163_149, EvU_at d163_150, EvU_at d163_151, EvU_at d163_152, EvU_at d163_153, EvU_at d163_154, EvU_at d163_157, EvU_at d163_158, EvU_at d163_161, EvU_at d163_162, EvU_at d163_163, EvU_at d163_166, EvU_at d163_169, EvU_at d163_170, EvU_at d163_173, EvU_at d163_174, Z163, Z138, Z144, LyS hL, LyG hL, hA, hA1, oi_mul, g, g0, g1, g2, g3, e0, e1, e2, e3, e4, q0, q1, x1, i0, i1, i2, i3, z1, z2, s1, s2, c]
      have key := fun ls => ih (k + 1) (stR A B 0) (stF B) ls (by rw [stF_ne _ (by unfold gO; omega) (by unfold gO; omega)]; omega) hA1 h1 hx1
      simp only [e9] at key
      refine key _ ?_ ?_ ?_ ?_ ?_
      · simp (maxDischargeDepth := 9) [lget_lput, nl_I, nl_R, g]
      · simp (maxDischargeDepth := 9) [lget_lput, nl_I, nl_R, g, g0]
      · simp (maxDischargeDepth := 9) [lget_lput, nl_I, nl_R, g, g1]
      · simp (maxDischargeDepth := 9) [lget_lput, nl_I, nl_R, g]
      · simp (maxDischargeDepth := 9) [lget_lput, nl_I, nl_R, g]
    · rw [if_neg c, if_neg c]
      have fin : ∀ (ls : Lc), nl ls = true → lget ls 0 = some (.ref 199) → lget ls 1 = some (.int (oi (i : Int))) → lget ls 2 = some (.int (oi (k : Int))) → lget ls 3 = some (.int (oi ((k : Int) + 1))) →
          (Ev (163, 109, ls, [], (sh, oA (stR A B 0), gl, gr), sl) r ↔ r = (.inl (some (.int (oi (k : Int)))), (sh, oA (fillR (stR A B 0) 208 0 18 (fun j => A 209 j)), gl, gr), sl)) := by
        intro ls g g0 g1 g2 g3
        have tb := fun (sl : Nat) (r : Out) => r_tback (A := stR A B 0) (gl := gl) (sl := sl) (r := r) hL
        simp only [e9] at tb
        have p0 : sb ((k : Int) + 1) := ⟨by omega, by omega⟩
        have p1 : stR A B 0 212 i = B (gO i) 3 := by
          rw [stR_ne _ _ _ (by omega) (by omega)]
          exact x1
        have p2 : ¬ (k : Int) = -1 := by omega
        rw [EvU_iff (fun _ => false) 40]
        by_cases d : B (gO i) 3 ≤ (k : Int) + 1
        · simp (maxDischargeDepth := 9) [EvS, stI, enI, caI, s_push, s_iload, s_aload, s_istore, s_astore, s_iinc, s_bin, s_div, s_i2l, s_lcmp, s_dup, s_dup2, s_pop, s_tab, s_look, s_get, s_put, s_iald, s_lald, s_aald, s_iast, s_last, s_aast, s_len, s_newa, s_new, s_thr, s_min, s_copy, s_obj, s_call, s_iret, s_aret, s_vret, go, ldI, lget_lput, nl_I, nl_R, lv_args, wsum, va_rf, hnd, cvr, cat_i, cat_r, cat_l, oi_of, oi_add, oi_sub, oA_ap, oA_u2, pi_lt, pi_le, pi_eq, pi_eq0, pi_lt0, pi_le0, pi_gt0, pi_ge0, pi_cl, sb_lit, fv4, isB01, nlt0, EvU_0, wO_ne, wL_ne, wC_ne, wN_ne, pO_ne, pU_ne, CN, LN, -Prod.exists, pi_ti, Op.lookupswitch.offset, EvU_at d163_0, EvU_at d163_1, EvU_at d163_2, EvU_at d163_3, EvU_at d163_6, EvU_at d163_7, EvU_at d163_10, EvU_at d163_13, EvU_at d163_14, EvU_at d163_15, EvU_at d163_18, EvU_at d163_19, EvU_at d163_20, EvU_at d163_23, EvU_at d163_24, EvU_at d163_27, EvU_at d163_28, EvU_at d163_29, EvU_at d163_32, EvU_at d163_35, EvU_at d163_36, EvU_at d163_37, EvU_at d163_38, EvU_at d163_41, EvU_at d163_42, EvU_at d163_43, EvU_at d163_44, EvU_at d163_46, EvU_at d163_49, EvU_at d163_50, EvU_at d163_52, EvU_at d163_55, EvU_at d163_56, EvU_at d163_59, EvU_at d163_62, EvU_at d163_63, EvU_at d163_66, EvU_at d163_67, EvU_at d163_69, EvU_at d163_70, EvU_at d163_71, EvU_at d163_72, EvU_at d163_73, EvU_at d163_76, EvU_at d163_77, EvU_at d163_78, EvU_at d163_81, EvU_at d163_82, EvU_at d163_85, EvU_at d163_86, EvU_at d163_89, EvU_at d163_91, EvU_at d163_92, EvU_at d163_93, EvU_at d163_94, EvU_at d163_95, EvU_at d163_96, EvU_at d163_97, EvU_at d163_98, EvU_at d163_99, EvU_at d163_102, EvU_at d163_105, EvU_at d163_106, EvU_at d163_107, EvU_at d163_108, EvU_at d163_109, EvU_at d163_110, EvU_at d163_111, EvU_at d163_114, EvU_at d163_115, EvU_at d163_116, EvU_at d163_119, EvU_at d163_120, EvU_at d163_121, EvU_at d163_124, EvU_at d163_125, EvU_at d163_128, EvU_at d163_129, EvU_at d163_130, EvU_at d163_133, EvU_at d163_135, EvU_at d163_136, EvU_at d163_137, EvU_at d163_138, EvU_at d163_139, EvU_at d163_140, EvU_at d163_143, EvU_at d163_144, EvU_at d163_147, EvU_at d163_149, EvU_at d163_150, EvU_at d163_151, EvU_at d163_152, EvU_at d163_153, EvU_at d163_154, EvU_at d163_157, EvU_at d163_158, EvU_at d163_161, EvU_at d163_162, EvU_at d163_163, EvU_at d163_166, EvU_at d163_169, EvU_at d163_170, EvU_at d163_173, EvU_at d163_174, Z163, Z157, LyS hL, LyG hL, hA1, g, g0, g1, g2, g3, p0, p1, p2, e2, q0, q1, d, tb]
        · simp (maxDischargeDepth := 9) [EvS, stI, enI, caI, s_push, s_iload, s_aload, s_istore, s_astore, s_iinc, s_bin, s_div, s_i2l, s_lcmp, s_dup, s_dup2, s_pop, s_tab, s_look, s_get, s_put, s_iald, s_lald, s_aald, s_iast, s_last, s_aast, s_len, s_newa, s_new, s_thr, s_min, s_copy, s_obj, s_call, s_iret, s_aret, s_vret, go, ldI, lget_lput, nl_I, nl_R, lv_args, wsum, va_rf, hnd, cvr, cat_i, cat_r, cat_l, oi_of, oi_add, oi_sub, oA_ap, oA_u2, pi_lt, pi_le, pi_eq, pi_eq0, pi_lt0, pi_le0, pi_gt0, pi_ge0, pi_cl, sb_lit, fv4, isB01, nlt0, EvU_0, wO_ne, wL_ne, wC_ne, wN_ne, pO_ne, pU_ne, CN, LN, -Prod.exists, pi_ti, Op.lookupswitch.offset, EvU_at d163_0, EvU_at d163_1, EvU_at d163_2, EvU_at d163_3, EvU_at d163_6, EvU_at d163_7, EvU_at d163_10, EvU_at d163_13, EvU_at d163_14, EvU_at d163_15, EvU_at d163_18, EvU_at d163_19, EvU_at d163_20, EvU_at d163_23, EvU_at d163_24, EvU_at d163_27, EvU_at d163_28, EvU_at d163_29, EvU_at d163_32, EvU_at d163_35, EvU_at d163_36, EvU_at d163_37, EvU_at d163_38, EvU_at d163_41, EvU_at d163_42, EvU_at d163_43, EvU_at d163_44, EvU_at d163_46, EvU_at d163_49, EvU_at d163_50, EvU_at d163_52, EvU_at d163_55, EvU_at d163_56, EvU_at d163_59, EvU_at d163_62, EvU_at d163_63, EvU_at d163_66, EvU_at d163_67, EvU_at d163_69, EvU_at d163_70, EvU_at d163_71, EvU_at d163_72, EvU_at d163_73, EvU_at d163_76, EvU_at d163_77, EvU_at d163_78, EvU_at d163_81, EvU_at d163_82, EvU_at d163_85, EvU_at d163_86, EvU_at d163_89, EvU_at d163_91, EvU_at d163_92, EvU_at d163_93, EvU_at d163_94, EvU_at d163_95, EvU_at d163_96, EvU_at d163_97, EvU_at d163_98, EvU_at d163_99, EvU_at d163_102, EvU_at d163_105, EvU_at d163_106, EvU_at d163_107, EvU_at d163_108, EvU_at d163_109, EvU_at d163_110, EvU_at d163_111, EvU_at d163_114, EvU_at d163_115, EvU_at d163_116, EvU_at d163_119, EvU_at d163_120, EvU_at d163_121, EvU_at d163_124, EvU_at d163_125, EvU_at d163_128, EvU_at d163_129, EvU_at d163_130, EvU_at d163_133, EvU_at d163_135, EvU_at d163_136, EvU_at d163_137, EvU_at d163_138, EvU_at d163_139, EvU_at d163_140, EvU_at d163_143, EvU_at d163_144, EvU_at d163_147, EvU_at d163_149, EvU_at d163_150, EvU_at d163_151, EvU_at d163_152, EvU_at d163_153, EvU_at d163_154, EvU_at d163_157, EvU_at d163_158, EvU_at d163_161, EvU_at d163_162, EvU_at d163_163, EvU_at d163_166, EvU_at d163_169, EvU_at d163_170, EvU_at d163_173, EvU_at d163_174, Z163, Z157, LyS hL, LyG hL, hA1, g, g0, g1, g2, g3, p0, p1, p2, e0, e2, q0, q1, d, tb]
      simp (maxDischargeDepth := 9) [EvS, stI, enI, caI, s_push, s_iload, s_aload, s_istore, s_astore, s_iinc, s_bin, s_div, s_i2l, s_lcmp, s_dup, s_dup2, s_pop, s_tab, s_look, s_get, s_put, s_iald, s_lald, s_aald, s_iast, s_last, s_aast, s_len, s_newa, s_new, s_thr, s_min, s_copy, s_obj, s_call, s_iret, s_aret, s_vret, go, ldI, lget_lput, nl_I, nl_R, lv_args, wsum, va_rf, hnd, cvr, cat_i, cat_r, cat_l, oi_of, oi_add, oi_sub, oA_ap, oA_u2, pi_lt, pi_le, pi_eq, pi_eq0, pi_lt0, pi_le0, pi_gt0, pi_ge0, pi_cl, sb_lit, fv4, isB01, nlt0, EvU_0, wO_ne, wL_ne, wC_ne, wN_ne, pO_ne, pU_ne, CN, LN, -Prod.exists, pi_ti, Op.lookupswitch.offset, EvU_at d163_0, EvU_at d163_1, EvU_at d163_2, EvU_at d163_3, EvU_at d163_6, EvU_at d163_7, EvU_at d163_10, EvU_at d163_13, EvU_at d163_14, EvU_at d163_15, EvU_at d163_18, EvU_at d163_19, EvU_at d163_20, EvU_at d163_23, EvU_at d163_24, EvU_at d163_27, EvU_at d163_28, EvU_at d163_29, EvU_at d163_32, EvU_at d163_35, EvU_at d163_36, EvU_at d163_37, EvU_at d163_38, EvU_at d163_41, EvU_at d163_42, EvU_at d163_43, EvU_at d163_44, EvU_at d163_46, EvU_at d163_49, EvU_at d163_50, EvU_at d163_52, EvU_at d163_55, EvU_at d163_56, EvU_at d163_59, EvU_at d163_62, EvU_at d163_63, EvU_at d163_66, EvU_at d163_67, EvU_at d163_69, EvU_at d163_70, EvU_at d163_71, EvU_at d163_72, EvU_at d163_73, EvU_at d163_76, EvU_at d163_77, EvU_at d163_78, EvU_at d163_81, EvU_at d163_82, EvU_at d163_85, EvU_at d163_86, EvU_at d163_89, EvU_at d163_91, EvU_at d163_92, EvU_at d163_93, EvU_at d163_94, EvU_at d163_95, EvU_at d163_96, EvU_at d163_97, EvU_at d163_98, EvU_at d163_99, EvU_at d163_102, EvU_at d163_105, EvU_at d163_106, EvU_at d163_107, EvU_at d163_108, EvU_at d163_109, EvU_at d163_110, EvU_at d163_111, EvU_at d163_114, EvU_at d163_115, EvU_at d163_116, EvU_at d163_119, EvU_at d163_120, EvU_at d163_121, EvU_at d163_124, EvU_at d163_125, EvU_at d163_128, EvU_at d163_129, EvU_at d163_130, EvU_at d163_133, EvU_at d163_135, EvU_at d163_136, EvU_at d163_137, EvU_at d163_138, EvU_at d163_139, EvU_at d163_140, EvU_at d163_143, EvU_at d163_144, EvU_at d163_147, EvU_at d163_149, EvU_at d163_150, EvU_at d163_151, EvU_at d163_152, EvU_at d163_153, EvU_at d163_154, EvU_at d163_157, EvU_at d163_158, EvU_at d163_161, EvU_at d163_162, EvU_at d163_163, EvU_at d163_166, EvU_at d163_169, EvU_at d163_170, EvU_at d163_173, EvU_at d163_174, Z163, Z138, Z144, LyS hL, LyG hL, hA, hA1, oi_mul, g, g0, g1, g2, g3, e0, e1, e2, e3, e4, q0, q1, x1, i0, i1, i2, i3, z1, z2, s1, s2, c]
      refine fin _ ?_ ?_ ?_ ?_ ?_
      · simp (maxDischargeDepth := 9) [lget_lput, nl_I, nl_R, g]
      · simp (maxDischargeDepth := 9) [lget_lput, nl_I, nl_R, g, g0]
      · simp (maxDischargeDepth := 9) [lget_lput, nl_I, nl_R, g, g1]
      · simp (maxDischargeDepth := 9) [lget_lput, nl_I, nl_R, g]
      · simp (maxDischargeDepth := 9) [lget_lput, nl_I, nl_R, g]
end
