/-! Wheel.clear, Pairs.clear, Machine.clear, standAs -/
section
variable {sh : List (Nat × Nat)} {A : Nat → Nat → Int} {gl : Nat → Nat → Int64} {gr : Nat → Nat → Option Nat} {sl : Nat} {r : Out}
/-- wheel w's rows from contact i on as they are at first -/
def wclr (A : Nat → Nat → Int) (w i : Nat) : Nat → Nat → Int := fun a b => if (a = wL w ∨ a = wC w) ∧ i ≤ b ∧ b < 32 then (b : Int) else if a = wN w ∧ i ≤ b ∧ b < 32 then 0 else A a b
theorem wclr_0 (A : Nat → Nat → Int) (w : Nat) : wclr A w 32 = A := by
  funext a b
  unfold wclr
  rw [if_neg (by omega), if_neg (by omega)]
theorem wclr_s (A : Nat → Nat → Int) (w : Nat) {i : Nat} (h : i < 32) : wclr (u2 (u2 (u2 A (wL w) i (i : Int)) (wC w) i (i : Int)) (wN w) i 0) w (i + 1) = wclr A w i := by
  funext a b
  unfold wclr u2 wL wC wN
  repeat' split
  all_goals omega
set_option maxRecDepth 20000 in
theorem l_wclear (hL : Lay sh gr) {w : Nat} (hw : w < 8) : ∀ (m i : Nat) (A : Nat → Nat → Int) (ls : Lc), i + m = 32 → nl ls = true → lget ls 0 = some (.ref (wO w)) → lget ls 1 = some (.int (oi (i : Int))) →
    (Ev (11, 2, ls, [], (sh, oA A, gl, gr), sl) r ↔ r = (.inl none, (sh, oA (u2 (wclr A w i) (wO w) 3 0), gl, gr), sl)) := by
  intro m
  induction m with
  | zero =>
    intro i A ls hi g g0 g1
    obtain rfl : i = 32 := by omega
    rw [wclr_0]
    have e0 : sb ((32 : Nat) : Int) := ⟨by omega, by omega⟩
    have e1 : (32 : Int) ≤ ((32 : Nat) : Int) := by omega
    rw [EvU_iff (fun _ => false) 10]
    simp (maxDischargeDepth := 9) [EvS, stI, enI, caI, s_push, s_iload, s_aload, s_istore, s_astore, s_iinc, s_bin, s_div, s_i2l, s_lcmp, s_dup, s_dup2, s_pop, s_tab, s_look, s_get, s_put, s_iald, s_lald, s_aald, s_iast, s_last, s_aast, s_len, s_newa, s_new, s_thr, s_min, s_copy, s_obj, s_call, s_iret, s_aret, s_vret, go, ldI, lget_lput, nl_I, nl_R, lv_args, wsum, va_rf, hnd, cvr, cat_i, cat_r, cat_l, oi_of, oi_add, oi_sub, oA_ap, oA_u2, pi_lt, pi_le, pi_eq, pi_eq0, pi_lt0, pi_le0, pi_gt0, pi_ge0, pi_cl, sb_lit, fv4, isB01, nlt0, EvU_0, wO_ne, wL_ne, wC_ne, wN_ne, pO_ne, pU_ne, CN, LN, -Prod.exists, pi_ti, Op.lookupswitch.offset, EvU_at d11_0, EvU_at d11_1, EvU_at d11_2, EvU_at d11_3, EvU_at d11_5, EvU_at d11_8, EvU_at d11_9, EvU_at d11_12, EvU_at d11_13, EvU_at d11_14, EvU_at d11_15, EvU_at d11_16, EvU_at d11_19, EvU_at d11_20, EvU_at d11_21, EvU_at d11_22, EvU_at d11_23, EvU_at d11_26, EvU_at d11_27, EvU_at d11_28, EvU_at d11_29, EvU_at d11_32, EvU_at d11_35, EvU_at d11_36, EvU_at d11_37, EvU_at d11_40, Z11, LyW hL hw, g, g0, g1, e0, e1]
  | succ m ih =>
    intro i A ls hi g g0 g1
    have e0 : sb (i : Int) := ⟨by omega, by omega⟩
    have e1 : ¬ (32 : Int) ≤ (i : Int) := by omega
    have e2 : ¬ 32 ≤ i := by omega
    rw [EvU_iff (fun _ => false) 1]
    simp (maxDischargeDepth := 9) [EvS, stI, enI, caI, s_push, s_iload, s_aload, s_istore, s_astore, s_iinc, s_bin, s_div, s_i2l, s_lcmp, s_dup, s_dup2, s_pop, s_tab, s_look, s_get, s_put, s_iald, s_lald, s_aald, s_iast, s_last, s_aast, s_len, s_newa, s_new, s_thr, s_min, s_copy, s_obj, s_call, s_iret, s_aret, s_vret, go, ldI, lget_lput, nl_I, nl_R, lv_args, wsum, va_rf, hnd, cvr, cat_i, cat_r, cat_l, oi_of, oi_add, oi_sub, oA_ap, oA_u2, pi_lt, pi_le, pi_eq, pi_eq0, pi_lt0, pi_le0, pi_gt0, pi_ge0, pi_cl, sb_lit, fv4, isB01, nlt0, EvU_0, wO_ne, wL_ne, wC_ne, wN_ne, pO_ne, pU_ne, CN, LN, -Prod.exists, pi_ti, Op.lookupswitch.offset, EvU_at d11_0, EvU_at d11_1, EvU_at d11_2, EvU_at d11_3, EvU_at d11_5, EvU_at d11_8, EvU_at d11_9, EvU_at d11_12, EvU_at d11_13, EvU_at d11_14, EvU_at d11_15, EvU_at d11_16, EvU_at d11_19, EvU_at d11_20, EvU_at d11_21, EvU_at d11_22, EvU_at d11_23, EvU_at d11_26, EvU_at d11_27, EvU_at d11_28, EvU_at d11_29, EvU_at d11_32, EvU_at d11_35, EvU_at d11_36, EvU_at d11_37, EvU_at d11_40, Z11, LyW hL hw, g, g0, g1, e0]
    rw [EvU_iff (fun p => p == 2) 60]
    rw [← wclr_s A w (show i < 32 by omega)]
    simp (maxDischargeDepth := 9) [EvS, stI, enI, caI, s_push, s_iload, s_aload, s_istore, s_astore, s_iinc, s_bin, s_div, s_i2l, s_lcmp, s_dup, s_dup2, s_pop, s_tab, s_look, s_get, s_put, s_iald, s_lald, s_aald, s_iast, s_last, s_aast, s_len, s_newa, s_new, s_thr, s_min, s_copy, s_obj, s_call, s_iret, s_aret, s_vret, go, ldI, lget_lput, nl_I, nl_R, lv_args, wsum, va_rf, hnd, cvr, cat_i, cat_r, cat_l, oi_of, oi_add, oi_sub, oA_ap, oA_u2, pi_lt, pi_le, pi_eq, pi_eq0, pi_lt0, pi_le0, pi_gt0, pi_ge0, pi_cl, sb_lit, fv4, isB01, nlt0, EvU_0, wO_ne, wL_ne, wC_ne, wN_ne, pO_ne, pU_ne, CN, LN, -Prod.exists, pi_ti, Op.lookupswitch.offset, EvU_at d11_0, EvU_at d11_1, EvU_at d11_2, EvU_at d11_3, EvU_at d11_5, EvU_at d11_8, EvU_at d11_9, EvU_at d11_12, EvU_at d11_13, EvU_at d11_14, EvU_at d11_15, EvU_at d11_16, EvU_at d11_19, EvU_at d11_20, EvU_at d11_21, EvU_at d11_22, EvU_at d11_23, EvU_at d11_26, EvU_at d11_27, EvU_at d11_28, EvU_at d11_29, EvU_at d11_32, EvU_at d11_35, EvU_at d11_36, EvU_at d11_37, EvU_at d11_40, Z11, LyW hL hw, g, g0, g1, e0, e1, e2]
    refine ih (i + 1) _ _ ?_ ?_ ?_ ?_
    · omega
    · simp (maxDischargeDepth := 9) [lget_lput, nl_I, nl_R, g]
    · simp (maxDischargeDepth := 9) [lget_lput, nl_I, nl_R, g, g0]
    · simp (maxDischargeDepth := 9) [lget_lput, nl_I, nl_R, g]
set_option maxRecDepth 20000 in
theorem m_wclear (hL : Lay sh gr) {w : Nat} (hw : w < 8) : Ev (11, 0, [(0, .ref (wO w))], [], (sh, oA A, gl, gr), sl) r ↔ r = (.inl none, (sh, oA (u2 (wclr A w 0) (wO w) 3 0), gl, gr), sl) := by
  rw [EvU_iff (fun p => p == 2) 10]
  simp [EvS, stI, enI, caI, s_push, s_iload, s_aload, s_istore, s_astore, s_iinc, s_bin, s_div, s_i2l, s_lcmp, s_dup, s_dup2, s_pop, s_tab, s_look, s_get, s_put, s_iald, s_lald, s_aald, s_iast, s_last, s_aast, s_len, s_newa, s_new, s_thr, s_min, s_copy, s_obj, s_call, s_iret, s_aret, s_vret, go, ldI, lget, lput, lv_args, wsum, va_rf, hnd, cvr, cat_i, cat_r, cat_l, oi_of, oi_add, oi_sub, oA_ap, oA_u2, pi_lt, pi_le, pi_eq, pi_eq0, pi_lt0, pi_le0, pi_gt0, pi_ge0, pi_cl, sb_lit, fv4, isB01, nlt0, EvU_0, wO_ne, wL_ne, wC_ne, wN_ne, pO_ne, pU_ne, CN, LN, -Prod.exists, pi_ti, Op.lookupswitch.offset, EvU_at d11_0, EvU_at d11_1, EvU_at d11_2, EvU_at d11_3, EvU_at d11_5, EvU_at d11_8, EvU_at d11_9, EvU_at d11_12, EvU_at d11_13, EvU_at d11_14, EvU_at d11_15, EvU_at d11_16, EvU_at d11_19, EvU_at d11_20, EvU_at d11_21, EvU_at d11_22, EvU_at d11_23, EvU_at d11_26, EvU_at d11_27, EvU_at d11_28, EvU_at d11_29, EvU_at d11_32, EvU_at d11_35, EvU_at d11_36, EvU_at d11_37, EvU_at d11_40, Z11]
  refine l_wclear hL hw 32 0 A _ rfl ?_ ?_ ?_
  · simp [nl, cat_i, cat_r]
  · simp [lget, cat_i, cat_r]
  · simp [lget, cat_i, cat_r]
set_option maxRecDepth 20000 in
theorem l_pclear (hL : Lay sh gr) {q : Nat} (hq : q = 9 ∨ q = 11) : ∀ (m i : Nat) (A : Nat → Nat → Int) (ls : Lc), i + m = 32 → nl ls = true → lget ls 0 = some (.ref q) → lget ls 1 = some (.int (oi (i : Int))) →
    (Ev (14, 2, ls, [], (sh, oA A, gl, gr), sl) r ↔ r = (.inl none, (sh, oA (u2 (fillR A (q + 1) i 32 (fun j => (j : Int))) q 1 0), gl, gr), sl)) := by
  have f : (sh[q]? = some (4, 2) ∧ sh[q + 1]? = some (100, 32) ∧ gr q 0 = some (q + 1)) ∧ q ≠ 0 := by
    rcases hq with rfl | rfl
    · simp [LyS hL, LyG hL]
    · simp [LyS hL, LyG hL]
  intro m
  induction m with
  | zero =>
    intro i A ls hi g g0 g1
    obtain rfl : i = 32 := by omega
    rw [fillR_0]
    have e0 : sb ((32 : Nat) : Int) := ⟨by omega, by omega⟩
    have e1 : (32 : Int) ≤ ((32 : Nat) : Int) := by omega
    rw [EvU_iff (fun _ => false) 10]
    simp (maxDischargeDepth := 9) [EvS, stI, enI, caI, s_push, s_iload, s_aload, s_istore, s_astore, s_iinc, s_bin, s_div, s_i2l, s_lcmp, s_dup, s_dup2, s_pop, s_tab, s_look, s_get, s_put, s_iald, s_lald, s_aald, s_iast, s_last, s_aast, s_len, s_newa, s_new, s_thr, s_min, s_copy, s_obj, s_call, s_iret, s_aret, s_vret, go, ldI, lget_lput, nl_I, nl_R, lv_args, wsum, va_rf, hnd, cvr, cat_i, cat_r, cat_l, oi_of, oi_add, oi_sub, oA_ap, oA_u2, pi_lt, pi_le, pi_eq, pi_eq0, pi_lt0, pi_le0, pi_gt0, pi_ge0, pi_cl, sb_lit, fv4, isB01, nlt0, EvU_0, wO_ne, wL_ne, wC_ne, wN_ne, pO_ne, pU_ne, CN, LN, -Prod.exists, pi_ti, Op.lookupswitch.offset, EvU_at d14_0, EvU_at d14_1, EvU_at d14_2, EvU_at d14_3, EvU_at d14_5, EvU_at d14_8, EvU_at d14_9, EvU_at d14_12, EvU_at d14_13, EvU_at d14_14, EvU_at d14_15, EvU_at d14_18, EvU_at d14_21, EvU_at d14_22, EvU_at d14_23, EvU_at d14_26, Z14, f.1, f.2, g, g0, g1, e0, e1]
  | succ m ih =>
    intro i A ls hi g g0 g1
    have e0 : sb (i : Int) := ⟨by omega, by omega⟩
    have e1 : ¬ (32 : Int) ≤ (i : Int) := by omega
    have e2 : ¬ 32 ≤ i := by omega
    rw [EvU_iff (fun _ => false) 1]
    simp (maxDischargeDepth := 9) [EvS, stI, enI, caI, s_push, s_iload, s_aload, s_istore, s_astore, s_iinc, s_bin, s_div, s_i2l, s_lcmp, s_dup, s_dup2, s_pop, s_tab, s_look, s_get, s_put, s_iald, s_lald, s_aald, s_iast, s_last, s_aast, s_len, s_newa, s_new, s_thr, s_min, s_copy, s_obj, s_call, s_iret, s_aret, s_vret, go, ldI, lget_lput, nl_I, nl_R, lv_args, wsum, va_rf, hnd, cvr, cat_i, cat_r, cat_l, oi_of, oi_add, oi_sub, oA_ap, oA_u2, pi_lt, pi_le, pi_eq, pi_eq0, pi_lt0, pi_le0, pi_gt0, pi_ge0, pi_cl, sb_lit, fv4, isB01, nlt0, EvU_0, wO_ne, wL_ne, wC_ne, wN_ne, pO_ne, pU_ne, CN, LN, -Prod.exists, pi_ti, Op.lookupswitch.offset, EvU_at d14_0, EvU_at d14_1, EvU_at d14_2, EvU_at d14_3, EvU_at d14_5, EvU_at d14_8, EvU_at d14_9, EvU_at d14_12, EvU_at d14_13, EvU_at d14_14, EvU_at d14_15, EvU_at d14_18, EvU_at d14_21, EvU_at d14_22, EvU_at d14_23, EvU_at d14_26, Z14, f.1, f.2, g, g0, g1, e0]
    rw [EvU_iff (fun p => p == 2) 60]
    rw [← fillR_s A (fun j => (j : Int)) (show i < 32 by omega)]
    simp (maxDischargeDepth := 9) [EvS, stI, enI, caI, s_push, s_iload, s_aload, s_istore, s_astore, s_iinc, s_bin, s_div, s_i2l, s_lcmp, s_dup, s_dup2, s_pop, s_tab, s_look, s_get, s_put, s_iald, s_lald, s_aald, s_iast, s_last, s_aast, s_len, s_newa, s_new, s_thr, s_min, s_copy, s_obj, s_call, s_iret, s_aret, s_vret, go, ldI, lget_lput, nl_I, nl_R, lv_args, wsum, va_rf, hnd, cvr, cat_i, cat_r, cat_l, oi_of, oi_add, oi_sub, oA_ap, oA_u2, pi_lt, pi_le, pi_eq, pi_eq0, pi_lt0, pi_le0, pi_gt0, pi_ge0, pi_cl, sb_lit, fv4, isB01, nlt0, EvU_0, wO_ne, wL_ne, wC_ne, wN_ne, pO_ne, pU_ne, CN, LN, -Prod.exists, pi_ti, Op.lookupswitch.offset, EvU_at d14_0, EvU_at d14_1, EvU_at d14_2, EvU_at d14_3, EvU_at d14_5, EvU_at d14_8, EvU_at d14_9, EvU_at d14_12, EvU_at d14_13, EvU_at d14_14, EvU_at d14_15, EvU_at d14_18, EvU_at d14_21, EvU_at d14_22, EvU_at d14_23, EvU_at d14_26, Z14, f.1, f.2, g, g0, g1, e0, e1, e2]
    refine ih (i + 1) _ _ ?_ ?_ ?_ ?_
    · omega
    · simp (maxDischargeDepth := 9) [lget_lput, nl_I, nl_R, g]
    · simp (maxDischargeDepth := 9) [lget_lput, nl_I, nl_R, g, g0]
    · simp (maxDischargeDepth := 9) [lget_lput, nl_I, nl_R, g]
set_option maxRecDepth 20000 in
theorem m_pclear (hL : Lay sh gr) {q : Nat} (hq : q = 9 ∨ q = 11) : Ev (14, 0, [(0, .ref q)], [], (sh, oA A, gl, gr), sl) r ↔ r = (.inl none, (sh, oA (u2 (fillR A (q + 1) 0 32 (fun j => (j : Int))) q 1 0), gl, gr), sl) := by
  rw [EvU_iff (fun p => p == 2) 10]
  simp [EvS, stI, enI, caI, s_push, s_iload, s_aload, s_istore, s_astore, s_iinc, s_bin, s_div, s_i2l, s_lcmp, s_dup, s_dup2, s_pop, s_tab, s_look, s_get, s_put, s_iald, s_lald, s_aald, s_iast, s_last, s_aast, s_len, s_newa, s_new, s_thr, s_min, s_copy, s_obj, s_call, s_iret, s_aret, s_vret, go, ldI, lget, lput, lv_args, wsum, va_rf, hnd, cvr, cat_i, cat_r, cat_l, oi_of, oi_add, oi_sub, oA_ap, oA_u2, pi_lt, pi_le, pi_eq, pi_eq0, pi_lt0, pi_le0, pi_gt0, pi_ge0, pi_cl, sb_lit, fv4, isB01, nlt0, EvU_0, wO_ne, wL_ne, wC_ne, wN_ne, pO_ne, pU_ne, CN, LN, -Prod.exists, pi_ti, Op.lookupswitch.offset, EvU_at d14_0, EvU_at d14_1, EvU_at d14_2, EvU_at d14_3, EvU_at d14_5, EvU_at d14_8, EvU_at d14_9, EvU_at d14_12, EvU_at d14_13, EvU_at d14_14, EvU_at d14_15, EvU_at d14_18, EvU_at d14_21, EvU_at d14_22, EvU_at d14_23, EvU_at d14_26, Z14]
  refine l_pclear hL hq 32 0 A _ rfl ?_ ?_ ?_
  · simp [nl, cat_i, cat_r]
  · simp [lget, cat_i, cat_r]
  · simp [lget, cat_i, cat_r]
theorem rem_oi {a b : Int} (a0 : 0 ≤ a) (b0 : 0 < b) (ha : sb a) (hb : sb b) : oi a - oi a / oi b * oi b = oi (a % b) := by
  have h : oi a / oi b = oi (a.tdiv b) := (Int32.ofInt_tdiv (by have := ha.1; exact this) (by have := ha.2; exact Int.le_of_lt_add_one this) (by have := hb.1; exact this) (by have := hb.2; exact Int.le_of_lt_add_one this)).symm
  rw [h, oi_mul, oi_sub, Int.tdiv_eq_ediv_of_nonneg a0, Int.emod_def, Int.mul_comm]
end
