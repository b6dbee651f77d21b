/-! the reference: small methods -/
section
variable {sh : List (Nat × Nat)} {A B : Nat → Nat → Int} {gl : Nat → Nat → Int64} {gr : Nat → Nat → Option Nat} {sl : Nat} {r : Out}
def gs (a b c : Int) : Int := if a = 0 then 1 else if b = 0 then 2 else if c = 0 then 3 else 0
def b1 (p : Prop) [Decidable p] : Int := if p then 1 else 0
set_option maxRecDepth 20000 in
theorem r_goes (hL : Lay sh gr) {a b c : Int} (ha : a = 0 ∨ a = 1) (hb : b = 0 ∨ b = 1) (hc : c = 0 ∨ c = 1) : Ev (117, 0, [(0, .ref 199), (1, .int (oi a)), (2, .int (oi b)), (3, .int (oi c))], [], (sh, oA A, gl, gr), sl) r ↔ r = (.inl (some (.int (oi (if gs a b c = 0 then 1 else 0)))), (sh, oA (u2 A 199 0 (gs a b c)), gl, gr), sl) := by
  rw [EvU_iff (fun _ => false) 40]
  rcases ha with rfl | rfl
  · simp [EvS, stI, enI, caI, s_push, s_iload, s_aload, s_istore, s_astore, s_iinc, s_bin, s_div, s_i2l, s_lcmp, s_dup, s_dup2, s_pop, s_tab, s_look, s_get, s_put, s_iald, s_lald, s_aald, s_iast, s_last, s_aast, s_len, s_newa, s_new, s_thr, s_min, s_copy, s_obj, s_call, s_iret, s_aret, s_vret, go, ldI, lget, lput, lv_args, wsum, va_rf, hnd, cvr, cat_i, cat_r, cat_l, oi_of, oi_add, oi_sub, oA_ap, oA_u2, pi_lt, pi_le, pi_eq, pi_eq0, pi_lt0, pi_le0, pi_gt0, pi_ge0, pi_cl, sb_lit, fv4, isB01, nlt0, EvU_0, wO_ne, wL_ne, wC_ne, wN_ne, pO_ne, pU_ne, CN, LN, -Prod.exists, pi_ti, Op.lookupswitch.offset, EvU_at d117_0, EvU_at d117_1, EvU_at d117_2, EvU_at d117_5, EvU_at d117_6, EvU_at d117_9, EvU_at d117_10, EvU_at d117_13, EvU_at d117_14, EvU_at d117_17, EvU_at d117_18, EvU_at d117_21, EvU_at d117_22, EvU_at d117_25, EvU_at d117_26, EvU_at d117_29, EvU_at d117_30, EvU_at d117_33, EvU_at d117_36, EvU_at d117_37, EvU_at d117_40, EvU_at d117_41, Z117, LyS hL, LyG hL, gs, ur]
  · rcases hb with rfl | rfl
    · simp [EvS, stI, enI, caI, s_push, s_iload, s_aload, s_istore, s_astore, s_iinc, s_bin, s_div, s_i2l, s_lcmp, s_dup, s_dup2, s_pop, s_tab, s_look, s_get, s_put, s_iald, s_lald, s_aald, s_iast, s_last, s_aast, s_len, s_newa, s_new, s_thr, s_min, s_copy, s_obj, s_call, s_iret, s_aret, s_vret, go, ldI, lget, lput, lv_args, wsum, va_rf, hnd, cvr, cat_i, cat_r, cat_l, oi_of, oi_add, oi_sub, oA_ap, oA_u2, pi_lt, pi_le, pi_eq, pi_eq0, pi_lt0, pi_le0, pi_gt0, pi_ge0, pi_cl, sb_lit, fv4, isB01, nlt0, EvU_0, wO_ne, wL_ne, wC_ne, wN_ne, pO_ne, pU_ne, CN, LN, -Prod.exists, pi_ti, Op.lookupswitch.offset, EvU_at d117_0, EvU_at d117_1, EvU_at d117_2, EvU_at d117_5, EvU_at d117_6, EvU_at d117_9, EvU_at d117_10, EvU_at d117_13, EvU_at d117_14, EvU_at d117_17, EvU_at d117_18, EvU_at d117_21, EvU_at d117_22, EvU_at d117_25, EvU_at d117_26, EvU_at d117_29, EvU_at d117_30, EvU_at d117_33, EvU_at d117_36, EvU_at d117_37, EvU_at d117_40, EvU_at d117_41, Z117, LyS hL, LyG hL, gs, ur]
    · rcases hc with rfl | rfl
      · simp [EvS, stI, enI, caI, s_push, s_iload, s_aload, s_istore, s_astore, s_iinc, s_bin, s_div, s_i2l, s_lcmp, s_dup, s_dup2, s_pop, s_tab, s_look, s_get, s_put, s_iald, s_lald, s_aald, s_iast, s_last, s_aast, s_len, s_newa, s_new, s_thr, s_min, s_copy, s_obj, s_call, s_iret, s_aret, s_vret, go, ldI, lget, lput, lv_args, wsum, va_rf, hnd, cvr, cat_i, cat_r, cat_l, oi_of, oi_add, oi_sub, oA_ap, oA_u2, pi_lt, pi_le, pi_eq, pi_eq0, pi_lt0, pi_le0, pi_gt0, pi_ge0, pi_cl, sb_lit, fv4, isB01, nlt0, EvU_0, wO_ne, wL_ne, wC_ne, wN_ne, pO_ne, pU_ne, CN, LN, -Prod.exists, pi_ti, Op.lookupswitch.offset, EvU_at d117_0, EvU_at d117_1, EvU_at d117_2, EvU_at d117_5, EvU_at d117_6, EvU_at d117_9, EvU_at d117_10, EvU_at d117_13, EvU_at d117_14, EvU_at d117_17, EvU_at d117_18, EvU_at d117_21, EvU_at d117_22, EvU_at d117_25, EvU_at d117_26, EvU_at d117_29, EvU_at d117_30, EvU_at d117_33, EvU_at d117_36, EvU_at d117_37, EvU_at d117_40, EvU_at d117_41, Z117, LyS hL, LyG hL, gs, ur]
      · simp [EvS, stI, enI, caI, s_push, s_iload, s_aload, s_istore, s_astore, s_iinc, s_bin, s_div, s_i2l, s_lcmp, s_dup, s_dup2, s_pop, s_tab, s_look, s_get, s_put, s_iald, s_lald, s_aald, s_iast, s_last, s_aast, s_len, s_newa, s_new, s_thr, s_min, s_copy, s_obj, s_call, s_iret, s_aret, s_vret, go, ldI, lget, lput, lv_args, wsum, va_rf, hnd, cvr, cat_i, cat_r, cat_l, oi_of, oi_add, oi_sub, oA_ap, oA_u2, pi_lt, pi_le, pi_eq, pi_eq0, pi_lt0, pi_le0, pi_gt0, pi_ge0, pi_cl, sb_lit, fv4, isB01, nlt0, EvU_0, wO_ne, wL_ne, wC_ne, wN_ne, pO_ne, pU_ne, CN, LN, -Prod.exists, pi_ti, Op.lookupswitch.offset, EvU_at d117_0, EvU_at d117_1, EvU_at d117_2, EvU_at d117_5, EvU_at d117_6, EvU_at d117_9, EvU_at d117_10, EvU_at d117_13, EvU_at d117_14, EvU_at d117_17, EvU_at d117_18, EvU_at d117_21, EvU_at d117_22, EvU_at d117_25, EvU_at d117_26, EvU_at d117_29, EvU_at d117_30, EvU_at d117_33, EvU_at d117_36, EvU_at d117_37, EvU_at d117_40, EvU_at d117_41, Z117, LyS hL, LyG hL, gs, ur]
theorem r_thrown (hL : Lay sh gr) : Ev (115, 0, [(0, .ref 199)], [], (sh, oA A, gl, gr), sl) r ↔ r = (.inl (some (.int (oi (A 199 0)))), (sh, oA A, gl, gr), sl) := by
  rw [EvU_iff (fun _ => false) 40]
  simp [EvS, stI, enI, caI, s_push, s_iload, s_aload, s_istore, s_astore, s_iinc, s_bin, s_div, s_i2l, s_lcmp, s_dup, s_dup2, s_pop, s_tab, s_look, s_get, s_put, s_iald, s_lald, s_aald, s_iast, s_last, s_aast, s_len, s_newa, s_new, s_thr, s_min, s_copy, s_obj, s_call, s_iret, s_aret, s_vret, go, ldI, lget, lput, lv_args, wsum, va_rf, hnd, cvr, cat_i, cat_r, cat_l, oi_of, oi_add, oi_sub, oA_ap, oA_u2, pi_lt, pi_le, pi_eq, pi_eq0, pi_lt0, pi_le0, pi_gt0, pi_ge0, pi_cl, sb_lit, fv4, isB01, nlt0, EvU_0, wO_ne, wL_ne, wC_ne, wN_ne, pO_ne, pU_ne, CN, LN, -Prod.exists, pi_ti, Op.lookupswitch.offset, EvU_at d115_0, EvU_at d115_1, EvU_at d115_4, Z115, LyS hL, LyG hL]
theorem r_within {v a b : Int} (hv : sb v) (ha : sb a) (hb : sb b) (h : Hp) (sl : Nat) (r : Out) : Ev (119, 0, [(0, .int (oi v)), (1, .int (oi a)), (2, .int (oi b))], [], h, sl) r ↔ r = (.inl (some (.int (oi (b1 (a ≤ v ∧ v ≤ b))))), h, sl) := by
  obtain ⟨sh, gi, gl, gr⟩ := h
  rw [EvU_iff (fun _ => false) 20]
  unfold b1
  by_cases h1 : a ≤ v
  · by_cases h2 : v ≤ b
    · simp [EvS, stI, enI, caI, s_push, s_iload, s_aload, s_istore, s_astore, s_iinc, s_bin, s_div, s_i2l, s_lcmp, s_dup, s_dup2, s_pop, s_tab, s_look, s_get, s_put, s_iald, s_lald, s_aald, s_iast, s_last, s_aast, s_len, s_newa, s_new, s_thr, s_min, s_copy, s_obj, s_call, s_iret, s_aret, s_vret, go, ldI, lget, lput, lv_args, wsum, va_rf, hnd, cvr, cat_i, cat_r, cat_l, oi_of, oi_add, oi_sub, oA_ap, oA_u2, pi_lt, pi_le, pi_eq, pi_eq0, pi_lt0, pi_le0, pi_gt0, pi_ge0, pi_cl, sb_lit, fv4, isB01, nlt0, EvU_0, wO_ne, wL_ne, wC_ne, wN_ne, pO_ne, pU_ne, CN, LN, -Prod.exists, pi_ti, Op.lookupswitch.offset, EvU_at d119_0, EvU_at d119_1, EvU_at d119_2, EvU_at d119_5, EvU_at d119_6, EvU_at d119_7, EvU_at d119_10, EvU_at d119_11, EvU_at d119_14, EvU_at d119_15, Z119, hv, ha, hb, h1, h2, Int.not_lt.mpr h1, Int.not_lt.mpr h2]
    · simp [EvS, stI, enI, caI, s_push, s_iload, s_aload, s_istore, s_astore, s_iinc, s_bin, s_div, s_i2l, s_lcmp, s_dup, s_dup2, s_pop, s_tab, s_look, s_get, s_put, s_iald, s_lald, s_aald, s_iast, s_last, s_aast, s_len, s_newa, s_new, s_thr, s_min, s_copy, s_obj, s_call, s_iret, s_aret, s_vret, go, ldI, lget, lput, lv_args, wsum, va_rf, hnd, cvr, cat_i, cat_r, cat_l, oi_of, oi_add, oi_sub, oA_ap, oA_u2, pi_lt, pi_le, pi_eq, pi_eq0, pi_lt0, pi_le0, pi_gt0, pi_ge0, pi_cl, sb_lit, fv4, isB01, nlt0, EvU_0, wO_ne, wL_ne, wC_ne, wN_ne, pO_ne, pU_ne, CN, LN, -Prod.exists, pi_ti, Op.lookupswitch.offset, EvU_at d119_0, EvU_at d119_1, EvU_at d119_2, EvU_at d119_5, EvU_at d119_6, EvU_at d119_7, EvU_at d119_10, EvU_at d119_11, EvU_at d119_14, EvU_at d119_15, Z119, hv, ha, hb, h1, h2, Int.not_lt.mpr h1, Int.not_le.mp h2]
  · simp [EvS, stI, enI, caI, s_push, s_iload, s_aload, s_istore, s_astore, s_iinc, s_bin, s_div, s_i2l, s_lcmp, s_dup, s_dup2, s_pop, s_tab, s_look, s_get, s_put, s_iald, s_lald, s_aald, s_iast, s_last, s_aast, s_len, s_newa, s_new, s_thr, s_min, s_copy, s_obj, s_call, s_iret, s_aret, s_vret, go, ldI, lget, lput, lv_args, wsum, va_rf, hnd, cvr, cat_i, cat_r, cat_l, oi_of, oi_add, oi_sub, oA_ap, oA_u2, pi_lt, pi_le, pi_eq, pi_eq0, pi_lt0, pi_le0, pi_gt0, pi_ge0, pi_cl, sb_lit, fv4, isB01, nlt0, EvU_0, wO_ne, wL_ne, wC_ne, wN_ne, pO_ne, pU_ne, CN, LN, -Prod.exists, pi_ti, Op.lookupswitch.offset, EvU_at d119_0, EvU_at d119_1, EvU_at d119_2, EvU_at d119_5, EvU_at d119_6, EvU_at d119_7, EvU_at d119_10, EvU_at d119_11, EvU_at d119_14, EvU_at d119_15, Z119, hv, ha, hb, h1, Int.not_le.mp h1]
theorem r_contact (hA : ∀ k j, sb (A k j)) (hL : Lay sh gr) {c : Int} (hc : sb c) : Ev (120, 0, [(0, .ref 199), (1, .int (oi c))], [], (sh, oA A, gl, gr), sl) r ↔ r = (.inl (some (.int (oi (b1 (0 ≤ c ∧ c < A 199 1))))), (sh, oA A, gl, gr), sl) := by
  rw [EvU_iff (fun _ => false) 20]
  unfold b1
  by_cases h1 : 0 ≤ c
  · by_cases h2 : c < A 199 1
    · simp [EvS, stI, enI, caI, s_push, s_iload, s_aload, s_istore, s_astore, s_iinc, s_bin, s_div, s_i2l, s_lcmp, s_dup, s_dup2, s_pop, s_tab, s_look, s_get, s_put, s_iald, s_lald, s_aald, s_iast, s_last, s_aast, s_len, s_newa, s_new, s_thr, s_min, s_copy, s_obj, s_call, s_iret, s_aret, s_vret, go, ldI, lget, lput, lv_args, wsum, va_rf, hnd, cvr, cat_i, cat_r, cat_l, oi_of, oi_add, oi_sub, oA_ap, oA_u2, pi_lt, pi_le, pi_eq, pi_eq0, pi_lt0, pi_le0, pi_gt0, pi_ge0, pi_cl, sb_lit, fv4, isB01, nlt0, EvU_0, wO_ne, wL_ne, wC_ne, wN_ne, pO_ne, pU_ne, CN, LN, -Prod.exists, pi_ti, Op.lookupswitch.offset, EvU_at d120_0, EvU_at d120_1, EvU_at d120_4, EvU_at d120_5, EvU_at d120_6, EvU_at d120_9, EvU_at d120_12, EvU_at d120_13, EvU_at d120_16, EvU_at d120_17, Z120, LyS hL, LyG hL, hc, hA, h1, h2, Int.not_lt.mpr h1, Int.not_le.mpr h2]
    · simp [EvS, stI, enI, caI, s_push, s_iload, s_aload, s_istore, s_astore, s_iinc, s_bin, s_div, s_i2l, s_lcmp, s_dup, s_dup2, s_pop, s_tab, s_look, s_get, s_put, s_iald, s_lald, s_aald, s_iast, s_last, s_aast, s_len, s_newa, s_new, s_thr, s_min, s_copy, s_obj, s_call, s_iret, s_aret, s_vret, go, ldI, lget, lput, lv_args, wsum, va_rf, hnd, cvr, cat_i, cat_r, cat_l, oi_of, oi_add, oi_sub, oA_ap, oA_u2, pi_lt, pi_le, pi_eq, pi_eq0, pi_lt0, pi_le0, pi_gt0, pi_ge0, pi_cl, sb_lit, fv4, isB01, nlt0, EvU_0, wO_ne, wL_ne, wC_ne, wN_ne, pO_ne, pU_ne, CN, LN, -Prod.exists, pi_ti, Op.lookupswitch.offset, EvU_at d120_0, EvU_at d120_1, EvU_at d120_4, EvU_at d120_5, EvU_at d120_6, EvU_at d120_9, EvU_at d120_12, EvU_at d120_13, EvU_at d120_16, EvU_at d120_17, Z120, LyS hL, LyG hL, hc, hA, h1, h2, Int.not_lt.mpr h1, Int.not_lt.mp h2]
  · simp [EvS, stI, enI, caI, s_push, s_iload, s_aload, s_istore, s_astore, s_iinc, s_bin, s_div, s_i2l, s_lcmp, s_dup, s_dup2, s_pop, s_tab, s_look, s_get, s_put, s_iald, s_lald, s_aald, s_iast, s_last, s_aast, s_len, s_newa, s_new, s_thr, s_min, s_copy, s_obj, s_call, s_iret, s_aret, s_vret, go, ldI, lget, lput, lv_args, wsum, va_rf, hnd, cvr, cat_i, cat_r, cat_l, oi_of, oi_add, oi_sub, oA_ap, oA_u2, pi_lt, pi_le, pi_eq, pi_eq0, pi_lt0, pi_le0, pi_gt0, pi_ge0, pi_cl, sb_lit, fv4, isB01, nlt0, EvU_0, wO_ne, wL_ne, wC_ne, wN_ne, pO_ne, pU_ne, CN, LN, -Prod.exists, pi_ti, Op.lookupswitch.offset, EvU_at d120_0, EvU_at d120_1, EvU_at d120_4, EvU_at d120_5, EvU_at d120_6, EvU_at d120_9, EvU_at d120_12, EvU_at d120_13, EvU_at d120_16, EvU_at d120_17, Z120, LyS hL, LyG hL, hc, hA, h1, Int.not_le.mp h1]
theorem r_message (hA : ∀ k j, sb (A k j)) (hL : Lay sh gr) {c : Int} (hc : sb c) : Ev (162, 0, [(0, .ref 199), (1, .int (oi c))], [], (sh, oA A, gl, gr), sl) r ↔ r = (.inl (some (.int (oi (b1 (0 ≤ c ∧ c < A 199 18))))), (sh, oA A, gl, gr), sl) := by
  rw [EvU_iff (fun _ => false) 20]
  unfold b1
  by_cases h1 : 0 ≤ c
  · by_cases h2 : c < A 199 18
    · simp [EvS, stI, enI, caI, s_push, s_iload, s_aload, s_istore, s_astore, s_iinc, s_bin, s_div, s_i2l, s_lcmp, s_dup, s_dup2, s_pop, s_tab, s_look, s_get, s_put, s_iald, s_lald, s_aald, s_iast, s_last, s_aast, s_len, s_newa, s_new, s_thr, s_min, s_copy, s_obj, s_call, s_iret, s_aret, s_vret, go, ldI, lget, lput, lv_args, wsum, va_rf, hnd, cvr, cat_i, cat_r, cat_l, oi_of, oi_add, oi_sub, oA_ap, oA_u2, pi_lt, pi_le, pi_eq, pi_eq0, pi_lt0, pi_le0, pi_gt0, pi_ge0, pi_cl, sb_lit, fv4, isB01, nlt0, EvU_0, wO_ne, wL_ne, wC_ne, wN_ne, pO_ne, pU_ne, CN, LN, -Prod.exists, pi_ti, Op.lookupswitch.offset, EvU_at d162_0, EvU_at d162_1, EvU_at d162_4, EvU_at d162_5, EvU_at d162_6, EvU_at d162_9, EvU_at d162_12, EvU_at d162_13, EvU_at d162_16, EvU_at d162_17, Z162, LyS hL, LyG hL, hc, hA, h1, h2, Int.not_lt.mpr h1, Int.not_le.mpr h2]
    · simp [EvS, stI, enI, caI, s_push, s_iload, s_aload, s_istore, s_astore, s_iinc, s_bin, s_div, s_i2l, s_lcmp, s_dup, s_dup2, s_pop, s_tab, s_look, s_get, s_put, s_iald, s_lald, s_aald, s_iast, s_last, s_aast, s_len, s_newa, s_new, s_thr, s_min, s_copy, s_obj, s_call, s_iret, s_aret, s_vret, go, ldI, lget, lput, lv_args, wsum, va_rf, hnd, cvr, cat_i, cat_r, cat_l, oi_of, oi_add, oi_sub, oA_ap, oA_u2, pi_lt, pi_le, pi_eq, pi_eq0, pi_lt0, pi_le0, pi_gt0, pi_ge0, pi_cl, sb_lit, fv4, isB01, nlt0, EvU_0, wO_ne, wL_ne, wC_ne, wN_ne, pO_ne, pU_ne, CN, LN, -Prod.exists, pi_ti, Op.lookupswitch.offset, EvU_at d162_0, EvU_at d162_1, EvU_at d162_4, EvU_at d162_5, EvU_at d162_6, EvU_at d162_9, EvU_at d162_12, EvU_at d162_13, EvU_at d162_16, EvU_at d162_17, Z162, LyS hL, LyG hL, hc, hA, h1, h2, Int.not_lt.mpr h1, Int.not_lt.mp h2]
  · simp [EvS, stI, enI, caI, s_push, s_iload, s_aload, s_istore, s_astore, s_iinc, s_bin, s_div, s_i2l, s_lcmp, s_dup, s_dup2, s_pop, s_tab, s_look, s_get, s_put, s_iald, s_lald, s_aald, s_iast, s_last, s_aast, s_len, s_newa, s_new, s_thr, s_min, s_copy, s_obj, s_call, s_iret, s_aret, s_vret, go, ldI, lget, lput, lv_args, wsum, va_rf, hnd, cvr, cat_i, cat_r, cat_l, oi_of, oi_add, oi_sub, oA_ap, oA_u2, pi_lt, pi_le, pi_eq, pi_eq0, pi_lt0, pi_le0, pi_gt0, pi_ge0, pi_cl, sb_lit, fv4, isB01, nlt0, EvU_0, wO_ne, wL_ne, wC_ne, wN_ne, pO_ne, pU_ne, CN, LN, -Prod.exists, pi_ti, Op.lookupswitch.offset, EvU_at d162_0, EvU_at d162_1, EvU_at d162_4, EvU_at d162_5, EvU_at d162_6, EvU_at d162_9, EvU_at d162_12, EvU_at d162_13, EvU_at d162_16, EvU_at d162_17, Z162, LyS hL, LyG hL, hc, hA, h1, Int.not_le.mp h1]
theorem sb11 : sb 11 ∧ sb 7 ∧ sb 31 := ⟨⟨by decide, by decide⟩, ⟨by decide, by decide⟩, ⟨by decide, by decide⟩⟩
theorem b1_01 (p : Prop) [Decidable p] : b1 p = 0 ∨ b1 p = 1 := by
  unfold b1
  split
  · exact Or.inr rfl
  · exact Or.inl rfl
theorem isB_b1 (p : Prop) [Decidable p] : isB (oi (b1 p)) = true := isB_oi (b1_01 p)
theorem sb_b1 (p : Prop) [Decidable p] : sb (b1 p) := by
  rcases b1_01 p with h | h <;> rw [h] <;> exact ⟨by decide, by decide⟩
theorem r_isPin {v : Int} (hv : sb v) (h : Hp) (sl : Nat) (r : Out) : Ev (129, 0, [(0, .int (oi v))], [], h, sl) r ↔ r = (.inl (some (.int (oi (b1 (0 ≤ v ∧ v ≤ 11))))), h, sl) := by
  obtain ⟨sh, gi, gl, gr⟩ := h
  rw [EvU_iff (fun _ => false) 20]
  have w := r_within hv (show sb 0 from ⟨by decide, by decide⟩) (show sb 11 from sb11.1)
  simp [EvS, stI, enI, caI, s_push, s_iload, s_aload, s_istore, s_astore, s_iinc, s_bin, s_div, s_i2l, s_lcmp, s_dup, s_dup2, s_pop, s_tab, s_look, s_get, s_put, s_iald, s_lald, s_aald, s_iast, s_last, s_aast, s_len, s_newa, s_new, s_thr, s_min, s_copy, s_obj, s_call, s_iret, s_aret, s_vret, go, ldI, lget, lput, lv_args, wsum, va_rf, hnd, cvr, cat_i, cat_r, cat_l, oi_of, oi_add, oi_sub, oA_ap, oA_u2, pi_lt, pi_le, pi_eq, pi_eq0, pi_lt0, pi_le0, pi_gt0, pi_ge0, pi_cl, sb_lit, fv4, isB01, nlt0, EvU_0, wO_ne, wL_ne, wC_ne, wN_ne, pO_ne, pU_ne, CN, LN, -Prod.exists, pi_ti, Op.lookupswitch.offset, EvU_at d129_0, EvU_at d129_1, EvU_at d129_2, EvU_at d129_4, EvU_at d129_7, Z129, Z119, w, isB_b1]
theorem r_part {a v : Int} (ha : sb a) (hv : sb v) (h : Hp) (sl : Nat) (r : Out) (h9 : h.1[199]? = some (9, 24)) : Ev (135, 0, [(0, .ref 199), (1, .int (oi a)), (2, .int (oi v))], [], h, sl) r ↔ r = (.inl (some (.int (oi (b1 (a = 0 ∧ 0 ≤ v ∧ v < 6 ∨ a = 1 ∧ 0 ≤ v ∧ v < 12))))), h, sl) := by
  obtain ⟨sh, gi, gl, gr⟩ := h
  rw [EvU_iff (fun _ => false) 20]
  have w := r_within hv (show sb 0 from ⟨by decide, by decide⟩) (show sb 5 from ⟨by decide, by decide⟩)
  have w2 := r_isPin hv
  by_cases c1 : a = 0
  · subst c1
    by_cases c2 : 0 ≤ v ∧ v ≤ 5
    · have e : b1 (0 ≤ v ∧ v ≤ 5) = 1 := if_pos c2
      have e2 : b1 ((0 : Int) = 0 ∧ 0 ≤ v ∧ v < 6 ∨ (0 : Int) = 1 ∧ 0 ≤ v ∧ v < 12) = 1 := if_pos (by omega)
      rw [e] at w
      rw [e2]
      simp [EvS, stI, enI, caI, s_push, s_iload, s_aload, s_istore, s_astore, s_iinc, s_bin, s_div, s_i2l, s_lcmp, s_dup, s_dup2, s_pop, s_tab, s_look, s_get, s_put, s_iald, s_lald, s_aald, s_iast, s_last, s_aast, s_len, s_newa, s_new, s_thr, s_min, s_copy, s_obj, s_call, s_iret, s_aret, s_vret, go, ldI, lget, lput, lv_args, wsum, va_rf, hnd, cvr, cat_i, cat_r, cat_l, oi_of, oi_add, oi_sub, oA_ap, oA_u2, pi_lt, pi_le, pi_eq, pi_eq0, pi_lt0, pi_le0, pi_gt0, pi_ge0, pi_cl, sb_lit, fv4, isB01, nlt0, EvU_0, wO_ne, wL_ne, wC_ne, wN_ne, pO_ne, pU_ne, CN, LN, -Prod.exists, pi_ti, Op.lookupswitch.offset, EvU_at d135_0, EvU_at d135_1, EvU_at d135_4, EvU_at d135_5, EvU_at d135_6, EvU_at d135_7, EvU_at d135_10, EvU_at d135_13, EvU_at d135_14, EvU_at d135_15, EvU_at d135_18, EvU_at d135_19, EvU_at d135_22, EvU_at d135_25, EvU_at d135_26, EvU_at d135_29, EvU_at d135_30, Z135, Z119, Z129, w, w2]
    · have e : b1 (0 ≤ v ∧ v ≤ 5) = 0 := if_neg c2
      have e2 : b1 ((0 : Int) = 0 ∧ 0 ≤ v ∧ v < 6 ∨ (0 : Int) = 1 ∧ 0 ≤ v ∧ v < 12) = 0 := if_neg (by omega)
      rw [e] at w
      rw [e2]
      simp [EvS, stI, enI, caI, s_push, s_iload, s_aload, s_istore, s_astore, s_iinc, s_bin, s_div, s_i2l, s_lcmp, s_dup, s_dup2, s_pop, s_tab, s_look, s_get, s_put, s_iald, s_lald, s_aald, s_iast, s_last, s_aast, s_len, s_newa, s_new, s_thr, s_min, s_copy, s_obj, s_call, s_iret, s_aret, s_vret, go, ldI, lget, lput, lv_args, wsum, va_rf, hnd, cvr, cat_i, cat_r, cat_l, oi_of, oi_add, oi_sub, oA_ap, oA_u2, pi_lt, pi_le, pi_eq, pi_eq0, pi_lt0, pi_le0, pi_gt0, pi_ge0, pi_cl, sb_lit, fv4, isB01, nlt0, EvU_0, wO_ne, wL_ne, wC_ne, wN_ne, pO_ne, pU_ne, CN, LN, -Prod.exists, pi_ti, Op.lookupswitch.offset, EvU_at d135_0, EvU_at d135_1, EvU_at d135_4, EvU_at d135_5, EvU_at d135_6, EvU_at d135_7, EvU_at d135_10, EvU_at d135_13, EvU_at d135_14, EvU_at d135_15, EvU_at d135_18, EvU_at d135_19, EvU_at d135_22, EvU_at d135_25, EvU_at d135_26, EvU_at d135_29, EvU_at d135_30, Z135, Z119, Z129, w, w2]
  · by_cases c3 : a = 1
    · subst c3
      by_cases c2 : 0 ≤ v ∧ v ≤ 11
      · have e : b1 (0 ≤ v ∧ v ≤ 11) = 1 := if_pos c2
        have e2 : b1 ((1 : Int) = 0 ∧ 0 ≤ v ∧ v < 6 ∨ (1 : Int) = 1 ∧ 0 ≤ v ∧ v < 12) = 1 := if_pos (by omega)
        rw [e] at w2
        rw [e2]
        simp [EvS, stI, enI, caI, s_push, s_iload, s_aload, s_istore, s_astore, s_iinc, s_bin, s_div, s_i2l, s_lcmp, s_dup, s_dup2, s_pop, s_tab, s_look, s_get, s_put, s_iald, s_lald, s_aald, s_iast, s_last, s_aast, s_len, s_newa, s_new, s_thr, s_min, s_copy, s_obj, s_call, s_iret, s_aret, s_vret, go, ldI, lget, lput, lv_args, wsum, va_rf, hnd, cvr, cat_i, cat_r, cat_l, oi_of, oi_add, oi_sub, oA_ap, oA_u2, pi_lt, pi_le, pi_eq, pi_eq0, pi_lt0, pi_le0, pi_gt0, pi_ge0, pi_cl, sb_lit, fv4, isB01, nlt0, EvU_0, wO_ne, wL_ne, wC_ne, wN_ne, pO_ne, pU_ne, CN, LN, -Prod.exists, pi_ti, Op.lookupswitch.offset, EvU_at d135_0, EvU_at d135_1, EvU_at d135_4, EvU_at d135_5, EvU_at d135_6, EvU_at d135_7, EvU_at d135_10, EvU_at d135_13, EvU_at d135_14, EvU_at d135_15, EvU_at d135_18, EvU_at d135_19, EvU_at d135_22, EvU_at d135_25, EvU_at d135_26, EvU_at d135_29, EvU_at d135_30, Z135, Z119, Z129, w, w2]
      · have e : b1 (0 ≤ v ∧ v ≤ 11) = 0 := if_neg c2
        have e2 : b1 ((1 : Int) = 0 ∧ 0 ≤ v ∧ v < 6 ∨ (1 : Int) = 1 ∧ 0 ≤ v ∧ v < 12) = 0 := if_neg (by omega)
        rw [e] at w2
        rw [e2]
        simp [EvS, stI, enI, caI, s_push, s_iload, s_aload, s_istore, s_astore, s_iinc, s_bin, s_div, s_i2l, s_lcmp, s_dup, s_dup2, s_pop, s_tab, s_look, s_get, s_put, s_iald, s_lald, s_aald, s_iast, s_last, s_aast, s_len, s_newa, s_new, s_thr, s_min, s_copy, s_obj, s_call, s_iret, s_aret, s_vret, go, ldI, lget, lput, lv_args, wsum, va_rf, hnd, cvr, cat_i, cat_r, cat_l, oi_of, oi_add, oi_sub, oA_ap, oA_u2, pi_lt, pi_le, pi_eq, pi_eq0, pi_lt0, pi_le0, pi_gt0, pi_ge0, pi_cl, sb_lit, fv4, isB01, nlt0, EvU_0, wO_ne, wL_ne, wC_ne, wN_ne, pO_ne, pU_ne, CN, LN, -Prod.exists, pi_ti, Op.lookupswitch.offset, EvU_at d135_0, EvU_at d135_1, EvU_at d135_4, EvU_at d135_5, EvU_at d135_6, EvU_at d135_7, EvU_at d135_10, EvU_at d135_13, EvU_at d135_14, EvU_at d135_15, EvU_at d135_18, EvU_at d135_19, EvU_at d135_22, EvU_at d135_25, EvU_at d135_26, EvU_at d135_29, EvU_at d135_30, Z135, Z119, Z129, w, w2]
    · have e2 : b1 (a = 0 ∧ 0 ≤ v ∧ v < 6 ∨ a = 1 ∧ 0 ≤ v ∧ v < 12) = 0 := if_neg (by omega)
      rw [e2]
      simp [EvS, stI, enI, caI, s_push, s_iload, s_aload, s_istore, s_astore, s_iinc, s_bin, s_div, s_i2l, s_lcmp, s_dup, s_dup2, s_pop, s_tab, s_look, s_get, s_put, s_iald, s_lald, s_aald, s_iast, s_last, s_aast, s_len, s_newa, s_new, s_thr, s_min, s_copy, s_obj, s_call, s_iret, s_aret, s_vret, go, ldI, lget, lput, lv_args, wsum, va_rf, hnd, cvr, cat_i, cat_r, cat_l, oi_of, oi_add, oi_sub, oA_ap, oA_u2, pi_lt, pi_le, pi_eq, pi_eq0, pi_lt0, pi_le0, pi_gt0, pi_ge0, pi_cl, sb_lit, fv4, isB01, nlt0, EvU_0, wO_ne, wL_ne, wC_ne, wN_ne, pO_ne, pU_ne, CN, LN, -Prod.exists, pi_ti, Op.lookupswitch.offset, EvU_at d135_0, EvU_at d135_1, EvU_at d135_4, EvU_at d135_5, EvU_at d135_6, EvU_at d135_7, EvU_at d135_10, EvU_at d135_13, EvU_at d135_14, EvU_at d135_15, EvU_at d135_18, EvU_at d135_19, EvU_at d135_22, EvU_at d135_25, EvU_at d135_26, EvU_at d135_29, EvU_at d135_30, Z135, Z119, Z129, w, w2, ha, c1, c3]
set_option maxRecDepth 20000 in
theorem r_paired (hA : ∀ k j, sb (A k j)) (hL : Lay sh gr) {p c : Nat} (hp : p < 2) (hc : c < 32) : Ev (125, 0, [(0, .ref 199), (1, .int (oi (p : Int))), (2, .int (oi (c : Int)))], [], (sh, oA A, gl, gr), sl) r ↔ r = (.inl (some (.int (oi (if A 204 (32 * p + c) = (c : Int) then 0 else 1)))), (sh, oA A, gl, gr), sl) := by
  have e0 : sb (32 * (p : Int) + (c : Int)) := ⟨by omega, by omega⟩
  have e1 : ¬ 32 * (p : Int) + (c : Int) < 0 := by omega
  have e2 : (32 * (p : Int) + (c : Int)).toNat = 32 * p + c := by omega
  have e3 : ¬ 64 ≤ 32 * p + c := by omega
  have e4 : sb (c : Int) := ⟨by omega, by omega⟩
  rw [EvU_iff (fun _ => false) 20]
  by_cases c1 : A 204 (32 * p + c) = (c : Int)
  · simp [EvS, stI, enI, caI, s_push, s_iload, s_aload, s_istore, s_astore, s_iinc, s_bin, s_div, s_i2l, s_lcmp, s_dup, s_dup2, s_pop, s_tab, s_look, s_get, s_put, s_iald, s_lald, s_aald, s_iast, s_last, s_aast, s_len, s_newa, s_new, s_thr, s_min, s_copy, s_obj, s_call, s_iret, s_aret, s_vret, go, ldI, lget, lput, lv_args, wsum, va_rf, hnd, cvr, cat_i, cat_r, cat_l, oi_of, oi_add, oi_sub, oA_ap, oA_u2, pi_lt, pi_le, pi_eq, pi_eq0, pi_lt0, pi_le0, pi_gt0, pi_ge0, pi_cl, sb_lit, fv4, isB01, nlt0, EvU_0, wO_ne, wL_ne, wC_ne, wN_ne, pO_ne, pU_ne, CN, LN, -Prod.exists, pi_ti, Op.lookupswitch.offset, EvU_at d125_0, EvU_at d125_1, EvU_at d125_4, EvU_at d125_6, EvU_at d125_7, EvU_at d125_8, EvU_at d125_9, EvU_at d125_10, EvU_at d125_11, EvU_at d125_12, EvU_at d125_15, EvU_at d125_16, EvU_at d125_19, EvU_at d125_20, Z125, LyS hL, LyG hL, hA, oi_mul, e0, e1, e2, e3, e4, c1]
  · simp [EvS, stI, enI, caI, s_push, s_iload, s_aload, s_istore, s_astore, s_iinc, s_bin, s_div, s_i2l, s_lcmp, s_dup, s_dup2, s_pop, s_tab, s_look, s_get, s_put, s_iald, s_lald, s_aald, s_iast, s_last, s_aast, s_len, s_newa, s_new, s_thr, s_min, s_copy, s_obj, s_call, s_iret, s_aret, s_vret, go, ldI, lget, lput, lv_args, wsum, va_rf, hnd, cvr, cat_i, cat_r, cat_l, oi_of, oi_add, oi_sub, oA_ap, oA_u2, pi_lt, pi_le, pi_eq, pi_eq0, pi_lt0, pi_le0, pi_gt0, pi_ge0, pi_cl, sb_lit, fv4, isB01, nlt0, EvU_0, wO_ne, wL_ne, wC_ne, wN_ne, pO_ne, pU_ne, CN, LN, -Prod.exists, pi_ti, Op.lookupswitch.offset, EvU_at d125_0, EvU_at d125_1, EvU_at d125_4, EvU_at d125_6, EvU_at d125_7, EvU_at d125_8, EvU_at d125_9, EvU_at d125_10, EvU_at d125_11, EvU_at d125_12, EvU_at d125_15, EvU_at d125_16, EvU_at d125_19, EvU_at d125_20, Z125, LyS hL, LyG hL, hA, oi_mul, e0, e1, e2, e3, e4, c1]
set_option maxRecDepth 20000 in
theorem r_notch (hA : ∀ k j, sb (A k j)) (hL : Lay sh gr) (h : RW A B) {s : Nat} (hs : s < 6) (hw : B 4 s ≠ -1) : Ev (142, 0, [(0, .ref 199), (1, .int (oi (s : Int)))], [], (sh, oA A, gl, gr), sl) r ↔ r = (.inl (some (.int (oi (B (wN (B 4 s).toNat) (B 14 s).toNat)))), (sh, oA A, gl, gr), sl) := by
  have s1 := h.M.slot s hs
  have s2 := h.C.pos s hs
  have s3 := h.M.m
  have x1 := h.R.slot s hs
  have x2 := h.P.pos s hs
  have e0 : sb (32 * B 4 s + B 14 s) := ⟨by omega, by omega⟩
  have e1 : ¬ 32 * B 4 s + B 14 s < 0 := by omega
  have e3 : ¬ 256 ≤ (32 * B 4 s + B 14 s).toNat := by omega
  have e4 : sb (s : Int) := ⟨by omega, by omega⟩
  have e5 : ¬ 6 ≤ s := by omega
  have e5' : ¬ 18 ≤ s := by omega
  have e6 : A 202 (32 * B 4 s + B 14 s).toNat = B (wN (B 4 s).toNat) (B 14 s).toNat := by
    rw [← h.R.notch _ (by omega) _ (by omega)]
    congr 1
    omega
  have e7 := isB_oi (h.M.notch (B 4 s).toNat (by omega) (B 14 s).toNat (by omega))
  rw [EvU_iff (fun _ => false) 40]
  simp [EvS, stI, enI, caI, s_push, s_iload, s_aload, s_istore, s_astore, s_iinc, s_bin, s_div, s_i2l, s_lcmp, s_dup, s_dup2, s_pop, s_tab, s_look, s_get, s_put, s_iald, s_lald, s_aald, s_iast, s_last, s_aast, s_len, s_newa, s_new, s_thr, s_min, s_copy, s_obj, s_call, s_iret, s_aret, s_vret, go, ldI, lget, lput, lv_args, wsum, va_rf, hnd, cvr, cat_i, cat_r, cat_l, oi_of, oi_add, oi_sub, oA_ap, oA_u2, pi_lt, pi_le, pi_eq, pi_eq0, pi_lt0, pi_le0, pi_gt0, pi_ge0, pi_cl, sb_lit, fv4, isB01, nlt0, EvU_0, wO_ne, wL_ne, wC_ne, wN_ne, pO_ne, pU_ne, CN, LN, -Prod.exists, pi_ti, Op.lookupswitch.offset, EvU_at d142_0, EvU_at d142_1, EvU_at d142_4, EvU_at d142_6, EvU_at d142_7, EvU_at d142_10, EvU_at d142_11, EvU_at d142_12, EvU_at d142_13, EvU_at d142_14, EvU_at d142_17, EvU_at d142_18, EvU_at d142_19, EvU_at d142_20, EvU_at d142_21, Z142, LyS hL, LyG hL, hA, oi_mul, x1, x2, e0, e1, e3, e4, e5, e5', e6, e7]
set_option maxRecDepth 20000 in
theorem r_active (hA : ∀ k j, sb (A k j)) (hL : Lay sh gr) (h : RW A B) {k : Nat} (hk : k < 12) : Ev (143, 0, [(0, .ref 199), (1, .int (oi (k : Int)))], [], (sh, oA A, gl, gr), sl) r ↔ r = (.inl (some (.int (oi (upB B k)))), (sh, oA A, gl, gr), sl) := by
  have s1 := h.M.len k hk
  have s2 := h.C.pl k hk
  have x1 := h.R.len k hk
  have x2 := h.P.pl k hk
  have q1 : sb (B (pO k) 1) := x1 ▸ hA _ _
  have q2 : sb (6 + (k : Int)) := ⟨by omega, by omega⟩
  have q3 : ¬ 6 + (k : Int) < 0 := by omega
  have q4 : (6 + (k : Int)).toNat = 6 + k := by omega
  have q5 : ¬ 18 ≤ 6 + k := by omega
  have e4 : sb (k : Int) := ⟨by omega, by omega⟩
  have e5 : ¬ 12 ≤ k := by omega
  rw [EvU_iff (fun _ => false) 40]
  unfold upB
  by_cases c : 0 < B (pO k) 1
  · have c' : ¬ B (pO k) 1 ≤ 0 := by omega
    have s3 := s2.2.1 c
    have e0 : sb (64 * (k : Int) + B 15 k) := ⟨by omega, by omega⟩
    have e1 : ¬ 64 * (k : Int) + B 15 k < 0 := by omega
    have e3 : ¬ 768 ≤ (64 * (k : Int) + B 15 k).toNat := by omega
    have e6 : A 206 (64 * (k : Int) + B 15 k).toNat = B (pU k) (B 15 k).toNat := by
      rw [← h.R.ups k hk (B 15 k).toNat (by omega)]
      congr 1
      omega
    have q6 : sb (B (pU k) (B 15 k).toNat) := e6 ▸ hA _ _
    by_cases c2 : B (pU k) (B 15 k).toNat = 0
    · simp [EvS, stI, enI, caI, s_push, s_iload, s_aload, s_istore, s_astore, s_iinc, s_bin, s_div, s_i2l, s_lcmp, s_dup, s_dup2, s_pop, s_tab, s_look, s_get, s_put, s_iald, s_lald, s_aald, s_iast, s_last, s_aast, s_len, s_newa, s_new, s_thr, s_min, s_copy, s_obj, s_call, s_iret, s_aret, s_vret, go, ldI, lget, lput, lv_args, wsum, va_rf, hnd, cvr, cat_i, cat_r, cat_l, oi_of, oi_add, oi_sub, oA_ap, oA_u2, pi_lt, pi_le, pi_eq, pi_eq0, pi_lt0, pi_le0, pi_gt0, pi_ge0, pi_cl, sb_lit, fv4, isB01, nlt0, EvU_0, wO_ne, wL_ne, wC_ne, wN_ne, pO_ne, pU_ne, CN, LN, -Prod.exists, pi_ti, Op.lookupswitch.offset, EvU_at d143_0, EvU_at d143_1, EvU_at d143_4, EvU_at d143_5, EvU_at d143_6, EvU_at d143_9, EvU_at d143_10, EvU_at d143_13, EvU_at d143_15, EvU_at d143_16, EvU_at d143_17, EvU_at d143_18, EvU_at d143_21, EvU_at d143_23, EvU_at d143_24, EvU_at d143_25, EvU_at d143_26, EvU_at d143_27, EvU_at d143_28, EvU_at d143_31, EvU_at d143_32, EvU_at d143_35, EvU_at d143_36, Z143, LyS hL, LyG hL, hA, oi_mul, x1, x2, q1, q2, q3, q4, q5, q6, c, c', c2, s3, e0, e1, e3, e4, e5, e6]
    · simp [EvS, stI, enI, caI, s_push, s_iload, s_aload, s_istore, s_astore, s_iinc, s_bin, s_div, s_i2l, s_lcmp, s_dup, s_dup2, s_pop, s_tab, s_look, s_get, s_put, s_iald, s_lald, s_aald, s_iast, s_last, s_aast, s_len, s_newa, s_new, s_thr, s_min, s_copy, s_obj, s_call, s_iret, s_aret, s_vret, go, ldI, lget, lput, lv_args, wsum, va_rf, hnd, cvr, cat_i, cat_r, cat_l, oi_of, oi_add, oi_sub, oA_ap, oA_u2, pi_lt, pi_le, pi_eq, pi_eq0, pi_lt0, pi_le0, pi_gt0, pi_ge0, pi_cl, sb_lit, fv4, isB01, nlt0, EvU_0, wO_ne, wL_ne, wC_ne, wN_ne, pO_ne, pU_ne, CN, LN, -Prod.exists, pi_ti, Op.lookupswitch.offset, EvU_at d143_0, EvU_at d143_1, EvU_at d143_4, EvU_at d143_5, EvU_at d143_6, EvU_at d143_9, EvU_at d143_10, EvU_at d143_13, EvU_at d143_15, EvU_at d143_16, EvU_at d143_17, EvU_at d143_18, EvU_at d143_21, EvU_at d143_23, EvU_at d143_24, EvU_at d143_25, EvU_at d143_26, EvU_at d143_27, EvU_at d143_28, EvU_at d143_31, EvU_at d143_32, EvU_at d143_35, EvU_at d143_36, Z143, LyS hL, LyG hL, hA, oi_mul, x1, x2, q1, q2, q3, q4, q5, q6, c, c', c2, s3, e0, e1, e3, e4, e5, e6]
  · have c' : B (pO k) 1 ≤ 0 := by omega
    have s3 : ¬ B 15 k < B (pO k) 1 := by omega
    simp [EvS, stI, enI, caI, s_push, s_iload, s_aload, s_istore, s_astore, s_iinc, s_bin, s_div, s_i2l, s_lcmp, s_dup, s_dup2, s_pop, s_tab, s_look, s_get, s_put, s_iald, s_lald, s_aald, s_iast, s_last, s_aast, s_len, s_newa, s_new, s_thr, s_min, s_copy, s_obj, s_call, s_iret, s_aret, s_vret, go, ldI, lget, lput, lv_args, wsum, va_rf, hnd, cvr, cat_i, cat_r, cat_l, oi_of, oi_add, oi_sub, oA_ap, oA_u2, pi_lt, pi_le, pi_eq, pi_eq0, pi_lt0, pi_le0, pi_gt0, pi_ge0, pi_cl, sb_lit, fv4, isB01, nlt0, EvU_0, wO_ne, wL_ne, wC_ne, wN_ne, pO_ne, pU_ne, CN, LN, -Prod.exists, pi_ti, Op.lookupswitch.offset, EvU_at d143_0, EvU_at d143_1, EvU_at d143_4, EvU_at d143_5, EvU_at d143_6, EvU_at d143_9, EvU_at d143_10, EvU_at d143_13, EvU_at d143_15, EvU_at d143_16, EvU_at d143_17, EvU_at d143_18, EvU_at d143_21, EvU_at d143_23, EvU_at d143_24, EvU_at d143_25, EvU_at d143_26, EvU_at d143_27, EvU_at d143_28, EvU_at d143_31, EvU_at d143_32, EvU_at d143_35, EvU_at d143_36, Z143, LyS hL, LyG hL, hA, oi_mul, x1, x2, q1, q2, q3, q4, q5, c, c', s3, e4, e5]
end
