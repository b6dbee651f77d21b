/-! put, isLike, begin, standAs -/
section
variable {sh : List (Nat × Nat)} {A : Nat → Nat → Int} {gl : Nat → Nat → Int64} {gr : Nat → Nat → Option Nat} {sl : Nat} {r : Out}
def putL : Nat → Nat → (Nat → Nat → Int) → Nat → Nat → Int
  | 0, _, A => A
  | n + 1, s, A => putL n (s + 1) (if A 4 s = -1 then A else u2 (u2 A 5 (A 2 10).toNat (s : Int)) 2 10 (A 2 10 + 1))
set_option maxRecDepth 20000 in
theorem l_put (hL : Lay sh gr) {x : Int} : ∀ (n s : Nat) (A : Nat → Nat → Int) (ls : Lc), s + n = 6 → (∀ k j, sb (A k j)) → 0 ≤ A 2 10 → A 2 10 ≤ s → nl ls = true → lget ls 0 = some (.ref 2) → lget ls 3 = some (.int (oi x)) → lget ls 4 = some (.int (oi (s : Int))) →
    (Ev (46, 22, ls, [], (sh, oA A, gl, gr), sl) r ↔ r = (.inl (some (.int (oi x))), (sh, oA (putL n s A), gl, gr), sl)) := by
  intro n
  induction n with
  | zero =>
    intro s A ls hn hA f0 f1 g g0 g3 g4
    have e0 : sb (s : Int) := ⟨by omega, by omega⟩
    have e1 : (6 : Int) ≤ (s : Int) := by omega
    rw [EvU_iff (fun _ => false) 10]
    simp (maxDischargeDepth := 9) [EvS, stI, enI, caI, s_push, s_iload, s_aload, s_istore, s_astore, s_iinc, s_bin, s_div, s_i2l, s_lcmp, s_dup, s_dup2, s_pop, s_tab, s_look, s_get, s_put, s_iald, s_lald, s_aald, s_iast, s_last, s_aast, s_len, s_newa, s_new, s_thr, s_min, s_copy, s_obj, s_call, s_iret, s_aret, s_vret, go, ldI, lget_lput, nl_I, nl_R, lv_args, wsum, va_rf, hnd, cvr, cat_i, cat_r, cat_l, oi_of, oi_add, oi_sub, oA_ap, oA_u2, pi_lt, pi_le, pi_eq, pi_eq0, pi_lt0, pi_le0, pi_gt0, pi_ge0, pi_cl, sb_lit, fv4, isB01, nlt0, EvU_0, wO_ne, wL_ne, wC_ne, wN_ne, pO_ne, pU_ne, CN, LN, -Prod.exists, pi_ti, Op.lookupswitch.offset, EvU_at d46_0, EvU_at d46_1, EvU_at d46_4, EvU_at d46_5, EvU_at d46_6, EvU_at d46_7, EvU_at d46_8, EvU_at d46_11, EvU_at d46_12, EvU_at d46_13, EvU_at d46_14, EvU_at d46_15, EvU_at d46_16, EvU_at d46_19, EvU_at d46_20, EvU_at d46_22, EvU_at d46_24, EvU_at d46_26, EvU_at d46_29, EvU_at d46_30, EvU_at d46_33, EvU_at d46_35, EvU_at d46_36, EvU_at d46_37, EvU_at d46_40, EvU_at d46_41, EvU_at d46_44, EvU_at d46_45, EvU_at d46_48, EvU_at d46_50, EvU_at d46_51, EvU_at d46_52, EvU_at d46_53, EvU_at d46_56, EvU_at d46_57, EvU_at d46_58, EvU_at d46_61, EvU_at d46_64, EvU_at d46_67, EvU_at d46_68, Z46, LyS hL, LyG hL, hA, g, g0, g3, g4, e0, e1, putL]
  | succ n ih =>
    intro s A ls hn hA f0 f1 g g0 g3 g4
    have e0 : sb (s : Int) := ⟨by omega, by omega⟩
    have e1 : ¬ (6 : Int) ≤ (s : Int) := by omega
    have e2 : ¬ 6 ≤ s := by omega
    have e3 : ¬ A 2 10 < 0 := by omega
    have e4 : ¬ 6 ≤ (A 2 10).toNat := by omega
    have e5 : sb (A 2 10 + 1) := ⟨by omega, by omega⟩
    rw [EvU_iff (fun _ => false) 1]
    simp (maxDischargeDepth := 9) [EvS, stI, enI, caI, s_push, s_iload, s_aload, s_istore, s_astore, s_iinc, s_bin, s_div, s_i2l, s_lcmp, s_dup, s_dup2, s_pop, s_tab, s_look, s_get, s_put, s_iald, s_lald, s_aald, s_iast, s_last, s_aast, s_len, s_newa, s_new, s_thr, s_min, s_copy, s_obj, s_call, s_iret, s_aret, s_vret, go, ldI, lget_lput, nl_I, nl_R, lv_args, wsum, va_rf, hnd, cvr, cat_i, cat_r, cat_l, oi_of, oi_add, oi_sub, oA_ap, oA_u2, pi_lt, pi_le, pi_eq, pi_eq0, pi_lt0, pi_le0, pi_gt0, pi_ge0, pi_cl, sb_lit, fv4, isB01, nlt0, EvU_0, wO_ne, wL_ne, wC_ne, wN_ne, pO_ne, pU_ne, CN, LN, -Prod.exists, pi_ti, Op.lookupswitch.offset, EvU_at d46_0, EvU_at d46_1, EvU_at d46_4, EvU_at d46_5, EvU_at d46_6, EvU_at d46_7, EvU_at d46_8, EvU_at d46_11, EvU_at d46_12, EvU_at d46_13, EvU_at d46_14, EvU_at d46_15, EvU_at d46_16, EvU_at d46_19, EvU_at d46_20, EvU_at d46_22, EvU_at d46_24, EvU_at d46_26, EvU_at d46_29, EvU_at d46_30, EvU_at d46_33, EvU_at d46_35, EvU_at d46_36, EvU_at d46_37, EvU_at d46_40, EvU_at d46_41, EvU_at d46_44, EvU_at d46_45, EvU_at d46_48, EvU_at d46_50, EvU_at d46_51, EvU_at d46_52, EvU_at d46_53, EvU_at d46_56, EvU_at d46_57, EvU_at d46_58, EvU_at d46_61, EvU_at d46_64, EvU_at d46_67, EvU_at d46_68, Z46, LyS hL, LyG hL, hA, g, g0, g3, g4, e0]
    rw [EvU_iff (fun p => p == 22) 60]
    by_cases c : A 4 s = -1
    · simp (maxDischargeDepth := 9) [EvS, stI, enI, caI, s_push, s_iload, s_aload, s_istore, s_astore, s_iinc, s_bin, s_div, s_i2l, s_lcmp, s_dup, s_dup2, s_pop, s_tab, s_look, s_get, s_put, s_iald, s_lald, s_aald, s_iast, s_last, s_aast, s_len, s_newa, s_new, s_thr, s_min, s_copy, s_obj, s_call, s_iret, s_aret, s_vret, go, ldI, lget_lput, nl_I, nl_R, lv_args, wsum, va_rf, hnd, cvr, cat_i, cat_r, cat_l, oi_of, oi_add, oi_sub, oA_ap, oA_u2, pi_lt, pi_le, pi_eq, pi_eq0, pi_lt0, pi_le0, pi_gt0, pi_ge0, pi_cl, sb_lit, fv4, isB01, nlt0, EvU_0, wO_ne, wL_ne, wC_ne, wN_ne, pO_ne, pU_ne, CN, LN, -Prod.exists, pi_ti, Op.lookupswitch.offset, EvU_at d46_0, EvU_at d46_1, EvU_at d46_4, EvU_at d46_5, EvU_at d46_6, EvU_at d46_7, EvU_at d46_8, EvU_at d46_11, EvU_at d46_12, EvU_at d46_13, EvU_at d46_14, EvU_at d46_15, EvU_at d46_16, EvU_at d46_19, EvU_at d46_20, EvU_at d46_22, EvU_at d46_24, EvU_at d46_26, EvU_at d46_29, EvU_at d46_30, EvU_at d46_33, EvU_at d46_35, EvU_at d46_36, EvU_at d46_37, EvU_at d46_40, EvU_at d46_41, EvU_at d46_44, EvU_at d46_45, EvU_at d46_48, EvU_at d46_50, EvU_at d46_51, EvU_at d46_52, EvU_at d46_53, EvU_at d46_56, EvU_at d46_57, EvU_at d46_58, EvU_at d46_61, EvU_at d46_64, EvU_at d46_67, EvU_at d46_68, Z46, LyS hL, LyG hL, hA, g, g0, g3, g4, e0, e1, e2, e3, e4, c, putL]
      refine ih (s + 1) _ _ ?_ hA f0 ?_ ?_ ?_ ?_ ?_
      · omega
      · omega
      · simp (maxDischargeDepth := 9) [lget_lput, nl_I, nl_R, g]
      · simp (maxDischargeDepth := 9) [lget_lput, nl_I, nl_R, g, g0]
      · simp (maxDischargeDepth := 9) [lget_lput, nl_I, nl_R, g, g3]
      · simp (maxDischargeDepth := 9) [lget_lput, nl_I, nl_R, g]
    · simp (maxDischargeDepth := 9) [EvS, stI, enI, caI, s_push, s_iload, s_aload, s_istore, s_astore, s_iinc, s_bin, s_div, s_i2l, s_lcmp, s_dup, s_dup2, s_pop, s_tab, s_look, s_get, s_put, s_iald, s_lald, s_aald, s_iast, s_last, s_aast, s_len, s_newa, s_new, s_thr, s_min, s_copy, s_obj, s_call, s_iret, s_aret, s_vret, go, ldI, lget_lput, nl_I, nl_R, lv_args, wsum, va_rf, hnd, cvr, cat_i, cat_r, cat_l, oi_of, oi_add, oi_sub, oA_ap, oA_u2, pi_lt, pi_le, pi_eq, pi_eq0, pi_lt0, pi_le0, pi_gt0, pi_ge0, pi_cl, sb_lit, fv4, isB01, nlt0, EvU_0, wO_ne, wL_ne, wC_ne, wN_ne, pO_ne, pU_ne, CN, LN, -Prod.exists, pi_ti, Op.lookupswitch.offset, EvU_at d46_0, EvU_at d46_1, EvU_at d46_4, EvU_at d46_5, EvU_at d46_6, EvU_at d46_7, EvU_at d46_8, EvU_at d46_11, EvU_at d46_12, EvU_at d46_13, EvU_at d46_14, EvU_at d46_15, EvU_at d46_16, EvU_at d46_19, EvU_at d46_20, EvU_at d46_22, EvU_at d46_24, EvU_at d46_26, EvU_at d46_29, EvU_at d46_30, EvU_at d46_33, EvU_at d46_35, EvU_at d46_36, EvU_at d46_37, EvU_at d46_40, EvU_at d46_41, EvU_at d46_44, EvU_at d46_45, EvU_at d46_48, EvU_at d46_50, EvU_at d46_51, EvU_at d46_52, EvU_at d46_53, EvU_at d46_56, EvU_at d46_57, EvU_at d46_58, EvU_at d46_61, EvU_at d46_64, EvU_at d46_67, EvU_at d46_68, Z46, LyS hL, LyG hL, hA, g, g0, g3, g4, e0, e1, e2, e3, e4, c, putL, ur]
      refine ih (s + 1) _ _ ?_ (sb_u2 (sb_u2 hA e0 _ _) e5 _ _) ?_ ?_ ?_ ?_ ?_ ?_
      · omega
      · rw [ue_eq]; omega
      · rw [ue_eq]; omega
      · simp (maxDischargeDepth := 9) [lget_lput, nl_I, nl_R, g]
      · simp (maxDischargeDepth := 9) [lget_lput, nl_I, nl_R, g, g0]
      · simp (maxDischargeDepth := 9) [lget_lput, nl_I, nl_R, g, g3]
      · simp (maxDischargeDepth := 9) [lget_lput, nl_I, nl_R, g]
set_option maxRecDepth 20000 in
theorem m_put (hA : ∀ k j, sb (A k j)) (hL : Lay sh gr) {t w : Int} (t0 : 0 ≤ t) (ht : t < 6) (hw : sb w) : Ev (46, 0, [(0, .ref 2), (1, .int (oi t)), (2, .int (oi w))], [], (sh, oA A, gl, gr), sl) r ↔
    r = (.inl (some (.int (oi (A 4 t.toNat)))), (sh, oA (putL 6 0 (u2 (u2 A 4 t.toNat w) 2 10 0)), gl, gr), sl) := by
  have e0 : sb t := ⟨by omega, by omega⟩
  have e1 : ¬ t < 0 := by omega
  have e2 : ¬ 6 ≤ t.toNat := by omega
  have e3 : sb 0 := ⟨by omega, by omega⟩
  rw [EvU_iff (fun p => p == 22) 30]
  simp [EvS, stI, enI, caI, s_push, s_iload, s_aload, s_istore, s_astore, s_iinc, s_bin, s_div, s_i2l, s_lcmp, s_dup, s_dup2, s_pop, s_tab, s_look, s_get, s_put, s_iald, s_lald, s_aald, s_iast, s_last, s_aast, s_len, s_newa, s_new, s_thr, s_min, s_copy, s_obj, s_call, s_iret, s_aret, s_vret, go, ldI, lget, lput, lv_args, wsum, va_rf, hnd, cvr, cat_i, cat_r, cat_l, oi_of, oi_add, oi_sub, oA_ap, oA_u2, pi_lt, pi_le, pi_eq, pi_eq0, pi_lt0, pi_le0, pi_gt0, pi_ge0, pi_cl, sb_lit, fv4, isB01, nlt0, EvU_0, wO_ne, wL_ne, wC_ne, wN_ne, pO_ne, pU_ne, CN, LN, -Prod.exists, pi_ti, Op.lookupswitch.offset, EvU_at d46_0, EvU_at d46_1, EvU_at d46_4, EvU_at d46_5, EvU_at d46_6, EvU_at d46_7, EvU_at d46_8, EvU_at d46_11, EvU_at d46_12, EvU_at d46_13, EvU_at d46_14, EvU_at d46_15, EvU_at d46_16, EvU_at d46_19, EvU_at d46_20, EvU_at d46_22, EvU_at d46_24, EvU_at d46_26, EvU_at d46_29, EvU_at d46_30, EvU_at d46_33, EvU_at d46_35, EvU_at d46_36, EvU_at d46_37, EvU_at d46_40, EvU_at d46_41, EvU_at d46_44, EvU_at d46_45, EvU_at d46_48, EvU_at d46_50, EvU_at d46_51, EvU_at d46_52, EvU_at d46_53, EvU_at d46_56, EvU_at d46_57, EvU_at d46_58, EvU_at d46_61, EvU_at d46_64, EvU_at d46_67, EvU_at d46_68, Z46, LyS hL, LyG hL, hA, e0, e1, e2]
  refine l_put hL 6 0 _ _ rfl (sb_u2 (sb_u2 hA hw _ _) e3 _ _) ?_ ?_ ?_ ?_ ?_ ?_
  · rw [ue_eq]; omega
  · rw [ue_eq]; omega
  · simp [nl, cat_i, cat_r]
  · simp [lget, cat_i, cat_r]
  · simp [lget, cat_i, cat_r]
  · simp [lget, cat_i, cat_r]
def likeP (A : Nat → Nat → Int) : Nat → Nat → Int
  | 0, _ => 1
  | n + 1, k => if A 15 k = A 198 k then likeP A n (k + 1) else 0
def likeS (A : Nat → Nat → Int) : Nat → Nat → Int
  | 0, _ => likeP A 12 0
  | n + 1, s => if A 14 s = A 197 s then likeS A n (s + 1) else 0
set_option maxRecDepth 20000 in
theorem l_likeP (hA : ∀ k j, sb (A k j)) (hL : Lay sh gr) : ∀ (n k : Nat) (ls : Lc), k + n = 12 → nl ls = true → lget ls 0 = some (.ref 13) → lget ls 1 = some (.ref 196) → lget ls 2 = some (.int (oi (k : Int))) →
    (Ev (96, 33, ls, [], (sh, oA A, gl, gr), sl) r ↔ r = (.inl (some (.int (oi (likeP A n k)))), (sh, oA A, gl, gr), sl)) := by
  intro n
  induction n with
  | zero =>
    intro k ls hn g g0 g1 g2
    have e0 : sb (k : Int) := ⟨by omega, by omega⟩
    have e1 : (12 : Int) ≤ (k : Int) := by omega
    rw [EvU_iff (fun _ => false) 10]
    simp (maxDischargeDepth := 9) [EvS, stI, enI, caI, s_push, s_iload, s_aload, s_istore, s_astore, s_iinc, s_bin, s_div, s_i2l, s_lcmp, s_dup, s_dup2, s_pop, s_tab, s_look, s_get, s_put, s_iald, s_lald, s_aald, s_iast, s_last, s_aast, s_len, s_newa, s_new, s_thr, s_min, s_copy, s_obj, s_call, s_iret, s_aret, s_vret, go, ldI, lget_lput, nl_I, nl_R, lv_args, wsum, va_rf, hnd, cvr, cat_i, cat_r, cat_l, oi_of, oi_add, oi_sub, oA_ap, oA_u2, pi_lt, pi_le, pi_eq, pi_eq0, pi_lt0, pi_le0, pi_gt0, pi_ge0, pi_cl, sb_lit, fv4, isB01, nlt0, EvU_0, wO_ne, wL_ne, wC_ne, wN_ne, pO_ne, pU_ne, CN, LN, -Prod.exists, pi_ti, Op.lookupswitch.offset, EvU_at d96_0, EvU_at d96_1, EvU_at d96_2, EvU_at d96_3, EvU_at d96_5, EvU_at d96_8, EvU_at d96_9, EvU_at d96_12, EvU_at d96_13, EvU_at d96_14, EvU_at d96_15, EvU_at d96_18, EvU_at d96_19, EvU_at d96_20, EvU_at d96_23, EvU_at d96_24, EvU_at d96_25, EvU_at d96_28, EvU_at d96_31, EvU_at d96_32, EvU_at d96_33, EvU_at d96_34, EvU_at d96_36, EvU_at d96_39, EvU_at d96_40, EvU_at d96_43, EvU_at d96_44, EvU_at d96_45, EvU_at d96_46, EvU_at d96_49, EvU_at d96_50, EvU_at d96_51, EvU_at d96_54, EvU_at d96_55, EvU_at d96_56, EvU_at d96_59, EvU_at d96_62, EvU_at d96_63, Z96, LyS hL, LyG hL, hA, g, g0, g1, g2, e0, e1, likeP]
  | succ n ih =>
    intro k ls hn g g0 g1 g2
    have e0 : sb (k : Int) := ⟨by omega, by omega⟩
    have e1 : ¬ (12 : Int) ≤ (k : Int) := by omega
    have e2 : ¬ 12 ≤ k := by omega
    rw [EvU_iff (fun _ => false) 1]
    simp (maxDischargeDepth := 9) [EvS, stI, enI, caI, s_push, s_iload, s_aload, s_istore, s_astore, s_iinc, s_bin, s_div, s_i2l, s_lcmp, s_dup, s_dup2, s_pop, s_tab, s_look, s_get, s_put, s_iald, s_lald, s_aald, s_iast, s_last, s_aast, s_len, s_newa, s_new, s_thr, s_min, s_copy, s_obj, s_call, s_iret, s_aret, s_vret, go, ldI, lget_lput, nl_I, nl_R, lv_args, wsum, va_rf, hnd, cvr, cat_i, cat_r, cat_l, oi_of, oi_add, oi_sub, oA_ap, oA_u2, pi_lt, pi_le, pi_eq, pi_eq0, pi_lt0, pi_le0, pi_gt0, pi_ge0, pi_cl, sb_lit, fv4, isB01, nlt0, EvU_0, wO_ne, wL_ne, wC_ne, wN_ne, pO_ne, pU_ne, CN, LN, -Prod.exists, pi_ti, Op.lookupswitch.offset, EvU_at d96_0, EvU_at d96_1, EvU_at d96_2, EvU_at d96_3, EvU_at d96_5, EvU_at d96_8, EvU_at d96_9, EvU_at d96_12, EvU_at d96_13, EvU_at d96_14, EvU_at d96_15, EvU_at d96_18, EvU_at d96_19, EvU_at d96_20, EvU_at d96_23, EvU_at d96_24, EvU_at d96_25, EvU_at d96_28, EvU_at d96_31, EvU_at d96_32, EvU_at d96_33, EvU_at d96_34, EvU_at d96_36, EvU_at d96_39, EvU_at d96_40, EvU_at d96_43, EvU_at d96_44, EvU_at d96_45, EvU_at d96_46, EvU_at d96_49, EvU_at d96_50, EvU_at d96_51, EvU_at d96_54, EvU_at d96_55, EvU_at d96_56, EvU_at d96_59, EvU_at d96_62, EvU_at d96_63, Z96, LyS hL, LyG hL, hA, g, g0, g1, g2, e0]
    rw [EvU_iff (fun p => p == 33) 60]
    by_cases c : A 15 k = A 198 k
    · simp (maxDischargeDepth := 9) [EvS, stI, enI, caI, s_push, s_iload, s_aload, s_istore, s_astore, s_iinc, s_bin, s_div, s_i2l, s_lcmp, s_dup, s_dup2, s_pop, s_tab, s_look, s_get, s_put, s_iald, s_lald, s_aald, s_iast, s_last, s_aast, s_len, s_newa, s_new, s_thr, s_min, s_copy, s_obj, s_call, s_iret, s_aret, s_vret, go, ldI, lget_lput, nl_I, nl_R, lv_args, wsum, va_rf, hnd, cvr, cat_i, cat_r, cat_l, oi_of, oi_add, oi_sub, oA_ap, oA_u2, pi_lt, pi_le, pi_eq, pi_eq0, pi_lt0, pi_le0, pi_gt0, pi_ge0, pi_cl, sb_lit, fv4, isB01, nlt0, EvU_0, wO_ne, wL_ne, wC_ne, wN_ne, pO_ne, pU_ne, CN, LN, -Prod.exists, pi_ti, Op.lookupswitch.offset, EvU_at d96_0, EvU_at d96_1, EvU_at d96_2, EvU_at d96_3, EvU_at d96_5, EvU_at d96_8, EvU_at d96_9, EvU_at d96_12, EvU_at d96_13, EvU_at d96_14, EvU_at d96_15, EvU_at d96_18, EvU_at d96_19, EvU_at d96_20, EvU_at d96_23, EvU_at d96_24, EvU_at d96_25, EvU_at d96_28, EvU_at d96_31, EvU_at d96_32, EvU_at d96_33, EvU_at d96_34, EvU_at d96_36, EvU_at d96_39, EvU_at d96_40, EvU_at d96_43, EvU_at d96_44, EvU_at d96_45, EvU_at d96_46, EvU_at d96_49, EvU_at d96_50, EvU_at d96_51, EvU_at d96_54, EvU_at d96_55, EvU_at d96_56, EvU_at d96_59, EvU_at d96_62, EvU_at d96_63, Z96, LyS hL, LyG hL, hA, g, g0, g1, g2, e0, e1, e2, c, likeP]
      refine ih (k + 1) _ ?_ ?_ ?_ ?_ ?_
      · omega
      · simp (maxDischargeDepth := 9) [lget_lput, nl_I, nl_R, g]
      · simp (maxDischargeDepth := 9) [lget_lput, nl_I, nl_R, g, g0]
      · simp (maxDischargeDepth := 9) [lget_lput, nl_I, nl_R, g, g1]
      · simp (maxDischargeDepth := 9) [lget_lput, nl_I, nl_R, g]
    · simp (maxDischargeDepth := 9) [EvS, stI, enI, caI, s_push, s_iload, s_aload, s_istore, s_astore, s_iinc, s_bin, s_div, s_i2l, s_lcmp, s_dup, s_dup2, s_pop, s_tab, s_look, s_get, s_put, s_iald, s_lald, s_aald, s_iast, s_last, s_aast, s_len, s_newa, s_new, s_thr, s_min, s_copy, s_obj, s_call, s_iret, s_aret, s_vret, go, ldI, lget_lput, nl_I, nl_R, lv_args, wsum, va_rf, hnd, cvr, cat_i, cat_r, cat_l, oi_of, oi_add, oi_sub, oA_ap, oA_u2, pi_lt, pi_le, pi_eq, pi_eq0, pi_lt0, pi_le0, pi_gt0, pi_ge0, pi_cl, sb_lit, fv4, isB01, nlt0, EvU_0, wO_ne, wL_ne, wC_ne, wN_ne, pO_ne, pU_ne, CN, LN, -Prod.exists, pi_ti, Op.lookupswitch.offset, EvU_at d96_0, EvU_at d96_1, EvU_at d96_2, EvU_at d96_3, EvU_at d96_5, EvU_at d96_8, EvU_at d96_9, EvU_at d96_12, EvU_at d96_13, EvU_at d96_14, EvU_at d96_15, EvU_at d96_18, EvU_at d96_19, EvU_at d96_20, EvU_at d96_23, EvU_at d96_24, EvU_at d96_25, EvU_at d96_28, EvU_at d96_31, EvU_at d96_32, EvU_at d96_33, EvU_at d96_34, EvU_at d96_36, EvU_at d96_39, EvU_at d96_40, EvU_at d96_43, EvU_at d96_44, EvU_at d96_45, EvU_at d96_46, EvU_at d96_49, EvU_at d96_50, EvU_at d96_51, EvU_at d96_54, EvU_at d96_55, EvU_at d96_56, EvU_at d96_59, EvU_at d96_62, EvU_at d96_63, Z96, LyS hL, LyG hL, hA, g, g0, g1, g2, e0, e1, e2, c, likeP]
set_option maxRecDepth 20000 in
theorem l_likeS (hA : ∀ k j, sb (A k j)) (hL : Lay sh gr) : ∀ (n k : Nat) (ls : Lc), k + n = 6 → nl ls = true → lget ls 0 = some (.ref 13) → lget ls 1 = some (.ref 196) → lget ls 2 = some (.int (oi (k : Int))) →
    (Ev (96, 2, ls, [], (sh, oA A, gl, gr), sl) r ↔ r = (.inl (some (.int (oi (likeS A n k)))), (sh, oA A, gl, gr), sl)) := by
  intro n
  induction n with
  | zero =>
    intro k ls hn g g0 g1 g2
    have e0 : sb (k : Int) := ⟨by omega, by omega⟩
    have e1 : (6 : Int) ≤ (k : Int) := by omega
    rw [EvU_iff (fun p => p == 33) 10]
    simp (maxDischargeDepth := 9) [EvS, stI, enI, caI, s_push, s_iload, s_aload, s_istore, s_astore, s_iinc, s_bin, s_div, s_i2l, s_lcmp, s_dup, s_dup2, s_pop, s_tab, s_look, s_get, s_put, s_iald, s_lald, s_aald, s_iast, s_last, s_aast, s_len, s_newa, s_new, s_thr, s_min, s_copy, s_obj, s_call, s_iret, s_aret, s_vret, go, ldI, lget_lput, nl_I, nl_R, lv_args, wsum, va_rf, hnd, cvr, cat_i, cat_r, cat_l, oi_of, oi_add, oi_sub, oA_ap, oA_u2, pi_lt, pi_le, pi_eq, pi_eq0, pi_lt0, pi_le0, pi_gt0, pi_ge0, pi_cl, sb_lit, fv4, isB01, nlt0, EvU_0, wO_ne, wL_ne, wC_ne, wN_ne, pO_ne, pU_ne, CN, LN, -Prod.exists, pi_ti, Op.lookupswitch.offset, EvU_at d96_0, EvU_at d96_1, EvU_at d96_2, EvU_at d96_3, EvU_at d96_5, EvU_at d96_8, EvU_at d96_9, EvU_at d96_12, EvU_at d96_13, EvU_at d96_14, EvU_at d96_15, EvU_at d96_18, EvU_at d96_19, EvU_at d96_20, EvU_at d96_23, EvU_at d96_24, EvU_at d96_25, EvU_at d96_28, EvU_at d96_31, EvU_at d96_32, EvU_at d96_33, EvU_at d96_34, EvU_at d96_36, EvU_at d96_39, EvU_at d96_40, EvU_at d96_43, EvU_at d96_44, EvU_at d96_45, EvU_at d96_46, EvU_at d96_49, EvU_at d96_50, EvU_at d96_51, EvU_at d96_54, EvU_at d96_55, EvU_at d96_56, EvU_at d96_59, EvU_at d96_62, EvU_at d96_63, Z96, LyS hL, LyG hL, hA, g, g0, g1, g2, e0, e1, likeS]
    refine l_likeP hA hL 12 0 _ rfl ?_ ?_ ?_ ?_
    · simp (maxDischargeDepth := 9) [lget_lput, nl_I, nl_R, g]
    · simp (maxDischargeDepth := 9) [lget_lput, nl_I, nl_R, g, g0]
    · simp (maxDischargeDepth := 9) [lget_lput, nl_I, nl_R, g, g1]
    · simp (maxDischargeDepth := 9) [lget_lput, nl_I, nl_R, g]
  | succ n ih =>
    intro k ls hn g g0 g1 g2
    have e0 : sb (k : Int) := ⟨by omega, by omega⟩
    have e1 : ¬ (6 : Int) ≤ (k : Int) := by omega
    have e2 : ¬ 6 ≤ k := by omega
    rw [EvU_iff (fun _ => false) 1]
    simp (maxDischargeDepth := 9) [EvS, stI, enI, caI, s_push, s_iload, s_aload, s_istore, s_astore, s_iinc, s_bin, s_div, s_i2l, s_lcmp, s_dup, s_dup2, s_pop, s_tab, s_look, s_get, s_put, s_iald, s_lald, s_aald, s_iast, s_last, s_aast, s_len, s_newa, s_new, s_thr, s_min, s_copy, s_obj, s_call, s_iret, s_aret, s_vret, go, ldI, lget_lput, nl_I, nl_R, lv_args, wsum, va_rf, hnd, cvr, cat_i, cat_r, cat_l, oi_of, oi_add, oi_sub, oA_ap, oA_u2, pi_lt, pi_le, pi_eq, pi_eq0, pi_lt0, pi_le0, pi_gt0, pi_ge0, pi_cl, sb_lit, fv4, isB01, nlt0, EvU_0, wO_ne, wL_ne, wC_ne, wN_ne, pO_ne, pU_ne, CN, LN, -Prod.exists, pi_ti, Op.lookupswitch.offset, EvU_at d96_0, EvU_at d96_1, EvU_at d96_2, EvU_at d96_3, EvU_at d96_5, EvU_at d96_8, EvU_at d96_9, EvU_at d96_12, EvU_at d96_13, EvU_at d96_14, EvU_at d96_15, EvU_at d96_18, EvU_at d96_19, EvU_at d96_20, EvU_at d96_23, EvU_at d96_24, EvU_at d96_25, EvU_at d96_28, EvU_at d96_31, EvU_at d96_32, EvU_at d96_33, EvU_at d96_34, EvU_at d96_36, EvU_at d96_39, EvU_at d96_40, EvU_at d96_43, EvU_at d96_44, EvU_at d96_45, EvU_at d96_46, EvU_at d96_49, EvU_at d96_50, EvU_at d96_51, EvU_at d96_54, EvU_at d96_55, EvU_at d96_56, EvU_at d96_59, EvU_at d96_62, EvU_at d96_63, Z96, LyS hL, LyG hL, hA, g, g0, g1, g2, e0]
    rw [EvU_iff (fun p => p == 2) 60]
    by_cases c : A 14 k = A 197 k
    · simp (maxDischargeDepth := 9) [EvS, stI, enI, caI, s_push, s_iload, s_aload, s_istore, s_astore, s_iinc, s_bin, s_div, s_i2l, s_lcmp, s_dup, s_dup2, s_pop, s_tab, s_look, s_get, s_put, s_iald, s_lald, s_aald, s_iast, s_last, s_aast, s_len, s_newa, s_new, s_thr, s_min, s_copy, s_obj, s_call, s_iret, s_aret, s_vret, go, ldI, lget_lput, nl_I, nl_R, lv_args, wsum, va_rf, hnd, cvr, cat_i, cat_r, cat_l, oi_of, oi_add, oi_sub, oA_ap, oA_u2, pi_lt, pi_le, pi_eq, pi_eq0, pi_lt0, pi_le0, pi_gt0, pi_ge0, pi_cl, sb_lit, fv4, isB01, nlt0, EvU_0, wO_ne, wL_ne, wC_ne, wN_ne, pO_ne, pU_ne, CN, LN, -Prod.exists, pi_ti, Op.lookupswitch.offset, EvU_at d96_0, EvU_at d96_1, EvU_at d96_2, EvU_at d96_3, EvU_at d96_5, EvU_at d96_8, EvU_at d96_9, EvU_at d96_12, EvU_at d96_13, EvU_at d96_14, EvU_at d96_15, EvU_at d96_18, EvU_at d96_19, EvU_at d96_20, EvU_at d96_23, EvU_at d96_24, EvU_at d96_25, EvU_at d96_28, EvU_at d96_31, EvU_at d96_32, EvU_at d96_33, EvU_at d96_34, EvU_at d96_36, EvU_at d96_39, EvU_at d96_40, EvU_at d96_43, EvU_at d96_44, EvU_at d96_45, EvU_at d96_46, EvU_at d96_49, EvU_at d96_50, EvU_at d96_51, EvU_at d96_54, EvU_at d96_55, EvU_at d96_56, EvU_at d96_59, EvU_at d96_62, EvU_at d96_63, Z96, LyS hL, LyG hL, hA, g, g0, g1, g2, e0, e1, e2, c, likeS]
      refine ih (k + 1) _ ?_ ?_ ?_ ?_ ?_
      · omega
      · simp (maxDischargeDepth := 9) [lget_lput, nl_I, nl_R, g]
      · simp (maxDischargeDepth := 9) [lget_lput, nl_I, nl_R, g, g0]
      · simp (maxDischargeDepth := 9) [lget_lput, nl_I, nl_R, g, g1]
      · simp (maxDischargeDepth := 9) [lget_lput, nl_I, nl_R, g]
    · simp (maxDischargeDepth := 9) [EvS, stI, enI, caI, s_push, s_iload, s_aload, s_istore, s_astore, s_iinc, s_bin, s_div, s_i2l, s_lcmp, s_dup, s_dup2, s_pop, s_tab, s_look, s_get, s_put, s_iald, s_lald, s_aald, s_iast, s_last, s_aast, s_len, s_newa, s_new, s_thr, s_min, s_copy, s_obj, s_call, s_iret, s_aret, s_vret, go, ldI, lget_lput, nl_I, nl_R, lv_args, wsum, va_rf, hnd, cvr, cat_i, cat_r, cat_l, oi_of, oi_add, oi_sub, oA_ap, oA_u2, pi_lt, pi_le, pi_eq, pi_eq0, pi_lt0, pi_le0, pi_gt0, pi_ge0, pi_cl, sb_lit, fv4, isB01, nlt0, EvU_0, wO_ne, wL_ne, wC_ne, wN_ne, pO_ne, pU_ne, CN, LN, -Prod.exists, pi_ti, Op.lookupswitch.offset, EvU_at d96_0, EvU_at d96_1, EvU_at d96_2, EvU_at d96_3, EvU_at d96_5, EvU_at d96_8, EvU_at d96_9, EvU_at d96_12, EvU_at d96_13, EvU_at d96_14, EvU_at d96_15, EvU_at d96_18, EvU_at d96_19, EvU_at d96_20, EvU_at d96_23, EvU_at d96_24, EvU_at d96_25, EvU_at d96_28, EvU_at d96_31, EvU_at d96_32, EvU_at d96_33, EvU_at d96_34, EvU_at d96_36, EvU_at d96_39, EvU_at d96_40, EvU_at d96_43, EvU_at d96_44, EvU_at d96_45, EvU_at d96_46, EvU_at d96_49, EvU_at d96_50, EvU_at d96_51, EvU_at d96_54, EvU_at d96_55, EvU_at d96_56, EvU_at d96_59, EvU_at d96_62, EvU_at d96_63, Z96, LyS hL, LyG hL, hA, g, g0, g1, g2, e0, e1, e2, c, likeS]
set_option maxRecDepth 20000 in
theorem m_like (hA : ∀ k j, sb (A k j)) (hL : Lay sh gr) : Ev (96, 0, [(0, .ref 13), (1, .ref 196)], [], (sh, oA A, gl, gr), sl) r ↔ r = (.inl (some (.int (oi (likeS A 6 0)))), (sh, oA A, gl, gr), sl) := by
  rw [EvU_iff (fun p => p == 2) 10]
  simp [EvS, stI, enI, caI, s_push, s_iload, s_aload, s_istore, s_astore, s_iinc, s_bin, s_div, s_i2l, s_lcmp, s_dup, s_dup2, s_pop, s_tab, s_look, s_get, s_put, s_iald, s_lald, s_aald, s_iast, s_last, s_aast, s_len, s_newa, s_new, s_thr, s_min, s_copy, s_obj, s_call, s_iret, s_aret, s_vret, go, ldI, lget, lput, lv_args, wsum, va_rf, hnd, cvr, cat_i, cat_r, cat_l, oi_of, oi_add, oi_sub, oA_ap, oA_u2, pi_lt, pi_le, pi_eq, pi_eq0, pi_lt0, pi_le0, pi_gt0, pi_ge0, pi_cl, sb_lit, fv4, isB01, nlt0, EvU_0, wO_ne, wL_ne, wC_ne, wN_ne, pO_ne, pU_ne, CN, LN, -Prod.exists, pi_ti, Op.lookupswitch.offset, EvU_at d96_0, EvU_at d96_1, EvU_at d96_2, EvU_at d96_3, EvU_at d96_5, EvU_at d96_8, EvU_at d96_9, EvU_at d96_12, EvU_at d96_13, EvU_at d96_14, EvU_at d96_15, EvU_at d96_18, EvU_at d96_19, EvU_at d96_20, EvU_at d96_23, EvU_at d96_24, EvU_at d96_25, EvU_at d96_28, EvU_at d96_31, EvU_at d96_32, EvU_at d96_33, EvU_at d96_34, EvU_at d96_36, EvU_at d96_39, EvU_at d96_40, EvU_at d96_43, EvU_at d96_44, EvU_at d96_45, EvU_at d96_46, EvU_at d96_49, EvU_at d96_50, EvU_at d96_51, EvU_at d96_54, EvU_at d96_55, EvU_at d96_56, EvU_at d96_59, EvU_at d96_62, EvU_at d96_63, Z96, LyS hL]
  refine l_likeS hA hL 6 0 _ rfl ?_ ?_ ?_ ?_
  · simp [nl, cat_i, cat_r]
  · simp [lget, cat_i, cat_r]
  · simp [lget, cat_i, cat_r]
  · simp [lget, cat_i, cat_r]
set_option maxRecDepth 20000 in
theorem m_begin (hA : ∀ k j, sb (A k j)) (hL : Lay sh gr) {i : Nat} (hi : i < 20) (h1 : A 74 1 = (i : Int)) : Ev (99, 0, [(0, .ref 74), (1, .ref 13)], [], (sh, oA A, gl, gr), sl) r ↔
    r = (.inl (some (.int (oi (i : Int)))), (sh, oA (u2 (u2 (u2 (rowC (rowC A 14 (gP i) 6) 15 (gQ i) 12) (gO i) 3 0) 74 2 1) 74 1 ((i : Int) + 1)), gl, gr), sl) := by
  have e0 : sb (i : Int) := ⟨by omega, by omega⟩
  have e1 : ¬ 20 ≤ i := by omega
  have e4 : (i : Int) + 1 - 1 = i := by omega
  have n1 : 74 ≠ gO i := by unfold gO; omega
  have n2 : 74 ≠ gP i := by unfold gP; omega
  have n3 : 74 ≠ gQ i := by unfold gQ; omega
  have n4 : rowC (rowC A 14 (gP i) 6) 15 (gQ i) 12 74 1 = (i : Int) := by simp [rowC, n2, n3, h1]
  have cc := fun (sl : Nat) (r : Out) => m_copy (gl := gl) (sl := sl) (r := r) (A := A) (St_g hL hi) (St_m hL)
  rw [EvU_iff (fun _ => false) 60]
  simp [EvS, stI, enI, caI, s_push, s_iload, s_aload, s_istore, s_astore, s_iinc, s_bin, s_div, s_i2l, s_lcmp, s_dup, s_dup2, s_pop, s_tab, s_look, s_get, s_put, s_iald, s_lald, s_aald, s_iast, s_last, s_aast, s_len, s_newa, s_new, s_thr, s_min, s_copy, s_obj, s_call, s_iret, s_aret, s_vret, go, ldI, lget, lput, lv_args, wsum, va_rf, hnd, cvr, cat_i, cat_r, cat_l, oi_of, oi_add, oi_sub, oA_ap, oA_u2, pi_lt, pi_le, pi_eq, pi_eq0, pi_lt0, pi_le0, pi_gt0, pi_ge0, pi_cl, sb_lit, fv4, isB01, nlt0, EvU_0, wO_ne, wL_ne, wC_ne, wN_ne, pO_ne, pU_ne, CN, LN, -Prod.exists, pi_ti, Op.lookupswitch.offset, EvU_at d99_0, EvU_at d99_1, EvU_at d99_4, EvU_at d99_5, EvU_at d99_8, EvU_at d99_9, EvU_at d99_12, EvU_at d99_13, EvU_at d99_16, EvU_at d99_17, EvU_at d99_20, EvU_at d99_21, EvU_at d99_24, EvU_at d99_25, EvU_at d99_26, EvU_at d99_29, EvU_at d99_30, EvU_at d99_31, EvU_at d99_34, EvU_at d99_35, EvU_at d99_36, EvU_at d99_39, EvU_at d99_40, EvU_at d99_41, EvU_at d99_44, EvU_at d99_45, EvU_at d99_48, EvU_at d99_49, EvU_at d99_50, Z99, Z94, LyS hL, LyG hL, LyM hL hi, g_ne, hA, h1, e0, e1, e4, ur, n1, n4, cc]
end
