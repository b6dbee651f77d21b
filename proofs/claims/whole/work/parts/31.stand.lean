/-! standings; searches through the slots -/
section
variable {sh : List (Nat × Nat)} {A : Nat → Nat → Int} {gl : Nat → Nat → Int64} {gr : Nat → Nat → Option Nat} {sl : Nat} {r : Out}
theorem oA_rowC (A : Nat → Nat → Int) (q p n : Nat) : cpy2 (oA A) q p 0 0 n = oA (rowC A q p n) := by
  funext a b
  unfold cpy2 oA rowC va_cpy
  by_cases c : a = p
  · subst c
    by_cases d : b < n
    · simp [d]
    · simp [d]
  · simp [c]
/-- a standing: its object and its two rows -/
def St (sh : List (Nat × Nat)) (gr : Nat → Nat → Option Nat) (q p k : Nat) : Prop := (sh[q]? = some (6, 2) ∧ sh[p]? = some (100, 6) ∧ sh[k]? = some (100, 12) ∧ gr q 0 = some p ∧ gr q 1 = some k) ∧ q ≠ 0 ∧ p ≠ 0 ∧ k ≠ 0
theorem St_m (hL : Lay sh gr) : St sh gr 13 14 15 := ⟨by simp [LyS hL, LyG hL], by omega, by omega, by omega⟩
theorem St_k (hL : Lay sh gr) : St sh gr 196 197 198 := ⟨by simp [LyS hL, LyG hL], by omega, by omega, by omega⟩
theorem St_g (hL : Lay sh gr) {i : Nat} (hi : i < 20) : St sh gr (gS i) (gP i) (gQ i) := ⟨by simp [LyM hL hi], (g_ne i).2.1, (g_ne i).2.2.1, (g_ne i).2.2.2.1⟩
set_option maxRecDepth 20000 in
theorem m_copy {q p k q' p' k' : Nat} (s1 : St sh gr q p k) (s2 : St sh gr q' p' k') : Ev (94, 0, [(0, .ref q), (1, .ref q')], [], (sh, oA A, gl, gr), sl) r ↔ r = (.inl none, (sh, oA (rowC (rowC A p' p 6) k' k 12), gl, gr), sl) := by
  have e6 : (oi 6).toNatClampNeg = 6 := by decide +kernel
  have e7 : (oi 12).toNatClampNeg = 12 := by decide +kernel
  have e8 : (oi 0).toNatClampNeg = 0 := by decide +kernel
  rw [EvU_iff (fun _ => false) 40]
  simp [EvS, stI, enI, caI, s_push, s_iload, s_aload, s_istore, s_astore, s_iinc, s_bin, s_div, s_i2l, s_lcmp, s_dup, s_dup2, s_pop, s_tab, s_look, s_get, s_put, s_iald, s_lald, s_aald, s_iast, s_last, s_aast, s_len, s_newa, s_new, s_thr, s_min, s_copy, s_obj, s_call, s_iret, s_aret, s_vret, go, ldI, lget, lput, lv_args, wsum, va_rf, hnd, cvr, cat_i, cat_r, cat_l, oi_of, oi_add, oi_sub, oA_ap, oA_u2, pi_lt, pi_le, pi_eq, pi_eq0, pi_lt0, pi_le0, pi_gt0, pi_ge0, pi_cl, sb_lit, fv4, isB01, nlt0, EvU_0, wO_ne, wL_ne, wC_ne, wN_ne, pO_ne, pU_ne, CN, LN, -Prod.exists, pi_ti, Op.lookupswitch.offset, EvU_at d94_0, EvU_at d94_1, EvU_at d94_4, EvU_at d94_5, EvU_at d94_6, EvU_at d94_9, EvU_at d94_10, EvU_at d94_12, EvU_at d94_15, EvU_at d94_16, EvU_at d94_19, EvU_at d94_20, EvU_at d94_21, EvU_at d94_24, EvU_at d94_25, EvU_at d94_27, EvU_at d94_30, Z94, s1.1, s2.1, s1.2, s2.2, e6, e7, e8, oA_rowC]
theorem sb_rowC (hA : ∀ k j, sb (A k j)) (q p n : Nat) : ∀ k j, sb (rowC A q p n k j) := by
  intro k j
  unfold rowC
  repeat' split
  · exact hA _ _
  · exact hA _ _
  · exact hA _ _
def thereF (A : Nat → Nat → Int) : Nat → Nat → Nat → Nat
  | 0, _, t => t
  | n + 1, k, t => thereF A n (k + 1) (if 0 < A (pO k) 1 then t + 1 else t)
set_option maxRecDepth 20000 in
theorem l_there (hA : ∀ k j, sb (A k j)) (hL : Lay sh gr) : ∀ (n k t : Nat) (ls : Lc), k + n = 12 → nl ls = true → lget ls 0 = some (.ref 2) → lget ls 1 = some (.int (oi (t : Int))) → lget ls 2 = some (.int (oi (k : Int))) →
    (Ev (112, 4, ls, [], (sh, oA A, gl, gr), sl) r ↔ r = (.inl (some (.int (oi ((thereF A n k t : Nat) : Int)))), (sh, oA A, gl, gr), sl)) := by
  intro n
  induction n with
  | zero =>
    intro k t ls hn g g0 g1 g2
    have e0 : sb (k : Int) := ⟨by omega, by omega⟩
    have e1 : (12 : Int) ≤ (k : Int) := by omega
    rw [EvU_iff (fun _ => false) 10]
    simp (maxDischargeDepth := 9) [EvS, stI, enI, caI, s_push, s_iload, s_aload, s_istore, s_astore, s_iinc, s_bin, s_div, s_i2l, s_lcmp, s_dup, s_dup2, s_pop, s_tab, s_look, s_get, s_put, s_iald, s_lald, s_aald, s_iast, s_last, s_aast, s_len, s_newa, s_new, s_thr, s_min, s_copy, s_obj, s_call, s_iret, s_aret, s_vret, go, ldI, lget_lput, nl_I, nl_R, lv_args, wsum, va_rf, hnd, cvr, cat_i, cat_r, cat_l, oi_of, oi_add, oi_sub, oA_ap, oA_u2, pi_lt, pi_le, pi_eq, pi_eq0, pi_lt0, pi_le0, pi_gt0, pi_ge0, pi_cl, sb_lit, fv4, isB01, nlt0, EvU_0, wO_ne, wL_ne, wC_ne, wN_ne, pO_ne, pU_ne, CN, LN, -Prod.exists, pi_ti, Op.lookupswitch.offset, EvU_at d112_0, EvU_at d112_1, EvU_at d112_2, EvU_at d112_3, EvU_at d112_4, EvU_at d112_5, EvU_at d112_7, EvU_at d112_10, EvU_at d112_11, EvU_at d112_14, EvU_at d112_15, EvU_at d112_16, EvU_at d112_19, EvU_at d112_22, EvU_at d112_25, EvU_at d112_28, EvU_at d112_31, EvU_at d112_32, Z112, LyS hL, LyG hL, hA, g, g0, g1, g2, e0, e1, thereF]
  | succ n ih =>
    intro k t ls hn g g0 g1 g2
    have hk : k < 12 := by omega
    have e0 : sb (k : Int) := ⟨by omega, by omega⟩
    have e1 : ¬ (12 : Int) ≤ (k : Int) := by omega
    have e2 : ¬ 12 ≤ k := by omega
    rw [EvU_iff (fun _ => false) 1]
    simp (maxDischargeDepth := 9) [EvS, stI, enI, caI, s_push, s_iload, s_aload, s_istore, s_astore, s_iinc, s_bin, s_div, s_i2l, s_lcmp, s_dup, s_dup2, s_pop, s_tab, s_look, s_get, s_put, s_iald, s_lald, s_aald, s_iast, s_last, s_aast, s_len, s_newa, s_new, s_thr, s_min, s_copy, s_obj, s_call, s_iret, s_aret, s_vret, go, ldI, lget_lput, nl_I, nl_R, lv_args, wsum, va_rf, hnd, cvr, cat_i, cat_r, cat_l, oi_of, oi_add, oi_sub, oA_ap, oA_u2, pi_lt, pi_le, pi_eq, pi_eq0, pi_lt0, pi_le0, pi_gt0, pi_ge0, pi_cl, sb_lit, fv4, isB01, nlt0, EvU_0, wO_ne, wL_ne, wC_ne, wN_ne, pO_ne, pU_ne, CN, LN, -Prod.exists, pi_ti, Op.lookupswitch.offset, EvU_at d112_0, EvU_at d112_1, EvU_at d112_2, EvU_at d112_3, EvU_at d112_4, EvU_at d112_5, EvU_at d112_7, EvU_at d112_10, EvU_at d112_11, EvU_at d112_14, EvU_at d112_15, EvU_at d112_16, EvU_at d112_19, EvU_at d112_22, EvU_at d112_25, EvU_at d112_28, EvU_at d112_31, EvU_at d112_32, Z112, LyS hL, LyG hL, hA, g, g0, g1, g2, e0]
    rw [EvU_iff (fun p => p == 4) 60]
    by_cases c : 0 < A (pO k) 1
    · have e3 : ¬ A (pO k) 1 ≤ 0 := by omega
      simp (maxDischargeDepth := 9) [EvS, stI, enI, caI, s_push, s_iload, s_aload, s_istore, s_astore, s_iinc, s_bin, s_div, s_i2l, s_lcmp, s_dup, s_dup2, s_pop, s_tab, s_look, s_get, s_put, s_iald, s_lald, s_aald, s_iast, s_last, s_aast, s_len, s_newa, s_new, s_thr, s_min, s_copy, s_obj, s_call, s_iret, s_aret, s_vret, go, ldI, lget_lput, nl_I, nl_R, lv_args, wsum, va_rf, hnd, cvr, cat_i, cat_r, cat_l, oi_of, oi_add, oi_sub, oA_ap, oA_u2, pi_lt, pi_le, pi_eq, pi_eq0, pi_lt0, pi_le0, pi_gt0, pi_ge0, pi_cl, sb_lit, fv4, isB01, nlt0, EvU_0, wO_ne, wL_ne, wC_ne, wN_ne, pO_ne, pU_ne, CN, LN, -Prod.exists, pi_ti, Op.lookupswitch.offset, EvU_at d112_0, EvU_at d112_1, EvU_at d112_2, EvU_at d112_3, EvU_at d112_4, EvU_at d112_5, EvU_at d112_7, EvU_at d112_10, EvU_at d112_11, EvU_at d112_14, EvU_at d112_15, EvU_at d112_16, EvU_at d112_19, EvU_at d112_22, EvU_at d112_25, EvU_at d112_28, EvU_at d112_31, EvU_at d112_32, Z112, LyS hL, LyG hL, LyP hL hk, hA, g, g0, g1, g2, e0, e1, e2, e3, c, thereF]
      refine ih (k + 1) (t + 1) _ ?_ ?_ ?_ ?_ ?_
      · omega
      · simp (maxDischargeDepth := 9) [lget_lput, nl_I, nl_R, g]
      · simp (maxDischargeDepth := 9) [lget_lput, nl_I, nl_R, g, g0]
      · simp (maxDischargeDepth := 9) [lget_lput, nl_I, nl_R, g]
      · simp (maxDischargeDepth := 9) [lget_lput, nl_I, nl_R, g]
    · have e3 : A (pO k) 1 ≤ 0 := by omega
      simp (maxDischargeDepth := 9) [EvS, stI, enI, caI, s_push, s_iload, s_aload, s_istore, s_astore, s_iinc, s_bin, s_div, s_i2l, s_lcmp, s_dup, s_dup2, s_pop, s_tab, s_look, s_get, s_put, s_iald, s_lald, s_aald, s_iast, s_last, s_aast, s_len, s_newa, s_new, s_thr, s_min, s_copy, s_obj, s_call, s_iret, s_aret, s_vret, go, ldI, lget_lput, nl_I, nl_R, lv_args, wsum, va_rf, hnd, cvr, cat_i, cat_r, cat_l, oi_of, oi_add, oi_sub, oA_ap, oA_u2, pi_lt, pi_le, pi_eq, pi_eq0, pi_lt0, pi_le0, pi_gt0, pi_ge0, pi_cl, sb_lit, fv4, isB01, nlt0, EvU_0, wO_ne, wL_ne, wC_ne, wN_ne, pO_ne, pU_ne, CN, LN, -Prod.exists, pi_ti, Op.lookupswitch.offset, EvU_at d112_0, EvU_at d112_1, EvU_at d112_2, EvU_at d112_3, EvU_at d112_4, EvU_at d112_5, EvU_at d112_7, EvU_at d112_10, EvU_at d112_11, EvU_at d112_14, EvU_at d112_15, EvU_at d112_16, EvU_at d112_19, EvU_at d112_22, EvU_at d112_25, EvU_at d112_28, EvU_at d112_31, EvU_at d112_32, Z112, LyS hL, LyG hL, LyP hL hk, hA, g, g0, g1, g2, e0, e1, e2, e3, c, thereF]
      refine ih (k + 1) t _ ?_ ?_ ?_ ?_ ?_
      · omega
      · simp (maxDischargeDepth := 9) [lget_lput, nl_I, nl_R, g]
      · simp (maxDischargeDepth := 9) [lget_lput, nl_I, nl_R, g, g0]
      · simp (maxDischargeDepth := 9) [lget_lput, nl_I, nl_R, g, g1]
      · simp (maxDischargeDepth := 9) [lget_lput, nl_I, nl_R, g]
set_option maxRecDepth 20000 in
theorem m_there (hA : ∀ k j, sb (A k j)) (hL : Lay sh gr) : Ev (112, 0, [(0, .ref 2)], [], (sh, oA A, gl, gr), sl) r ↔ r = (.inl (some (.int (oi ((thereF A 12 0 0 : Nat) : Int)))), (sh, oA A, gl, gr), sl) := by
  rw [EvU_iff (fun p => p == 4) 10]
  simp [EvS, stI, enI, caI, s_push, s_iload, s_aload, s_istore, s_astore, s_iinc, s_bin, s_div, s_i2l, s_lcmp, s_dup, s_dup2, s_pop, s_tab, s_look, s_get, s_put, s_iald, s_lald, s_aald, s_iast, s_last, s_aast, s_len, s_newa, s_new, s_thr, s_min, s_copy, s_obj, s_call, s_iret, s_aret, s_vret, go, ldI, lget, lput, lv_args, wsum, va_rf, hnd, cvr, cat_i, cat_r, cat_l, oi_of, oi_add, oi_sub, oA_ap, oA_u2, pi_lt, pi_le, pi_eq, pi_eq0, pi_lt0, pi_le0, pi_gt0, pi_ge0, pi_cl, sb_lit, fv4, isB01, nlt0, EvU_0, wO_ne, wL_ne, wC_ne, wN_ne, pO_ne, pU_ne, CN, LN, -Prod.exists, pi_ti, Op.lookupswitch.offset, EvU_at d112_0, EvU_at d112_1, EvU_at d112_2, EvU_at d112_3, EvU_at d112_4, EvU_at d112_5, EvU_at d112_7, EvU_at d112_10, EvU_at d112_11, EvU_at d112_14, EvU_at d112_15, EvU_at d112_16, EvU_at d112_19, EvU_at d112_22, EvU_at d112_25, EvU_at d112_28, EvU_at d112_31, EvU_at d112_32, Z112, LyS hL]
  refine l_there hA hL 12 0 0 _ rfl ?_ ?_ ?_ ?_
  · simp [nl, cat_i, cat_r]
  · simp [lget, cat_i, cat_r]
  · simp [lget, cat_i, cat_r]
  · simp [lget, cat_i, cat_r]
def elseF (A : Nat → Nat → Int) (w : Int) (t : Nat) : Nat → Nat → Int
  | 0, _ => 0
  | n + 1, s => if s ≠ t ∧ A 4 s = w then 1 else elseF A w t n (s + 1)
set_option maxRecDepth 20000 in
theorem l_else (hA : ∀ k j, sb (A k j)) (hL : Lay sh gr) {w : Int} (hw : sb w) {t : Nat} (ht : t < 6) : ∀ (n s : Nat) (ls : Lc), s + n = 6 → nl ls = true → lget ls 0 = some (.ref 2) → lget ls 1 = some (.int (oi w)) → lget ls 2 = some (.int (oi (t : Int))) → lget ls 3 = some (.int (oi (s : Int))) →
    (Ev (45, 2, ls, [], (sh, oA A, gl, gr), sl) r ↔ r = (.inl (some (.int (oi (elseF A w t n s)))), (sh, oA A, gl, gr), sl)) := by
  have e9 : sb (t : Int) := ⟨by omega, by omega⟩
  intro n
  induction n with
  | zero =>
    intro s ls hn g g0 g1 g2 g3
    have e0 : sb (s : Int) := ⟨by omega, by omega⟩
    have e1 : (6 : Int) ≤ (s : Int) := by omega
    rw [EvU_iff (fun _ => false) 10]
    simp (maxDischargeDepth := 9) [EvS, stI, enI, caI, s_push, s_iload, s_aload, s_istore, s_astore, s_iinc, s_bin, s_div, s_i2l, s_lcmp, s_dup, s_dup2, s_pop, s_tab, s_look, s_get, s_put, s_iald, s_lald, s_aald, s_iast, s_last, s_aast, s_len, s_newa, s_new, s_thr, s_min, s_copy, s_obj, s_call, s_iret, s_aret, s_vret, go, ldI, lget_lput, nl_I, nl_R, lv_args, wsum, va_rf, hnd, cvr, cat_i, cat_r, cat_l, oi_of, oi_add, oi_sub, oA_ap, oA_u2, pi_lt, pi_le, pi_eq, pi_eq0, pi_lt0, pi_le0, pi_gt0, pi_ge0, pi_cl, sb_lit, fv4, isB01, nlt0, EvU_0, wO_ne, wL_ne, wC_ne, wN_ne, pO_ne, pU_ne, CN, LN, -Prod.exists, pi_ti, Op.lookupswitch.offset, EvU_at d45_0, EvU_at d45_1, EvU_at d45_2, EvU_at d45_3, EvU_at d45_5, EvU_at d45_8, EvU_at d45_9, EvU_at d45_10, EvU_at d45_13, EvU_at d45_14, EvU_at d45_17, EvU_at d45_18, EvU_at d45_19, EvU_at d45_20, EvU_at d45_23, EvU_at d45_24, EvU_at d45_25, EvU_at d45_28, EvU_at d45_31, EvU_at d45_32, Z45, LyS hL, LyG hL, hA, g, g0, g1, g2, g3, e0, e1, elseF]
  | succ n ih =>
    intro s ls hn g g0 g1 g2 g3
    have e0 : sb (s : Int) := ⟨by omega, by omega⟩
    have e1 : ¬ (6 : Int) ≤ (s : Int) := by omega
    have e2 : ¬ 6 ≤ s := by omega
    rw [EvU_iff (fun _ => false) 1]
    simp (maxDischargeDepth := 9) [EvS, stI, enI, caI, s_push, s_iload, s_aload, s_istore, s_astore, s_iinc, s_bin, s_div, s_i2l, s_lcmp, s_dup, s_dup2, s_pop, s_tab, s_look, s_get, s_put, s_iald, s_lald, s_aald, s_iast, s_last, s_aast, s_len, s_newa, s_new, s_thr, s_min, s_copy, s_obj, s_call, s_iret, s_aret, s_vret, go, ldI, lget_lput, nl_I, nl_R, lv_args, wsum, va_rf, hnd, cvr, cat_i, cat_r, cat_l, oi_of, oi_add, oi_sub, oA_ap, oA_u2, pi_lt, pi_le, pi_eq, pi_eq0, pi_lt0, pi_le0, pi_gt0, pi_ge0, pi_cl, sb_lit, fv4, isB01, nlt0, EvU_0, wO_ne, wL_ne, wC_ne, wN_ne, pO_ne, pU_ne, CN, LN, -Prod.exists, pi_ti, Op.lookupswitch.offset, EvU_at d45_0, EvU_at d45_1, EvU_at d45_2, EvU_at d45_3, EvU_at d45_5, EvU_at d45_8, EvU_at d45_9, EvU_at d45_10, EvU_at d45_13, EvU_at d45_14, EvU_at d45_17, EvU_at d45_18, EvU_at d45_19, EvU_at d45_20, EvU_at d45_23, EvU_at d45_24, EvU_at d45_25, EvU_at d45_28, EvU_at d45_31, EvU_at d45_32, Z45, LyS hL, LyG hL, hA, g, g0, g1, g2, g3, e0]
    rw [EvU_iff (fun p => p == 2) 60]
    by_cases c : s ≠ t ∧ A 4 s = w
    · simp (maxDischargeDepth := 9) [EvS, stI, enI, caI, s_push, s_iload, s_aload, s_istore, s_astore, s_iinc, s_bin, s_div, s_i2l, s_lcmp, s_dup, s_dup2, s_pop, s_tab, s_look, s_get, s_put, s_iald, s_lald, s_aald, s_iast, s_last, s_aast, s_len, s_newa, s_new, s_thr, s_min, s_copy, s_obj, s_call, s_iret, s_aret, s_vret, go, ldI, lget_lput, nl_I, nl_R, lv_args, wsum, va_rf, hnd, cvr, cat_i, cat_r, cat_l, oi_of, oi_add, oi_sub, oA_ap, oA_u2, pi_lt, pi_le, pi_eq, pi_eq0, pi_lt0, pi_le0, pi_gt0, pi_ge0, pi_cl, sb_lit, fv4, isB01, nlt0, EvU_0, wO_ne, wL_ne, wC_ne, wN_ne, pO_ne, pU_ne, CN, LN, -Prod.exists, pi_ti, Op.lookupswitch.offset, EvU_at d45_0, EvU_at d45_1, EvU_at d45_2, EvU_at d45_3, EvU_at d45_5, EvU_at d45_8, EvU_at d45_9, EvU_at d45_10, EvU_at d45_13, EvU_at d45_14, EvU_at d45_17, EvU_at d45_18, EvU_at d45_19, EvU_at d45_20, EvU_at d45_23, EvU_at d45_24, EvU_at d45_25, EvU_at d45_28, EvU_at d45_31, EvU_at d45_32, Z45, LyS hL, LyG hL, hA, hw, g, g0, g1, g2, g3, e0, e1, e2, e9, c.1, c.2, elseF]
      intro q
      exact absurd (by omega) c.1
    · have fin : Ev (45, 2, lput ls 3 (.int (oi ((s : Int) + 1))), [], (sh, oA A, gl, gr), sl) r ↔ r = (.inl (some (.int (oi (elseF A w t n (s + 1))))), (sh, oA A, gl, gr), sl) := by
        refine ih (s + 1) _ ?_ ?_ ?_ ?_ ?_ ?_
        · omega
        · simp (maxDischargeDepth := 9) [lget_lput, nl_I, nl_R, g]
        · simp (maxDischargeDepth := 9) [lget_lput, nl_I, nl_R, g, g0]
        · simp (maxDischargeDepth := 9) [lget_lput, nl_I, nl_R, g, g1]
        · simp (maxDischargeDepth := 9) [lget_lput, nl_I, nl_R, g, g2]
        · simp (maxDischargeDepth := 9) [lget_lput, nl_I, nl_R, g]
      rw [show elseF A w t (n + 1) s = elseF A w t n (s + 1) from if_neg c]
      by_cases d : s = t
      · subst d
        simp (maxDischargeDepth := 9) [EvS, stI, enI, caI, s_push, s_iload, s_aload, s_istore, s_astore, s_iinc, s_bin, s_div, s_i2l, s_lcmp, s_dup, s_dup2, s_pop, s_tab, s_look, s_get, s_put, s_iald, s_lald, s_aald, s_iast, s_last, s_aast, s_len, s_newa, s_new, s_thr, s_min, s_copy, s_obj, s_call, s_iret, s_aret, s_vret, go, ldI, lget_lput, nl_I, nl_R, lv_args, wsum, va_rf, hnd, cvr, cat_i, cat_r, cat_l, oi_of, oi_add, oi_sub, oA_ap, oA_u2, pi_lt, pi_le, pi_eq, pi_eq0, pi_lt0, pi_le0, pi_gt0, pi_ge0, pi_cl, sb_lit, fv4, isB01, nlt0, EvU_0, wO_ne, wL_ne, wC_ne, wN_ne, pO_ne, pU_ne, CN, LN, -Prod.exists, pi_ti, Op.lookupswitch.offset, EvU_at d45_0, EvU_at d45_1, EvU_at d45_2, EvU_at d45_3, EvU_at d45_5, EvU_at d45_8, EvU_at d45_9, EvU_at d45_10, EvU_at d45_13, EvU_at d45_14, EvU_at d45_17, EvU_at d45_18, EvU_at d45_19, EvU_at d45_20, EvU_at d45_23, EvU_at d45_24, EvU_at d45_25, EvU_at d45_28, EvU_at d45_31, EvU_at d45_32, Z45, LyS hL, LyG hL, hA, hw, g, g0, g1, g2, g3, e0, e1, e2, fin]
      · have d2 : ¬ A 4 s = w := fun q => c ⟨d, q⟩
        simp (maxDischargeDepth := 9) [EvS, stI, enI, caI, s_push, s_iload, s_aload, s_istore, s_astore, s_iinc, s_bin, s_div, s_i2l, s_lcmp, s_dup, s_dup2, s_pop, s_tab, s_look, s_get, s_put, s_iald, s_lald, s_aald, s_iast, s_last, s_aast, s_len, s_newa, s_new, s_thr, s_min, s_copy, s_obj, s_call, s_iret, s_aret, s_vret, go, ldI, lget_lput, nl_I, nl_R, lv_args, wsum, va_rf, hnd, cvr, cat_i, cat_r, cat_l, oi_of, oi_add, oi_sub, oA_ap, oA_u2, pi_lt, pi_le, pi_eq, pi_eq0, pi_lt0, pi_le0, pi_gt0, pi_ge0, pi_cl, sb_lit, fv4, isB01, nlt0, EvU_0, wO_ne, wL_ne, wC_ne, wN_ne, pO_ne, pU_ne, CN, LN, -Prod.exists, pi_ti, Op.lookupswitch.offset, EvU_at d45_0, EvU_at d45_1, EvU_at d45_2, EvU_at d45_3, EvU_at d45_5, EvU_at d45_8, EvU_at d45_9, EvU_at d45_10, EvU_at d45_13, EvU_at d45_14, EvU_at d45_17, EvU_at d45_18, EvU_at d45_19, EvU_at d45_20, EvU_at d45_23, EvU_at d45_24, EvU_at d45_25, EvU_at d45_28, EvU_at d45_31, EvU_at d45_32, Z45, LyS hL, LyG hL, hA, hw, g, g0, g1, g2, g3, e0, e1, e2, e9, d, d2, fin]
set_option maxRecDepth 20000 in
theorem m_else (hA : ∀ k j, sb (A k j)) (hL : Lay sh gr) {w : Int} (hw : sb w) {t : Nat} (ht : t < 6) : Ev (45, 0, [(0, .ref 2), (1, .int (oi w)), (2, .int (oi (t : Int)))], [], (sh, oA A, gl, gr), sl) r ↔ r = (.inl (some (.int (oi (elseF A w t 6 0)))), (sh, oA A, gl, gr), sl) := by
  rw [EvU_iff (fun p => p == 2) 10]
  simp [EvS, stI, enI, caI, s_push, s_iload, s_aload, s_istore, s_astore, s_iinc, s_bin, s_div, s_i2l, s_lcmp, s_dup, s_dup2, s_pop, s_tab, s_look, s_get, s_put, s_iald, s_lald, s_aald, s_iast, s_last, s_aast, s_len, s_newa, s_new, s_thr, s_min, s_copy, s_obj, s_call, s_iret, s_aret, s_vret, go, ldI, lget, lput, lv_args, wsum, va_rf, hnd, cvr, cat_i, cat_r, cat_l, oi_of, oi_add, oi_sub, oA_ap, oA_u2, pi_lt, pi_le, pi_eq, pi_eq0, pi_lt0, pi_le0, pi_gt0, pi_ge0, pi_cl, sb_lit, fv4, isB01, nlt0, EvU_0, wO_ne, wL_ne, wC_ne, wN_ne, pO_ne, pU_ne, CN, LN, -Prod.exists, pi_ti, Op.lookupswitch.offset, EvU_at d45_0, EvU_at d45_1, EvU_at d45_2, EvU_at d45_3, EvU_at d45_5, EvU_at d45_8, EvU_at d45_9, EvU_at d45_10, EvU_at d45_13, EvU_at d45_14, EvU_at d45_17, EvU_at d45_18, EvU_at d45_19, EvU_at d45_20, EvU_at d45_23, EvU_at d45_24, EvU_at d45_25, EvU_at d45_28, EvU_at d45_31, EvU_at d45_32, Z45, LyS hL]
  refine l_else hA hL hw ht 6 0 _ rfl ?_ ?_ ?_ ?_ ?_
  · simp [nl, cat_i, cat_r]
  · simp [lget, cat_i, cat_r]
  · simp [lget, cat_i, cat_r]
  · simp [lget, cat_i, cat_r]
  · simp [lget, cat_i, cat_r]
end
