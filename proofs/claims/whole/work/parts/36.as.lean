/-! standAs; a step's outcome -/
section
variable {sh : List (Nat × Nat)} {A : Nat → Nat → Int} {gl : Nat → Nat → Int64} {gr : Nat → Nat → Option Nat} {sl : Nat} {r : Out}
set_option maxRecDepth 20000 in
theorem l_as (hL : Lay sh gr) {i : Nat} (hi : i < 20) {ln sp : Nat → Int} (h0 : ∀ j, j < 12 → 0 ≤ ln j ∧ 0 ≤ sp j) : ∀ (m k : Nat) (A : Nat → Nat → Int) (ls : Lc), k + m = 12 → (∀ k j, sb (A k j)) → (∀ j, j < 12 → A (pO j) 1 = ln j ∧ A (gQ i) j = sp j) → nl ls = true → lget ls 0 = some (.ref 2) → lget ls 1 = some (.ref (gS i)) → lget ls 2 = some (.int (oi (k : Int))) →
    (Ev (108, 10, ls, [], (sh, oA A, gl, gr), sl) r ↔ r = (.inl none, (sh, oA (fillR A 15 k 12 (fun j => if 0 < ln j then sp j % ln j else 0)), gl, gr), sl)) := by
  intro m
  induction m with
  | zero =>
    intro k A ls hn hA hh g g0 g1 g2
    obtain rfl : k = 12 := by omega
    rw [fillR_0]
    have e0 : sb ((12 : Nat) : Int) := ⟨by omega, by omega⟩
    have e1 : (12 : Int) ≤ ((12 : Nat) : Int) := by omega
    rw [EvU_iff (fun _ => false) 10]
    simp (maxDischargeDepth := 9) [EvS, stI, enI, caI, s_push, s_iload, s_aload, s_istore, s_astore, s_iinc, s_bin, s_div, s_i2l, s_lcmp, s_dup, s_dup2, s_pop, s_tab, s_look, s_get, s_put, s_iald, s_lald, s_aald, s_iast, s_last, s_aast, s_len, s_newa, s_new, s_thr, s_min, s_copy, s_obj, s_call, s_iret, s_aret, s_vret, go, ldI, lget_lput, nl_I, nl_R, lv_args, wsum, va_rf, hnd, cvr, cat_i, cat_r, cat_l, oi_of, oi_add, oi_sub, oA_ap, oA_u2, pi_lt, pi_le, pi_eq, pi_eq0, pi_lt0, pi_le0, pi_gt0, pi_ge0, pi_cl, sb_lit, fv4, isB01, nlt0, EvU_0, wO_ne, wL_ne, wC_ne, wN_ne, pO_ne, pU_ne, CN, LN, -Prod.exists, pi_ti, Op.lookupswitch.offset, EvU_at d108_0, EvU_at d108_1, EvU_at d108_4, EvU_at d108_5, EvU_at d108_8, EvU_at d108_9, EvU_at d108_10, EvU_at d108_11, EvU_at d108_13, EvU_at d108_16, EvU_at d108_17, EvU_at d108_20, EvU_at d108_21, EvU_at d108_22, EvU_at d108_25, EvU_at d108_26, EvU_at d108_27, EvU_at d108_30, EvU_at d108_33, EvU_at d108_34, EvU_at d108_35, EvU_at d108_38, EvU_at d108_39, EvU_at d108_42, EvU_at d108_43, EvU_at d108_44, EvU_at d108_45, EvU_at d108_46, EvU_at d108_49, EvU_at d108_50, EvU_at d108_51, EvU_at d108_54, EvU_at d108_57, Z108, LyS hL, LyG hL, g, g0, g1, g2, e0, e1]
  | succ m ih =>
    intro k A ls hn hA hh g g0 g1 g2
    have hk : k < 12 := by omega
    obtain ⟨l0, p0⟩ := h0 k hk
    obtain ⟨l1, p1⟩ := hh k hk
    have e0 : sb (k : Int) := ⟨by omega, by omega⟩
    have e1 : ¬ (12 : Int) ≤ (k : Int) := by omega
    have e2 : ¬ 12 ≤ k := by omega
    have sl1 : sb (ln k) := l1 ▸ hA _ _
    have sp1 : sb (sp k) := p1 ▸ hA _ _
    have keep : ∀ v : Int, ∀ j, j < 12 → u2 A 15 k v (pO j) 1 = ln j ∧ u2 A 15 k v (gQ i) j = sp j := by
      intro v j hj
      rw [uk_ne (by unfold pO; omega), uk_ne (by unfold gQ; omega)]
      exact hh j hj
    rw [EvU_iff (fun _ => false) 1]
    simp (maxDischargeDepth := 9) [EvS, stI, enI, caI, s_push, s_iload, s_aload, s_istore, s_astore, s_iinc, s_bin, s_div, s_i2l, s_lcmp, s_dup, s_dup2, s_pop, s_tab, s_look, s_get, s_put, s_iald, s_lald, s_aald, s_iast, s_last, s_aast, s_len, s_newa, s_new, s_thr, s_min, s_copy, s_obj, s_call, s_iret, s_aret, s_vret, go, ldI, lget_lput, nl_I, nl_R, lv_args, wsum, va_rf, hnd, cvr, cat_i, cat_r, cat_l, oi_of, oi_add, oi_sub, oA_ap, oA_u2, pi_lt, pi_le, pi_eq, pi_eq0, pi_lt0, pi_le0, pi_gt0, pi_ge0, pi_cl, sb_lit, fv4, isB01, nlt0, EvU_0, wO_ne, wL_ne, wC_ne, wN_ne, pO_ne, pU_ne, CN, LN, -Prod.exists, pi_ti, Op.lookupswitch.offset, EvU_at d108_0, EvU_at d108_1, EvU_at d108_4, EvU_at d108_5, EvU_at d108_8, EvU_at d108_9, EvU_at d108_10, EvU_at d108_11, EvU_at d108_13, EvU_at d108_16, EvU_at d108_17, EvU_at d108_20, EvU_at d108_21, EvU_at d108_22, EvU_at d108_25, EvU_at d108_26, EvU_at d108_27, EvU_at d108_30, EvU_at d108_33, EvU_at d108_34, EvU_at d108_35, EvU_at d108_38, EvU_at d108_39, EvU_at d108_42, EvU_at d108_43, EvU_at d108_44, EvU_at d108_45, EvU_at d108_46, EvU_at d108_49, EvU_at d108_50, EvU_at d108_51, EvU_at d108_54, EvU_at d108_57, Z108, LyS hL, LyG hL, g, g0, g1, g2, e0]
    rw [EvU_iff (fun p => p == 10) 60]
    rw [← fillR_s A (fun j => if 0 < ln j then sp j % ln j else 0) hk]
    by_cases c : 0 < ln k
    · have e3 : ¬ ln k ≤ 0 := by omega
      have e4 : ¬ ln k = 0 := by omega
      have e5 := rem_oi p0 c sp1 sl1
      have e6 : 0 ≤ sp k % ln k := Int.emod_nonneg _ (by omega)
      have e7 : sp k % ln k < ln k := Int.emod_lt_of_pos _ c
      have e8 : sb (sp k % ln k) := ⟨by omega, by have := sl1.2; omega⟩
      simp (maxDischargeDepth := 9) [EvS, stI, enI, caI, s_push, s_iload, s_aload, s_istore, s_astore, s_iinc, s_bin, s_div, s_i2l, s_lcmp, s_dup, s_dup2, s_pop, s_tab, s_look, s_get, s_put, s_iald, s_lald, s_aald, s_iast, s_last, s_aast, s_len, s_newa, s_new, s_thr, s_min, s_copy, s_obj, s_call, s_iret, s_aret, s_vret, go, ldI, lget_lput, nl_I, nl_R, lv_args, wsum, va_rf, hnd, cvr, cat_i, cat_r, cat_l, oi_of, oi_add, oi_sub, oA_ap, oA_u2, pi_lt, pi_le, pi_eq, pi_eq0, pi_lt0, pi_le0, pi_gt0, pi_ge0, pi_cl, sb_lit, fv4, isB01, nlt0, EvU_0, wO_ne, wL_ne, wC_ne, wN_ne, pO_ne, pU_ne, CN, LN, -Prod.exists, pi_ti, Op.lookupswitch.offset, EvU_at d108_0, EvU_at d108_1, EvU_at d108_4, EvU_at d108_5, EvU_at d108_8, EvU_at d108_9, EvU_at d108_10, EvU_at d108_11, EvU_at d108_13, EvU_at d108_16, EvU_at d108_17, EvU_at d108_20, EvU_at d108_21, EvU_at d108_22, EvU_at d108_25, EvU_at d108_26, EvU_at d108_27, EvU_at d108_30, EvU_at d108_33, EvU_at d108_34, EvU_at d108_35, EvU_at d108_38, EvU_at d108_39, EvU_at d108_42, EvU_at d108_43, EvU_at d108_44, EvU_at d108_45, EvU_at d108_46, EvU_at d108_49, EvU_at d108_50, EvU_at d108_51, EvU_at d108_54, EvU_at d108_57, Z108, LyS hL, LyG hL, LyP hL hk, LyM hL hi, g_ne, g, g0, g1, g2, e0, e1, e2, e3, e4, e5, l1, p1, sl1, sp1, c]
      refine ih (k + 1) _ _ ?_ (sb_u2 hA e8 _ _) (keep _) ?_ ?_ ?_ ?_
      · omega
      · simp (maxDischargeDepth := 9) [lget_lput, nl_I, nl_R, g]
      · simp (maxDischargeDepth := 9) [lget_lput, nl_I, nl_R, g, g0]
      · simp (maxDischargeDepth := 9) [lget_lput, nl_I, nl_R, g, g1]
      · simp (maxDischargeDepth := 9) [lget_lput, nl_I, nl_R, g]
    · have e3 : ln k ≤ 0 := by omega
      simp (maxDischargeDepth := 9) [EvS, stI, enI, caI, s_push, s_iload, s_aload, s_istore, s_astore, s_iinc, s_bin, s_div, s_i2l, s_lcmp, s_dup, s_dup2, s_pop, s_tab, s_look, s_get, s_put, s_iald, s_lald, s_aald, s_iast, s_last, s_aast, s_len, s_newa, s_new, s_thr, s_min, s_copy, s_obj, s_call, s_iret, s_aret, s_vret, go, ldI, lget_lput, nl_I, nl_R, lv_args, wsum, va_rf, hnd, cvr, cat_i, cat_r, cat_l, oi_of, oi_add, oi_sub, oA_ap, oA_u2, pi_lt, pi_le, pi_eq, pi_eq0, pi_lt0, pi_le0, pi_gt0, pi_ge0, pi_cl, sb_lit, fv4, isB01, nlt0, EvU_0, wO_ne, wL_ne, wC_ne, wN_ne, pO_ne, pU_ne, CN, LN, -Prod.exists, pi_ti, Op.lookupswitch.offset, EvU_at d108_0, EvU_at d108_1, EvU_at d108_4, EvU_at d108_5, EvU_at d108_8, EvU_at d108_9, EvU_at d108_10, EvU_at d108_11, EvU_at d108_13, EvU_at d108_16, EvU_at d108_17, EvU_at d108_20, EvU_at d108_21, EvU_at d108_22, EvU_at d108_25, EvU_at d108_26, EvU_at d108_27, EvU_at d108_30, EvU_at d108_33, EvU_at d108_34, EvU_at d108_35, EvU_at d108_38, EvU_at d108_39, EvU_at d108_42, EvU_at d108_43, EvU_at d108_44, EvU_at d108_45, EvU_at d108_46, EvU_at d108_49, EvU_at d108_50, EvU_at d108_51, EvU_at d108_54, EvU_at d108_57, Z108, LyS hL, LyG hL, LyP hL hk, LyM hL hi, g_ne, g, g0, g1, g2, e0, e1, e2, e3, l1, p1, sl1, sp1, c]
      refine ih (k + 1) _ _ ?_ (sb_u2 hA (show sb 0 from ⟨by omega, by omega⟩) _ _) (keep _) ?_ ?_ ?_ ?_
      · omega
      · simp (maxDischargeDepth := 9) [lget_lput, nl_I, nl_R, g]
      · simp (maxDischargeDepth := 9) [lget_lput, nl_I, nl_R, g, g0]
      · simp (maxDischargeDepth := 9) [lget_lput, nl_I, nl_R, g, g1]
      · simp (maxDischargeDepth := 9) [lget_lput, nl_I, nl_R, g]
/-- the machine stands as message i began -/
def asF (A : Nat → Nat → Int) (i : Nat) : Nat → Nat → Int := fillR (rowC (rowC A (gP i) 14 6) (gQ i) 15 12) 15 0 12 (fun j => if 0 < A (pO j) 1 then A (gQ i) j % A (pO j) 1 else 0)
set_option maxRecDepth 20000 in
theorem m_as (hA : ∀ k j, sb (A k j)) (hL : Lay sh gr) {i : Nat} (hi : i < 20) (h0 : ∀ j, j < 12 → 0 ≤ A (pO j) 1 ∧ 0 ≤ A (gQ i) j) : Ev (108, 0, [(0, .ref 2), (1, .ref (gS i))], [], (sh, oA A, gl, gr), sl) r ↔ r = (.inl none, (sh, oA (asF A i), gl, gr), sl) := by
  have cc := fun (sl : Nat) (r : Out) => m_copy (gl := gl) (sl := sl) (r := r) (A := A) (St_m hL) (St_g hL hi)
  have n1 : ∀ j, pO j ≠ 14 ∧ pO j ≠ 15 := by
    intro j
    unfold pO
    omega
  have n2 : gQ i ≠ 14 ∧ gQ i ≠ 15 := by
    unfold gQ
    omega
  rw [EvU_iff (fun p => p == 10) 20]
  simp [EvS, stI, enI, caI, s_push, s_iload, s_aload, s_istore, s_astore, s_iinc, s_bin, s_div, s_i2l, s_lcmp, s_dup, s_dup2, s_pop, s_tab, s_look, s_get, s_put, s_iald, s_lald, s_aald, s_iast, s_last, s_aast, s_len, s_newa, s_new, s_thr, s_min, s_copy, s_obj, s_call, s_iret, s_aret, s_vret, go, ldI, lget, lput, lv_args, wsum, va_rf, hnd, cvr, cat_i, cat_r, cat_l, oi_of, oi_add, oi_sub, oA_ap, oA_u2, pi_lt, pi_le, pi_eq, pi_eq0, pi_lt0, pi_le0, pi_gt0, pi_ge0, pi_cl, sb_lit, fv4, isB01, nlt0, EvU_0, wO_ne, wL_ne, wC_ne, wN_ne, pO_ne, pU_ne, CN, LN, -Prod.exists, pi_ti, Op.lookupswitch.offset, EvU_at d108_0, EvU_at d108_1, EvU_at d108_4, EvU_at d108_5, EvU_at d108_8, EvU_at d108_9, EvU_at d108_10, EvU_at d108_11, EvU_at d108_13, EvU_at d108_16, EvU_at d108_17, EvU_at d108_20, EvU_at d108_21, EvU_at d108_22, EvU_at d108_25, EvU_at d108_26, EvU_at d108_27, EvU_at d108_30, EvU_at d108_33, EvU_at d108_34, EvU_at d108_35, EvU_at d108_38, EvU_at d108_39, EvU_at d108_42, EvU_at d108_43, EvU_at d108_44, EvU_at d108_45, EvU_at d108_46, EvU_at d108_49, EvU_at d108_50, EvU_at d108_51, EvU_at d108_54, EvU_at d108_57, Z108, Z94, LyS hL, LyG hL, g_ne, cc]
  refine l_as hL hi h0 12 0 _ _ rfl (sb_rowC (sb_rowC hA _ _ _) _ _ _) ?_ ?_ ?_ ?_ ?_
  · intro j hj
    simp [rowC, n1, n2]
  · simp [nl, cat_i, cat_r]
  · simp [lget, cat_i, cat_r]
  · simp [lget, cat_i, cat_r]
  · simp [lget, cat_i, cat_r]
end
