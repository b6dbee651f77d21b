/-! clearing -/
section
variable {sh : List (Nat × Nat)} {A : Nat → Nat → Int} {gl : Nat → Nat → Int64} {gr : Nat → Nat → Option Nat} {sl : Nat} {r : Out}
/-- row q from cell i to cell n filled by f -/
def fillR (A : Nat → Nat → Int) (q i n : Nat) (f : Nat → Int) : Nat → Nat → Int := fun a b => if a = q then (if i ≤ b ∧ b < n then f b else A a b) else A a b
theorem fillR_0 (A : Nat → Nat → Int) (q n : Nat) (f : Nat → Int) : fillR A q n n f = A := by
  funext a b
  unfold fillR
  split
  · rw [if_neg (by omega)]
  · rfl
theorem fillR_s (A : Nat → Nat → Int) {q i n : Nat} (f : Nat → Int) (h : i < n) : fillR (u2 A q i (f i)) q (i + 1) n f = fillR A q i n f := by
  funext a b
  unfold fillR u2
  by_cases c : a = q
  · by_cases d : b = i
    · subst d
      simp [c, h]
    · have e : (i + 1 ≤ b ∧ b < n) ↔ (i ≤ b ∧ b < n) := by omega
      simp [c, d, e]
  · simp [c]
theorem sb_fillR (hA : ∀ k j, sb (A k j)) (q i n : Nat) {f : Nat → Int} (hf : ∀ j, j < n → sb (f j)) : ∀ k j, sb (fillR A q i n f k j) := by
  intro k j
  unfold fillR
  split
  · split
    · exact hf _ (by omega)
    · exact hA _ _
  · exact hA _ _
theorem ofNat_oi (n : Nat) : Int32.ofNat n = oi (n : Int) := rfl
set_option maxRecDepth 20000 in
theorem l_fill {q n : Nat} (hq : sh[q]? = some (100, n)) (q0 : q ≠ 0) (hn : n < 2048) {v : Int} : ∀ (m i : Nat) (A : Nat → Nat → Int) (ls : Lc), i + m = n → nl ls = true → lget ls 0 = some (.ref q) → lget ls 1 = some (.int (oi v)) → lget ls 2 = some (.int (oi (i : Int))) → lget ls 3 = some (.int (oi (n : Int))) →
    (Ev (13, 5, ls, [], (sh, oA A, gl, gr), sl) r ↔ r = (.inl none, (sh, oA (fillR A q i n (fun _ => v)), gl, gr), sl)) := by
  have e9 : sb (n : Int) := ⟨by omega, by omega⟩
  intro m
  induction m with
  | zero =>
    intro i A ls hi g g0 g1 g2 g3
    obtain rfl : i = n := by omega
    rw [fillR_0]
    rw [EvU_iff (fun _ => false) 10]
    simp (maxDischargeDepth := 9) [EvS, stI, enI, caI, s_push, s_iload, s_aload, s_istore, s_astore, s_iinc, s_bin, s_div, s_i2l, s_lcmp, s_dup, s_dup2, s_pop, s_tab, s_look, s_get, s_put, s_iald, s_lald, s_aald, s_iast, s_last, s_aast, s_len, s_newa, s_new, s_thr, s_min, s_copy, s_obj, s_call, s_iret, s_aret, s_vret, go, ldI, lget_lput, nl_I, nl_R, lv_args, wsum, va_rf, hnd, cvr, cat_i, cat_r, cat_l, oi_of, oi_add, oi_sub, oA_ap, oA_u2, pi_lt, pi_le, pi_eq, pi_eq0, pi_lt0, pi_le0, pi_gt0, pi_ge0, pi_cl, sb_lit, fv4, isB01, nlt0, EvU_0, wO_ne, wL_ne, wC_ne, wN_ne, pO_ne, pU_ne, CN, LN, -Prod.exists, pi_ti, Op.lookupswitch.offset, EvU_at d13_0, EvU_at d13_1, EvU_at d13_2, EvU_at d13_3, EvU_at d13_4, EvU_at d13_5, EvU_at d13_6, EvU_at d13_7, EvU_at d13_10, EvU_at d13_11, EvU_at d13_12, EvU_at d13_13, EvU_at d13_14, EvU_at d13_17, EvU_at d13_20, Z13, g, g0, g1, g2, g3, e9]
  | succ m ih =>
    intro i A ls hi g g0 g1 g2 g3
    have e0 : sb (i : Int) := ⟨by omega, by omega⟩
    have e1 : ¬ n ≤ i := by omega
    rw [EvU_iff (fun _ => false) 1]
    simp (maxDischargeDepth := 9) [EvS, stI, enI, caI, s_push, s_iload, s_aload, s_istore, s_astore, s_iinc, s_bin, s_div, s_i2l, s_lcmp, s_dup, s_dup2, s_pop, s_tab, s_look, s_get, s_put, s_iald, s_lald, s_aald, s_iast, s_last, s_aast, s_len, s_newa, s_new, s_thr, s_min, s_copy, s_obj, s_call, s_iret, s_aret, s_vret, go, ldI, lget_lput, nl_I, nl_R, lv_args, wsum, va_rf, hnd, cvr, cat_i, cat_r, cat_l, oi_of, oi_add, oi_sub, oA_ap, oA_u2, pi_lt, pi_le, pi_eq, pi_eq0, pi_lt0, pi_le0, pi_gt0, pi_ge0, pi_cl, sb_lit, fv4, isB01, nlt0, EvU_0, wO_ne, wL_ne, wC_ne, wN_ne, pO_ne, pU_ne, CN, LN, -Prod.exists, pi_ti, Op.lookupswitch.offset, EvU_at d13_0, EvU_at d13_1, EvU_at d13_2, EvU_at d13_3, EvU_at d13_4, EvU_at d13_5, EvU_at d13_6, EvU_at d13_7, EvU_at d13_10, EvU_at d13_11, EvU_at d13_12, EvU_at d13_13, EvU_at d13_14, EvU_at d13_17, EvU_at d13_20, Z13, g, g0, g1, g2, g3, e0]
    rw [EvU_iff (fun p => p == 5) 60]
    rw [← fillR_s A (fun _ => v) (show i < n by omega)]
    simp (maxDischargeDepth := 9) [EvS, stI, enI, caI, s_push, s_iload, s_aload, s_istore, s_astore, s_iinc, s_bin, s_div, s_i2l, s_lcmp, s_dup, s_dup2, s_pop, s_tab, s_look, s_get, s_put, s_iald, s_lald, s_aald, s_iast, s_last, s_aast, s_len, s_newa, s_new, s_thr, s_min, s_copy, s_obj, s_call, s_iret, s_aret, s_vret, go, ldI, lget_lput, nl_I, nl_R, lv_args, wsum, va_rf, hnd, cvr, cat_i, cat_r, cat_l, oi_of, oi_add, oi_sub, oA_ap, oA_u2, pi_lt, pi_le, pi_eq, pi_eq0, pi_lt0, pi_le0, pi_gt0, pi_ge0, pi_cl, sb_lit, fv4, isB01, nlt0, EvU_0, wO_ne, wL_ne, wC_ne, wN_ne, pO_ne, pU_ne, CN, LN, -Prod.exists, pi_ti, Op.lookupswitch.offset, EvU_at d13_0, EvU_at d13_1, EvU_at d13_2, EvU_at d13_3, EvU_at d13_4, EvU_at d13_5, EvU_at d13_6, EvU_at d13_7, EvU_at d13_10, EvU_at d13_11, EvU_at d13_12, EvU_at d13_13, EvU_at d13_14, EvU_at d13_17, EvU_at d13_20, Z13, hq, q0, g, g0, g1, g2, g3, e0, e1, e9]
    refine ih (i + 1) _ _ ?_ ?_ ?_ ?_ ?_ ?_
    · omega
    · simp (maxDischargeDepth := 9) [lget_lput, nl_I, nl_R, g]
    · simp (maxDischargeDepth := 9) [lget_lput, nl_I, nl_R, g, g0]
    · simp (maxDischargeDepth := 9) [lget_lput, nl_I, nl_R, g, g1]
    · simp (maxDischargeDepth := 9) [lget_lput, nl_I, nl_R, g]
    · simp (maxDischargeDepth := 9) [lget_lput, nl_I, nl_R, g, g3]
set_option maxRecDepth 20000 in
theorem m_fill {q n : Nat} (hq : sh[q]? = some (100, n)) (q0 : q ≠ 0) (hn : n < 2048) (v : Int) : Ev (13, 0, [(0, .ref q), (1, .int (oi v))], [], (sh, oA A, gl, gr), sl) r ↔ r = (.inl none, (sh, oA (fillR A q 0 n (fun _ => v)), gl, gr), sl) := by
  rw [EvU_iff (fun p => p == 5) 10]
  simp [EvS, stI, enI, caI, s_push, s_iload, s_aload, s_istore, s_astore, s_iinc, s_bin, s_div, s_i2l, s_lcmp, s_dup, s_dup2, s_pop, s_tab, s_look, s_get, s_put, s_iald, s_lald, s_aald, s_iast, s_last, s_aast, s_len, s_newa, s_new, s_thr, s_min, s_copy, s_obj, s_call, s_iret, s_aret, s_vret, go, ldI, lget, lput, lv_args, wsum, va_rf, hnd, cvr, cat_i, cat_r, cat_l, oi_of, oi_add, oi_sub, oA_ap, oA_u2, pi_lt, pi_le, pi_eq, pi_eq0, pi_lt0, pi_le0, pi_gt0, pi_ge0, pi_cl, sb_lit, fv4, isB01, nlt0, EvU_0, wO_ne, wL_ne, wC_ne, wN_ne, pO_ne, pU_ne, CN, LN, -Prod.exists, pi_ti, Op.lookupswitch.offset, EvU_at d13_0, EvU_at d13_1, EvU_at d13_2, EvU_at d13_3, EvU_at d13_4, EvU_at d13_5, EvU_at d13_6, EvU_at d13_7, EvU_at d13_10, EvU_at d13_11, EvU_at d13_12, EvU_at d13_13, EvU_at d13_14, EvU_at d13_17, EvU_at d13_20, Z13, hq, q0, ofNat_oi]
  refine l_fill hq q0 hn n 0 A _ (Nat.zero_add n) ?_ ?_ ?_ ?_ ?_
  · simp [nl, cat_i, cat_r]
  · simp [lget, cat_i, cat_r]
  · simp [lget, cat_i, cat_r]
  · simp [lget, cat_i, cat_r]
  · simp [lget, cat_i, cat_r]
set_option maxRecDepth 20000 in
theorem m_standClear {q p k : Nat} (s1 : St sh gr q p k) : Ev (15, 0, [(0, .ref q)], [], (sh, oA A, gl, gr), sl) r ↔ r = (.inl none, (sh, oA (fillR (fillR A p 0 6 (fun _ => 0)) k 0 12 (fun _ => 0)), gl, gr), sl) := by
  have c1 := fun (A : Nat → Nat → Int) (sl : Nat) (r : Out) => m_fill (gl := gl) (gr := gr) (A := A) (sl := sl) (r := r) s1.1.2.1 s1.2.2.1 (by omega) 0
  have c2 := fun (A : Nat → Nat → Int) (sl : Nat) (r : Out) => m_fill (gl := gl) (gr := gr) (A := A) (sl := sl) (r := r) s1.1.2.2.1 s1.2.2.2 (by omega) 0
  rw [EvU_iff (fun _ => false) 40]
  simp [EvS, stI, enI, caI, s_push, s_iload, s_aload, s_istore, s_astore, s_iinc, s_bin, s_div, s_i2l, s_lcmp, s_dup, s_dup2, s_pop, s_tab, s_look, s_get, s_put, s_iald, s_lald, s_aald, s_iast, s_last, s_aast, s_len, s_newa, s_new, s_thr, s_min, s_copy, s_obj, s_call, s_iret, s_aret, s_vret, go, ldI, lget, lput, lv_args, wsum, va_rf, hnd, cvr, cat_i, cat_r, cat_l, oi_of, oi_add, oi_sub, oA_ap, oA_u2, pi_lt, pi_le, pi_eq, pi_eq0, pi_lt0, pi_le0, pi_gt0, pi_ge0, pi_cl, sb_lit, fv4, isB01, nlt0, EvU_0, wO_ne, wL_ne, wC_ne, wN_ne, pO_ne, pU_ne, CN, LN, -Prod.exists, pi_ti, Op.lookupswitch.offset, EvU_at d15_0, EvU_at d15_1, EvU_at d15_4, EvU_at d15_5, EvU_at d15_8, EvU_at d15_9, EvU_at d15_12, EvU_at d15_13, EvU_at d15_16, Z15, Z13, s1.1, s1.2, c1, c2]
set_option maxRecDepth 20000 in
theorem l_cut (hL : Lay sh gr) {k : Nat} (hk : k < 12) {v : Int} : ∀ (m i : Nat) (A : Nat → Nat → Int) (ls : Lc), i + m = 61 → nl ls = true → lget ls 0 = some (.ref (pO k)) → lget ls 1 = some (.int (oi v)) → lget ls 2 = some (.int (oi (i : Int))) →
    (Ev (12, 2, ls, [], (sh, oA A, gl, gr), sl) r ↔ r = (.inl none, (sh, oA (u2 (fillR A (pU k) i 61 (fun _ => 0)) (pO k) 1 v), gl, gr), sl)) := by
  intro m
  induction m with
  | zero =>
    intro i A ls hi g g0 g1 g2
    obtain rfl : i = 61 := by omega
    rw [fillR_0]
    have e0 : sb ((61 : Nat) : Int) := ⟨by omega, by omega⟩
    have e1 : (61 : Int) ≤ ((61 : Nat) : Int) := by omega
    rw [EvU_iff (fun _ => false) 10]
    simp (maxDischargeDepth := 9) [EvS, stI, enI, caI, s_push, s_iload, s_aload, s_istore, s_astore, s_iinc, s_bin, s_div, s_i2l, s_lcmp, s_dup, s_dup2, s_pop, s_tab, s_look, s_get, s_put, s_iald, s_lald, s_aald, s_iast, s_last, s_aast, s_len, s_newa, s_new, s_thr, s_min, s_copy, s_obj, s_call, s_iret, s_aret, s_vret, go, ldI, lget_lput, nl_I, nl_R, lv_args, wsum, va_rf, hnd, cvr, cat_i, cat_r, cat_l, oi_of, oi_add, oi_sub, oA_ap, oA_u2, pi_lt, pi_le, pi_eq, pi_eq0, pi_lt0, pi_le0, pi_gt0, pi_ge0, pi_cl, sb_lit, fv4, isB01, nlt0, EvU_0, wO_ne, wL_ne, wC_ne, wN_ne, pO_ne, pU_ne, CN, LN, -Prod.exists, pi_ti, Op.lookupswitch.offset, EvU_at d12_0, EvU_at d12_1, EvU_at d12_2, EvU_at d12_3, EvU_at d12_5, EvU_at d12_8, EvU_at d12_9, EvU_at d12_12, EvU_at d12_13, EvU_at d12_14, EvU_at d12_15, EvU_at d12_18, EvU_at d12_21, EvU_at d12_22, EvU_at d12_23, EvU_at d12_26, Z12, LyP hL hk, g, g0, g1, g2, e0, e1]
  | succ m ih =>
    intro i A ls hi g g0 g1 g2
    have e0 : sb (i : Int) := ⟨by omega, by omega⟩
    have e1 : ¬ (61 : Int) ≤ (i : Int) := by omega
    have e2 : ¬ 61 ≤ i := by omega
    rw [EvU_iff (fun _ => false) 1]
    simp (maxDischargeDepth := 9) [EvS, stI, enI, caI, s_push, s_iload, s_aload, s_istore, s_astore, s_iinc, s_bin, s_div, s_i2l, s_lcmp, s_dup, s_dup2, s_pop, s_tab, s_look, s_get, s_put, s_iald, s_lald, s_aald, s_iast, s_last, s_aast, s_len, s_newa, s_new, s_thr, s_min, s_copy, s_obj, s_call, s_iret, s_aret, s_vret, go, ldI, lget_lput, nl_I, nl_R, lv_args, wsum, va_rf, hnd, cvr, cat_i, cat_r, cat_l, oi_of, oi_add, oi_sub, oA_ap, oA_u2, pi_lt, pi_le, pi_eq, pi_eq0, pi_lt0, pi_le0, pi_gt0, pi_ge0, pi_cl, sb_lit, fv4, isB01, nlt0, EvU_0, wO_ne, wL_ne, wC_ne, wN_ne, pO_ne, pU_ne, CN, LN, -Prod.exists, pi_ti, Op.lookupswitch.offset, EvU_at d12_0, EvU_at d12_1, EvU_at d12_2, EvU_at d12_3, EvU_at d12_5, EvU_at d12_8, EvU_at d12_9, EvU_at d12_12, EvU_at d12_13, EvU_at d12_14, EvU_at d12_15, EvU_at d12_18, EvU_at d12_21, EvU_at d12_22, EvU_at d12_23, EvU_at d12_26, Z12, LyP hL hk, g, g0, g1, g2, e0]
    rw [EvU_iff (fun p => p == 2) 60]
    rw [← fillR_s A (fun _ => 0) (show i < 61 by omega)]
    simp (maxDischargeDepth := 9) [EvS, stI, enI, caI, s_push, s_iload, s_aload, s_istore, s_astore, s_iinc, s_bin, s_div, s_i2l, s_lcmp, s_dup, s_dup2, s_pop, s_tab, s_look, s_get, s_put, s_iald, s_lald, s_aald, s_iast, s_last, s_aast, s_len, s_newa, s_new, s_thr, s_min, s_copy, s_obj, s_call, s_iret, s_aret, s_vret, go, ldI, lget_lput, nl_I, nl_R, lv_args, wsum, va_rf, hnd, cvr, cat_i, cat_r, cat_l, oi_of, oi_add, oi_sub, oA_ap, oA_u2, pi_lt, pi_le, pi_eq, pi_eq0, pi_lt0, pi_le0, pi_gt0, pi_ge0, pi_cl, sb_lit, fv4, isB01, nlt0, EvU_0, wO_ne, wL_ne, wC_ne, wN_ne, pO_ne, pU_ne, CN, LN, -Prod.exists, pi_ti, Op.lookupswitch.offset, EvU_at d12_0, EvU_at d12_1, EvU_at d12_2, EvU_at d12_3, EvU_at d12_5, EvU_at d12_8, EvU_at d12_9, EvU_at d12_12, EvU_at d12_13, EvU_at d12_14, EvU_at d12_15, EvU_at d12_18, EvU_at d12_21, EvU_at d12_22, EvU_at d12_23, EvU_at d12_26, Z12, LyP hL hk, g, g0, g1, g2, e0, e1, e2]
    refine ih (i + 1) _ _ ?_ ?_ ?_ ?_ ?_
    · omega
    · simp (maxDischargeDepth := 9) [lget_lput, nl_I, nl_R, g]
    · simp (maxDischargeDepth := 9) [lget_lput, nl_I, nl_R, g, g0]
    · simp (maxDischargeDepth := 9) [lget_lput, nl_I, nl_R, g, g1]
    · simp (maxDischargeDepth := 9) [lget_lput, nl_I, nl_R, g]
set_option maxRecDepth 20000 in
theorem m_cut (hL : Lay sh gr) {k : Nat} (hk : k < 12) (v : Int) : Ev (12, 0, [(0, .ref (pO k)), (1, .int (oi v))], [], (sh, oA A, gl, gr), sl) r ↔ r = (.inl none, (sh, oA (u2 (fillR A (pU k) 0 61 (fun _ => 0)) (pO k) 1 v), gl, gr), sl) := by
  rw [EvU_iff (fun p => p == 2) 10]
  simp [EvS, stI, enI, caI, s_push, s_iload, s_aload, s_istore, s_astore, s_iinc, s_bin, s_div, s_i2l, s_lcmp, s_dup, s_dup2, s_pop, s_tab, s_look, s_get, s_put, s_iald, s_lald, s_aald, s_iast, s_last, s_aast, s_len, s_newa, s_new, s_thr, s_min, s_copy, s_obj, s_call, s_iret, s_aret, s_vret, go, ldI, lget, lput, lv_args, wsum, va_rf, hnd, cvr, cat_i, cat_r, cat_l, oi_of, oi_add, oi_sub, oA_ap, oA_u2, pi_lt, pi_le, pi_eq, pi_eq0, pi_lt0, pi_le0, pi_gt0, pi_ge0, pi_cl, sb_lit, fv4, isB01, nlt0, EvU_0, wO_ne, wL_ne, wC_ne, wN_ne, pO_ne, pU_ne, CN, LN, -Prod.exists, pi_ti, Op.lookupswitch.offset, EvU_at d12_0, EvU_at d12_1, EvU_at d12_2, EvU_at d12_3, EvU_at d12_5, EvU_at d12_8, EvU_at d12_9, EvU_at d12_12, EvU_at d12_13, EvU_at d12_14, EvU_at d12_15, EvU_at d12_18, EvU_at d12_21, EvU_at d12_22, EvU_at d12_23, EvU_at d12_26, Z12]
  refine l_cut hL hk 61 0 A _ rfl ?_ ?_ ?_ ?_
  · simp [nl, cat_i, cat_r]
  · simp [lget, cat_i, cat_r]
  · simp [lget, cat_i, cat_r]
  · simp [lget, cat_i, cat_r]
end
