/-! period and replay -/
section
variable {sh : List (Nat × Nat)} {A : Nat → Nat → Int} {gl : Nat → Nat → Int64} {gr : Nat → Nat → Option Nat} {sl : Nat} {r : Out}
theorem likeP01 : ∀ n k : Nat, likeP A n k = 0 ∨ likeP A n k = 1 := by
  intro n
  induction n with
  | zero => exact fun k => Or.inr rfl
  | succ n ih =>
    intro k
    rw [likeP]
    split
    · exact ih _
    · exact Or.inl rfl
theorem likeS01 : ∀ n k : Nat, likeS A n k = 0 ∨ likeS A n k = 1 := by
  intro n
  induction n with
  | zero => exact fun k => likeP01 12 0
  | succ n ih =>
    intro k
    rw [likeS]
    split
    · exact ih _
    · exact Or.inl rfl
def tillF : Nat → Nat → (Nat → Nat → Int) → Int × (Nat → Nat → Int)
  | 0, _, A => (0, A)
  | n + 1, t, A => if likeS (stF A) 6 0 = 1 then ((t : Int), stF A) else tillF n (t + 1) (stF A)
set_option maxRecDepth 20000 in
theorem l_till (hL : Lay sh gr) {x : Nat} (hx : x ≤ 5000) : ∀ (n t : Nat) (A : Nat → Nat → Int) (ls : Lc), t + n = x + 1 → (∀ k j, sb (A k j)) → CO A → nl ls = true → lget ls 0 = some (.ref 1) → lget ls 1 = some (.int (oi (x : Int))) → lget ls 2 = some (.int (oi (t : Int))) →
    (Ev (95, 2, ls, [], (sh, oA A, gl, gr), sl) r ↔ r = (.inl (some (.int (oi (tillF n t A).1))), (sh, oA (tillF n t A).2, gl, gr), sl)) := by
  have f0 : sb (x : Int) := ⟨by omega, by omega⟩
  intro n
  induction n with
  | zero =>
    intro t A ls hn hA hO g g0 g1 g2
    have e0 : sb (t : Int) := ⟨by omega, by omega⟩
    have e1 : (x : Int) < (t : Int) := by omega
    have e1b : x < t := by omega
    rw [EvU_iff (fun _ => false) 10]
    simp (maxDischargeDepth := 9) [EvS, stI, enI, caI, s_push, s_iload, s_aload, s_istore, s_astore, s_iinc, s_bin, s_div, s_i2l, s_lcmp, s_dup, s_dup2, s_pop, s_tab, s_look, s_get, s_put, s_iald, s_lald, s_aald, s_iast, s_last, s_aast, s_len, s_newa, s_new, s_thr, s_min, s_copy, s_obj, s_call, s_iret, s_aret, s_vret, go, ldI, lget_lput, nl_I, nl_R, lv_args, wsum, va_rf, hnd, cvr, cat_i, cat_r, cat_l, oi_of, oi_add, oi_sub, oA_ap, oA_u2, pi_lt, pi_le, pi_eq, pi_eq0, pi_lt0, pi_le0, pi_gt0, pi_ge0, pi_cl, sb_lit, fv4, isB01, nlt0, EvU_0, wO_ne, wL_ne, wC_ne, wN_ne, pO_ne, pU_ne, CN, LN, -Prod.exists, pi_ti, Op.lookupswitch.offset, EvU_at d95_0, EvU_at d95_1, EvU_at d95_2, EvU_at d95_3, EvU_at d95_4, EvU_at d95_7, EvU_at d95_8, EvU_at d95_11, EvU_at d95_14, EvU_at d95_15, EvU_at d95_16, EvU_at d95_19, EvU_at d95_22, EvU_at d95_23, EvU_at d95_26, EvU_at d95_29, EvU_at d95_32, EvU_at d95_33, EvU_at d95_34, EvU_at d95_37, EvU_at d95_40, EvU_at d95_41, Z95, LyS hL, LyG hL, hA, g, g0, g1, g2, e0, e1, e1b, f0, tillF]
  | succ n ih =>
    intro t A ls hn hA hO g g0 g1 g2
    have e0 : sb (t : Int) := ⟨by omega, by omega⟩
    have e1 : ¬ (x : Int) < (t : Int) := by omega
    have e1b : ¬ x < t := by omega
    have s1 := fun (sl : Nat) (r : Out) => c_step (gl := gl) (sl := sl) (r := r) hA hL hO
    have s2 := fun (sl : Nat) (r : Out) => m_like (gl := gl) (sl := sl) (r := r) (hO.sbst hA) hL
    rw [EvU_iff (fun _ => false) 1]
    simp (maxDischargeDepth := 9) [EvS, stI, enI, caI, s_push, s_iload, s_aload, s_istore, s_astore, s_iinc, s_bin, s_div, s_i2l, s_lcmp, s_dup, s_dup2, s_pop, s_tab, s_look, s_get, s_put, s_iald, s_lald, s_aald, s_iast, s_last, s_aast, s_len, s_newa, s_new, s_thr, s_min, s_copy, s_obj, s_call, s_iret, s_aret, s_vret, go, ldI, lget_lput, nl_I, nl_R, lv_args, wsum, va_rf, hnd, cvr, cat_i, cat_r, cat_l, oi_of, oi_add, oi_sub, oA_ap, oA_u2, pi_lt, pi_le, pi_eq, pi_eq0, pi_lt0, pi_le0, pi_gt0, pi_ge0, pi_cl, sb_lit, fv4, isB01, nlt0, EvU_0, wO_ne, wL_ne, wC_ne, wN_ne, pO_ne, pU_ne, CN, LN, -Prod.exists, pi_ti, Op.lookupswitch.offset, EvU_at d95_0, EvU_at d95_1, EvU_at d95_2, EvU_at d95_3, EvU_at d95_4, EvU_at d95_7, EvU_at d95_8, EvU_at d95_11, EvU_at d95_14, EvU_at d95_15, EvU_at d95_16, EvU_at d95_19, EvU_at d95_22, EvU_at d95_23, EvU_at d95_26, EvU_at d95_29, EvU_at d95_32, EvU_at d95_33, EvU_at d95_34, EvU_at d95_37, EvU_at d95_40, EvU_at d95_41, Z95, LyS hL, LyG hL, hA, g, g0, g1, g2]
    rw [EvU_iff (fun p => p == 2) 60, tillF]
    by_cases c : likeS (stF A) 6 0 = 1
    · simp (maxDischargeDepth := 9) [EvS, stI, enI, caI, s_push, s_iload, s_aload, s_istore, s_astore, s_iinc, s_bin, s_div, s_i2l, s_lcmp, s_dup, s_dup2, s_pop, s_tab, s_look, s_get, s_put, s_iald, s_lald, s_aald, s_iast, s_last, s_aast, s_len, s_newa, s_new, s_thr, s_min, s_copy, s_obj, s_call, s_iret, s_aret, s_vret, go, ldI, lget_lput, nl_I, nl_R, lv_args, wsum, va_rf, hnd, cvr, cat_i, cat_r, cat_l, oi_of, oi_add, oi_sub, oA_ap, oA_u2, pi_lt, pi_le, pi_eq, pi_eq0, pi_lt0, pi_le0, pi_gt0, pi_ge0, pi_cl, sb_lit, fv4, isB01, nlt0, EvU_0, wO_ne, wL_ne, wC_ne, wN_ne, pO_ne, pU_ne, CN, LN, -Prod.exists, pi_ti, Op.lookupswitch.offset, EvU_at d95_0, EvU_at d95_1, EvU_at d95_2, EvU_at d95_3, EvU_at d95_4, EvU_at d95_7, EvU_at d95_8, EvU_at d95_11, EvU_at d95_14, EvU_at d95_15, EvU_at d95_16, EvU_at d95_19, EvU_at d95_22, EvU_at d95_23, EvU_at d95_26, EvU_at d95_29, EvU_at d95_32, EvU_at d95_33, EvU_at d95_34, EvU_at d95_37, EvU_at d95_40, EvU_at d95_41, Z95, Z74, Z96, LyS hL, LyG hL, hA, g, g0, g1, g2, e0, e1, e1b, f0, s1, s2, c]
    · have c' : likeS (stF A) 6 0 = 0 := (likeS01 6 0).resolve_right c
      simp (maxDischargeDepth := 9) [EvS, stI, enI, caI, s_push, s_iload, s_aload, s_istore, s_astore, s_iinc, s_bin, s_div, s_i2l, s_lcmp, s_dup, s_dup2, s_pop, s_tab, s_look, s_get, s_put, s_iald, s_lald, s_aald, s_iast, s_last, s_aast, s_len, s_newa, s_new, s_thr, s_min, s_copy, s_obj, s_call, s_iret, s_aret, s_vret, go, ldI, lget_lput, nl_I, nl_R, lv_args, wsum, va_rf, hnd, cvr, cat_i, cat_r, cat_l, oi_of, oi_add, oi_sub, oA_ap, oA_u2, pi_lt, pi_le, pi_eq, pi_eq0, pi_lt0, pi_le0, pi_gt0, pi_ge0, pi_cl, sb_lit, fv4, isB01, nlt0, EvU_0, wO_ne, wL_ne, wC_ne, wN_ne, pO_ne, pU_ne, CN, LN, -Prod.exists, pi_ti, Op.lookupswitch.offset, EvU_at d95_0, EvU_at d95_1, EvU_at d95_2, EvU_at d95_3, EvU_at d95_4, EvU_at d95_7, EvU_at d95_8, EvU_at d95_11, EvU_at d95_14, EvU_at d95_15, EvU_at d95_16, EvU_at d95_19, EvU_at d95_22, EvU_at d95_23, EvU_at d95_26, EvU_at d95_29, EvU_at d95_32, EvU_at d95_33, EvU_at d95_34, EvU_at d95_37, EvU_at d95_40, EvU_at d95_41, Z95, Z74, Z96, LyS hL, LyG hL, hA, g, g0, g1, g2, e0, e1, e1b, f0, s1, s2, c']
      refine ih (t + 1) _ _ ?_ (hO.sbst hA) hO.st ?_ ?_ ?_ ?_
      · omega
      · simp (maxDischargeDepth := 9) [lget_lput, nl_I, nl_R, g]
      · simp (maxDischargeDepth := 9) [lget_lput, nl_I, nl_R, g, g0]
      · simp (maxDischargeDepth := 9) [lget_lput, nl_I, nl_R, g, g1]
      · simp (maxDischargeDepth := 9) [lget_lput, nl_I, nl_R, g]
/-- the stand is put aside; and brought back -/
def keepF (A : Nat → Nat → Int) : Nat → Nat → Int := rowC (rowC A 14 197 6) 15 198 12
def bringF (A : Nat → Nat → Int) : Nat → Nat → Int := rowC (rowC A 197 14 6) 198 15 12
theorem CO.keep (h : CO A) : CO (keepF A) := h.cg0 (fun a b ha => by
  unfold keepF rowC
  rw [if_neg (by omega), if_neg (by omega)])
set_option maxRecDepth 20000 in
theorem m_till (hA : ∀ k j, sb (A k j)) (hL : Lay sh gr) (hO : CO A) {x : Nat} (hx : x ≤ 5000) : Ev (95, 0, [(0, .ref 1), (1, .int (oi (x : Int)))], [], (sh, oA A, gl, gr), sl) r ↔ r = (.inl (some (.int (oi (tillF x 1 A).1))), (sh, oA (tillF x 1 A).2, gl, gr), sl) := by
  rw [EvU_iff (fun p => p == 2) 20]
  simp [EvS, stI, enI, caI, s_push, s_iload, s_aload, s_istore, s_astore, s_iinc, s_bin, s_div, s_i2l, s_lcmp, s_dup, s_dup2, s_pop, s_tab, s_look, s_get, s_put, s_iald, s_lald, s_aald, s_iast, s_last, s_aast, s_len, s_newa, s_new, s_thr, s_min, s_copy, s_obj, s_call, s_iret, s_aret, s_vret, go, ldI, lget, lput, lv_args, wsum, va_rf, hnd, cvr, cat_i, cat_r, cat_l, oi_of, oi_add, oi_sub, oA_ap, oA_u2, pi_lt, pi_le, pi_eq, pi_eq0, pi_lt0, pi_le0, pi_gt0, pi_ge0, pi_cl, sb_lit, fv4, isB01, nlt0, EvU_0, wO_ne, wL_ne, wC_ne, wN_ne, pO_ne, pU_ne, CN, LN, -Prod.exists, pi_ti, Op.lookupswitch.offset, EvU_at d95_0, EvU_at d95_1, EvU_at d95_2, EvU_at d95_3, EvU_at d95_4, EvU_at d95_7, EvU_at d95_8, EvU_at d95_11, EvU_at d95_14, EvU_at d95_15, EvU_at d95_16, EvU_at d95_19, EvU_at d95_22, EvU_at d95_23, EvU_at d95_26, EvU_at d95_29, EvU_at d95_32, EvU_at d95_33, EvU_at d95_34, EvU_at d95_37, EvU_at d95_40, EvU_at d95_41, Z95]
  refine l_till hL hx _ 1 _ _ ?_ hA hO ?_ ?_ ?_ ?_
  · omega
  · simp [nl, cat_i, cat_r]
  · simp [lget, cat_i, cat_r]
  · simp [lget, cat_i, cat_r]
  · simp [lget, cat_i, cat_r]
theorem sb_keep (hA : ∀ k j, sb (A k j)) : ∀ k j, sb (keepF A k j) := sb_rowC (sb_rowC hA _ _ _) _ _ _
set_option maxRecDepth 20000 in
theorem p_period (hA : ∀ k j, sb (A k j)) (hL : Lay sh gr) (hC : sh.length ≤ mxC) (hS : sl + 6 ≤ mxS) (hO : CO A) {x : Int} (hx : sb x) : Ev (93, 0, [(0, .ref 1), (1, .int (oi x))], [], (sh, oA A, gl, gr), sl) r ↔
    r = if ¬ (1 ≤ x ∧ x ≤ 5000) then thrw 0 (sh, oA A, gl, gr) sl else if ¬ (A 74 2 = 0) then thrw 1 (sh, oA A, gl, gr) sl else (.inl (some (.int (oi (tillF x.toNat 1 (keepF A)).1))), (sh, oA (bringF (tillF x.toNat 1 (keepF A)).2), gl, gr), sl) := by
  rw [EvU_iff (fun _ => false) 60]
  by_cases c1 : 1 ≤ x ∧ x ≤ 5000
  · obtain ⟨n, rfl⟩ : ∃ n : Nat, x = (n : Int) := ⟨x.toNat, by omega⟩
    have k1 : ¬ (n : Int) < 1 := by omega
    have k2 : (n : Int) ≤ 5000 := by omega
    have k3 : ¬ n = 0 := by omega
    have k4 : n ≤ 5000 := by omega
    have k5 : 1 ≤ n := by omega
    by_cases c2 : A 74 2 = 0
    · have n2 := fun (sl : Nat) (r : Out) => m_none_ok (gl := gl) (sl := sl) (r := r) hA hL c2
      have s1 := fun (sl : Nat) (r : Out) => m_copy (gl := gl) (sl := sl) (r := r) (A := A) (St_k hL) (St_m hL)
      have s2 := fun (sl : Nat) (r : Out) => m_till (gl := gl) (sl := sl) (r := r) (sb_keep hA) hL hO.keep k4
      have s3 := fun (A : Nat → Nat → Int) (sl : Nat) (r : Out) => m_copy (gl := gl) (sl := sl) (r := r) (A := A) (St_m hL) (St_k hL)
      unfold keepF bringF at *
      simp [EvS, stI, enI, caI, s_push, s_iload, s_aload, s_istore, s_astore, s_iinc, s_bin, s_div, s_i2l, s_lcmp, s_dup, s_dup2, s_pop, s_tab, s_look, s_get, s_put, s_iald, s_lald, s_aald, s_iast, s_last, s_aast, s_len, s_newa, s_new, s_thr, s_min, s_copy, s_obj, s_call, s_iret, s_aret, s_vret, go, ldI, lget, lput, lv_args, wsum, va_rf, hnd, cvr, cat_i, cat_r, cat_l, oi_of, oi_add, oi_sub, oA_ap, oA_u2, pi_lt, pi_le, pi_eq, pi_eq0, pi_lt0, pi_le0, pi_gt0, pi_ge0, pi_cl, sb_lit, fv4, isB01, nlt0, EvU_0, wO_ne, wL_ne, wC_ne, wN_ne, pO_ne, pU_ne, CN, LN, -Prod.exists, pi_ti, Op.lookupswitch.offset, EvU_at d93_0, EvU_at d93_1, EvU_at d93_2, EvU_at d93_5, EvU_at d93_6, EvU_at d93_9, EvU_at d93_12, EvU_at d93_15, EvU_at d93_16, EvU_at d93_18, EvU_at d93_21, EvU_at d93_22, EvU_at d93_23, EvU_at d93_26, EvU_at d93_27, EvU_at d93_30, EvU_at d93_31, EvU_at d93_34, EvU_at d93_37, EvU_at d93_40, EvU_at d93_41, EvU_at d93_42, EvU_at d93_45, EvU_at d93_46, EvU_at d93_47, EvU_at d93_50, EvU_at d93_53, EvU_at d93_54, EvU_at d93_57, EvU_at d93_60, EvU_at d93_61, Z93, Z29, Z94, Z95, LyS hL, LyG hL, hA, hx, n2, c2, k1, k2, k3, k4, k5, s1, s2, s3]
    · have n2 := fun (r : Out) => m_none_no (gl := gl) (r := r) hA hL c2 hC hS
      simp [EvS, stI, enI, caI, s_push, s_iload, s_aload, s_istore, s_astore, s_iinc, s_bin, s_div, s_i2l, s_lcmp, s_dup, s_dup2, s_pop, s_tab, s_look, s_get, s_put, s_iald, s_lald, s_aald, s_iast, s_last, s_aast, s_len, s_newa, s_new, s_thr, s_min, s_copy, s_obj, s_call, s_iret, s_aret, s_vret, go, ldI, lget, lput, lv_args, wsum, va_rf, hnd, cvr, cat_i, cat_r, cat_l, oi_of, oi_add, oi_sub, oA_ap, oA_u2, pi_lt, pi_le, pi_eq, pi_eq0, pi_lt0, pi_le0, pi_gt0, pi_ge0, pi_cl, sb_lit, fv4, isB01, nlt0, EvU_0, wO_ne, wL_ne, wC_ne, wN_ne, pO_ne, pU_ne, CN, LN, -Prod.exists, pi_ti, Op.lookupswitch.offset, EvU_at d93_0, EvU_at d93_1, EvU_at d93_2, EvU_at d93_5, EvU_at d93_6, EvU_at d93_9, EvU_at d93_12, EvU_at d93_15, EvU_at d93_16, EvU_at d93_18, EvU_at d93_21, EvU_at d93_22, EvU_at d93_23, EvU_at d93_26, EvU_at d93_27, EvU_at d93_30, EvU_at d93_31, EvU_at d93_34, EvU_at d93_37, EvU_at d93_40, EvU_at d93_41, EvU_at d93_42, EvU_at d93_45, EvU_at d93_46, EvU_at d93_47, EvU_at d93_50, EvU_at d93_53, EvU_at d93_54, EvU_at d93_57, EvU_at d93_60, EvU_at d93_61, Z93, Z29, LyS hL, LyG hL, hA, hx, n2, c2, k1, k2, k3, k4, k5, thrw]
  · rcases (show x < 1 ∨ ¬ x < 1 ∧ 5000 < x by omega) with k1 | ⟨k1, k2⟩
    · simp [EvS, stI, enI, caI, s_push, s_iload, s_aload, s_istore, s_astore, s_iinc, s_bin, s_div, s_i2l, s_lcmp, s_dup, s_dup2, s_pop, s_tab, s_look, s_get, s_put, s_iald, s_lald, s_aald, s_iast, s_last, s_aast, s_len, s_newa, s_new, s_thr, s_min, s_copy, s_obj, s_call, s_iret, s_aret, s_vret, go, ldI, lget, lput, lv_args, wsum, va_rf, hnd, cvr, cat_i, cat_r, cat_l, oi_of, oi_add, oi_sub, oA_ap, oA_u2, pi_lt, pi_le, pi_eq, pi_eq0, pi_lt0, pi_le0, pi_gt0, pi_ge0, pi_cl, sb_lit, fv4, isB01, nlt0, EvU_0, wO_ne, wL_ne, wC_ne, wN_ne, pO_ne, pU_ne, CN, LN, -Prod.exists, pi_ti, Op.lookupswitch.offset, EvU_at d93_0, EvU_at d93_1, EvU_at d93_2, EvU_at d93_5, EvU_at d93_6, EvU_at d93_9, EvU_at d93_12, EvU_at d93_15, EvU_at d93_16, EvU_at d93_18, EvU_at d93_21, EvU_at d93_22, EvU_at d93_23, EvU_at d93_26, EvU_at d93_27, EvU_at d93_30, EvU_at d93_31, EvU_at d93_34, EvU_at d93_37, EvU_at d93_40, EvU_at d93_41, EvU_at d93_42, EvU_at d93_45, EvU_at d93_46, EvU_at d93_47, EvU_at d93_50, EvU_at d93_53, EvU_at d93_54, EvU_at d93_57, EvU_at d93_60, EvU_at d93_61, Z93, LyS hL, LyG hL, hA, hx, k1, c1, thrw, Nat.not_lt.mpr hC, Nat.not_lt.mpr hS]
    · simp [EvS, stI, enI, caI, s_push, s_iload, s_aload, s_istore, s_astore, s_iinc, s_bin, s_div, s_i2l, s_lcmp, s_dup, s_dup2, s_pop, s_tab, s_look, s_get, s_put, s_iald, s_lald, s_aald, s_iast, s_last, s_aast, s_len, s_newa, s_new, s_thr, s_min, s_copy, s_obj, s_call, s_iret, s_aret, s_vret, go, ldI, lget, lput, lv_args, wsum, va_rf, hnd, cvr, cat_i, cat_r, cat_l, oi_of, oi_add, oi_sub, oA_ap, oA_u2, pi_lt, pi_le, pi_eq, pi_eq0, pi_lt0, pi_le0, pi_gt0, pi_ge0, pi_cl, sb_lit, fv4, isB01, nlt0, EvU_0, wO_ne, wL_ne, wC_ne, wN_ne, pO_ne, pU_ne, CN, LN, -Prod.exists, pi_ti, Op.lookupswitch.offset, EvU_at d93_0, EvU_at d93_1, EvU_at d93_2, EvU_at d93_5, EvU_at d93_6, EvU_at d93_9, EvU_at d93_12, EvU_at d93_15, EvU_at d93_16, EvU_at d93_18, EvU_at d93_21, EvU_at d93_22, EvU_at d93_23, EvU_at d93_26, EvU_at d93_27, EvU_at d93_30, EvU_at d93_31, EvU_at d93_34, EvU_at d93_37, EvU_at d93_40, EvU_at d93_41, EvU_at d93_42, EvU_at d93_45, EvU_at d93_46, EvU_at d93_47, EvU_at d93_50, EvU_at d93_53, EvU_at d93_54, EvU_at d93_57, EvU_at d93_60, EvU_at d93_61, Z93, LyS hL, LyG hL, hA, hx, k1, Int.not_le.mpr k2, c1, thrw, Nat.not_lt.mpr hC, Nat.not_lt.mpr hS]
def othF (i : Nat) : Nat → Nat → (Nat → Nat → Int) → Int × (Nat → Nat → Int)
  | 0, _, A => (-1, A)
  | n + 1, k, A => if sendF (stF A) (A (gK i) k) = A (gC i) k then othF i n (k + 1) (stF A) else ((k : Int), stF A)
theorem stF_ne (A : Nat → Nat → Int) {a : Nat} (h1 : a ≠ 14) (h2 : a ≠ 15) (b : Nat) : stF A a b = A a b := moveF_ne _ _ _ h1 h2 b
set_option maxRecDepth 20000 in
theorem l_oth (hL : Lay sh gr) {i : Nat} (hi : i < 20) : ∀ (n k : Nat) (A : Nat → Nat → Int) (ls : Lc), (k : Int) + n = A (gO i) 3 → (i : Int) < A 74 1 → (∀ k j, sb (A k j)) → CO A → nl ls = true → lget ls 0 = some (.ref 1) → lget ls 1 = some (.ref (gO i)) → lget ls 2 = some (.int (oi (k : Int))) →
    (Ev (109, 2, ls, [], (sh, oA A, gl, gr), sl) r ↔ r = (.inl (some (.int (oi (othF i n k A).1))), (sh, oA (othF i n k A).2, gl, gr), sl)) := by
  intro n
  induction n with
  | zero =>
    intro k A ls hn ha hA hO g g0 g1 g2
    have f1 := hO.G.sg i ha
    have e0 : sb (k : Int) := ⟨by omega, by omega⟩
    have e1 : A (gO i) 3 ≤ (k : Int) := by omega
    rw [EvU_iff (fun _ => false) 10]
    simp (maxDischargeDepth := 9) [EvS, stI, enI, caI, s_push, s_iload, s_aload, s_istore, s_astore, s_iinc, s_bin, s_div, s_i2l, s_lcmp, s_dup, s_dup2, s_pop, s_tab, s_look, s_get, s_put, s_iald, s_lald, s_aald, s_iast, s_last, s_aast, s_len, s_newa, s_new, s_thr, s_min, s_copy, s_obj, s_call, s_iret, s_aret, s_vret, go, ldI, lget_lput, nl_I, nl_R, lv_args, wsum, va_rf, hnd, cvr, cat_i, cat_r, cat_l, oi_of, oi_add, oi_sub, oA_ap, oA_u2, pi_lt, pi_le, pi_eq, pi_eq0, pi_lt0, pi_le0, pi_gt0, pi_ge0, pi_cl, sb_lit, fv4, isB01, nlt0, EvU_0, wO_ne, wL_ne, wC_ne, wN_ne, pO_ne, pU_ne, CN, LN, -Prod.exists, pi_ti, Op.lookupswitch.offset, EvU_at d109_0, EvU_at d109_1, EvU_at d109_2, EvU_at d109_3, EvU_at d109_4, EvU_at d109_7, EvU_at d109_10, EvU_at d109_11, EvU_at d109_14, EvU_at d109_17, EvU_at d109_18, EvU_at d109_19, EvU_at d109_22, EvU_at d109_23, EvU_at d109_26, EvU_at d109_27, EvU_at d109_28, EvU_at d109_31, EvU_at d109_32, EvU_at d109_35, EvU_at d109_36, EvU_at d109_37, EvU_at d109_40, EvU_at d109_41, EvU_at d109_42, EvU_at d109_45, EvU_at d109_48, EvU_at d109_49, Z109, LyS hL, LyG hL, LyM hL hi, hA, g, g0, g1, g2, e0, e1, othF]
  | succ n ih =>
    intro k A ls hn ha hA hO g g0 g1 g2
    have f1 := hO.G.sg i ha
    have f2 := hO.G.ky i ha k (by omega)
    have e0 : sb (k : Int) := ⟨by omega, by omega⟩
    have e1 : ¬ A (gO i) 3 ≤ (k : Int) := by omega
    have e2 : ¬ 60 ≤ k := by omega
    have x1 : ∀ b, stF A (gK i) b = A (gK i) b := fun b => stF_ne A (by unfold gK; omega) (by unfold gK; omega) b
    have x2 : ∀ b, stF A (gC i) b = A (gC i) b := fun b => stF_ne A (by unfold gC; omega) (by unfold gC; omega) b
    have x3 : ∀ b, stF A (gO i) b = A (gO i) b := fun b => stF_ne A (by unfold gO; omega) (by unfold gO; omega) b
    have x4 : ∀ b, stF A 74 b = A 74 b := fun b => stF_ne A (by omega) (by omega) b
    have x5 : ∀ b, stF A 2 b = A 2 b := fun b => stF_ne A (by omega) (by omega) b
    have s1 := fun (sl : Nat) (r : Out) => c_step (gl := gl) (sl := sl) (r := r) hA hL hO
    have s2 := fun (sl : Nat) (r : Out) => c_send (gl := gl) (sl := sl) (r := r) (hO.sbst hA) hL hO.st (c := A (gK i) k) f2.1 (by rw [x5]; exact f2.2)
    have e3 : sb (sendF (stF A) (A (gK i) k)) := hO.sbst hA _ _
    rw [EvU_iff (fun _ => false) 1]
    simp (maxDischargeDepth := 9) [EvS, stI, enI, caI, s_push, s_iload, s_aload, s_istore, s_astore, s_iinc, s_bin, s_div, s_i2l, s_lcmp, s_dup, s_dup2, s_pop, s_tab, s_look, s_get, s_put, s_iald, s_lald, s_aald, s_iast, s_last, s_aast, s_len, s_newa, s_new, s_thr, s_min, s_copy, s_obj, s_call, s_iret, s_aret, s_vret, go, ldI, lget_lput, nl_I, nl_R, lv_args, wsum, va_rf, hnd, cvr, cat_i, cat_r, cat_l, oi_of, oi_add, oi_sub, oA_ap, oA_u2, pi_lt, pi_le, pi_eq, pi_eq0, pi_lt0, pi_le0, pi_gt0, pi_ge0, pi_cl, sb_lit, fv4, isB01, nlt0, EvU_0, wO_ne, wL_ne, wC_ne, wN_ne, pO_ne, pU_ne, CN, LN, -Prod.exists, pi_ti, Op.lookupswitch.offset, EvU_at d109_0, EvU_at d109_1, EvU_at d109_2, EvU_at d109_3, EvU_at d109_4, EvU_at d109_7, EvU_at d109_10, EvU_at d109_11, EvU_at d109_14, EvU_at d109_17, EvU_at d109_18, EvU_at d109_19, EvU_at d109_22, EvU_at d109_23, EvU_at d109_26, EvU_at d109_27, EvU_at d109_28, EvU_at d109_31, EvU_at d109_32, EvU_at d109_35, EvU_at d109_36, EvU_at d109_37, EvU_at d109_40, EvU_at d109_41, EvU_at d109_42, EvU_at d109_45, EvU_at d109_48, EvU_at d109_49, Z109, LyS hL, LyG hL, LyM hL hi, hA, g, g0, g1, g2]
    rw [EvU_iff (fun p => p == 2) 60, othF]
    by_cases c : sendF (stF A) (A (gK i) k) = A (gC i) k
    · simp (maxDischargeDepth := 9) [EvS, stI, enI, caI, s_push, s_iload, s_aload, s_istore, s_astore, s_iinc, s_bin, s_div, s_i2l, s_lcmp, s_dup, s_dup2, s_pop, s_tab, s_look, s_get, s_put, s_iald, s_lald, s_aald, s_iast, s_last, s_aast, s_len, s_newa, s_new, s_thr, s_min, s_copy, s_obj, s_call, s_iret, s_aret, s_vret, go, ldI, lget_lput, nl_I, nl_R, lv_args, wsum, va_rf, hnd, cvr, cat_i, cat_r, cat_l, oi_of, oi_add, oi_sub, oA_ap, oA_u2, pi_lt, pi_le, pi_eq, pi_eq0, pi_lt0, pi_le0, pi_gt0, pi_ge0, pi_cl, sb_lit, fv4, isB01, nlt0, EvU_0, wO_ne, wL_ne, wC_ne, wN_ne, pO_ne, pU_ne, CN, LN, -Prod.exists, pi_ti, Op.lookupswitch.offset, EvU_at d109_0, EvU_at d109_1, EvU_at d109_2, EvU_at d109_3, EvU_at d109_4, EvU_at d109_7, EvU_at d109_10, EvU_at d109_11, EvU_at d109_14, EvU_at d109_17, EvU_at d109_18, EvU_at d109_19, EvU_at d109_22, EvU_at d109_23, EvU_at d109_26, EvU_at d109_27, EvU_at d109_28, EvU_at d109_31, EvU_at d109_32, EvU_at d109_35, EvU_at d109_36, EvU_at d109_37, EvU_at d109_40, EvU_at d109_41, EvU_at d109_42, EvU_at d109_45, EvU_at d109_48, EvU_at d109_49, Z109, Z74, Z17, LyS hL, LyG hL, LyM hL hi, hA, g, g0, g1, g2, e0, e1, e2, e3, x1, x2, s1, s2, c]
      refine ih (k + 1) _ _ ?_ ?_ (hO.sbst hA) hO.st ?_ ?_ ?_ ?_
      · rw [x3]
        omega
      · rw [x4]
        exact ha
      · simp (maxDischargeDepth := 9) [lget_lput, nl_I, nl_R, g]
      · simp (maxDischargeDepth := 9) [lget_lput, nl_I, nl_R, g, g0]
      · simp (maxDischargeDepth := 9) [lget_lput, nl_I, nl_R, g, g1]
      · simp (maxDischargeDepth := 9) [lget_lput, nl_I, nl_R, g]
    · simp (maxDischargeDepth := 9) [EvS, stI, enI, caI, s_push, s_iload, s_aload, s_istore, s_astore, s_iinc, s_bin, s_div, s_i2l, s_lcmp, s_dup, s_dup2, s_pop, s_tab, s_look, s_get, s_put, s_iald, s_lald, s_aald, s_iast, s_last, s_aast, s_len, s_newa, s_new, s_thr, s_min, s_copy, s_obj, s_call, s_iret, s_aret, s_vret, go, ldI, lget_lput, nl_I, nl_R, lv_args, wsum, va_rf, hnd, cvr, cat_i, cat_r, cat_l, oi_of, oi_add, oi_sub, oA_ap, oA_u2, pi_lt, pi_le, pi_eq, pi_eq0, pi_lt0, pi_le0, pi_gt0, pi_ge0, pi_cl, sb_lit, fv4, isB01, nlt0, EvU_0, wO_ne, wL_ne, wC_ne, wN_ne, pO_ne, pU_ne, CN, LN, -Prod.exists, pi_ti, Op.lookupswitch.offset, EvU_at d109_0, EvU_at d109_1, EvU_at d109_2, EvU_at d109_3, EvU_at d109_4, EvU_at d109_7, EvU_at d109_10, EvU_at d109_11, EvU_at d109_14, EvU_at d109_17, EvU_at d109_18, EvU_at d109_19, EvU_at d109_22, EvU_at d109_23, EvU_at d109_26, EvU_at d109_27, EvU_at d109_28, EvU_at d109_31, EvU_at d109_32, EvU_at d109_35, EvU_at d109_36, EvU_at d109_37, EvU_at d109_40, EvU_at d109_41, EvU_at d109_42, EvU_at d109_45, EvU_at d109_48, EvU_at d109_49, Z109, Z74, Z17, LyS hL, LyG hL, LyM hL hi, hA, g, g0, g1, g2, e0, e1, e2, e3, x1, x2, s1, s2, c]
set_option maxRecDepth 20000 in
theorem m_oth (hA : ∀ k j, sb (A k j)) (hL : Lay sh gr) (hO : CO A) {i : Nat} (hi : i < 20) (ha : (i : Int) < A 74 1) : Ev (109, 0, [(0, .ref 1), (1, .ref (gO i))], [], (sh, oA A, gl, gr), sl) r ↔ r = (.inl (some (.int (oi (othF i (A (gO i) 3).toNat 0 A).1))), (sh, oA (othF i (A (gO i) 3).toNat 0 A).2, gl, gr), sl) := by
  have f1 := hO.G.sg i ha
  rw [EvU_iff (fun p => p == 2) 20]
  simp [EvS, stI, enI, caI, s_push, s_iload, s_aload, s_istore, s_astore, s_iinc, s_bin, s_div, s_i2l, s_lcmp, s_dup, s_dup2, s_pop, s_tab, s_look, s_get, s_put, s_iald, s_lald, s_aald, s_iast, s_last, s_aast, s_len, s_newa, s_new, s_thr, s_min, s_copy, s_obj, s_call, s_iret, s_aret, s_vret, go, ldI, lget, lput, lv_args, wsum, va_rf, hnd, cvr, cat_i, cat_r, cat_l, oi_of, oi_add, oi_sub, oA_ap, oA_u2, pi_lt, pi_le, pi_eq, pi_eq0, pi_lt0, pi_le0, pi_gt0, pi_ge0, pi_cl, sb_lit, fv4, isB01, nlt0, EvU_0, wO_ne, wL_ne, wC_ne, wN_ne, pO_ne, pU_ne, CN, LN, -Prod.exists, pi_ti, Op.lookupswitch.offset, EvU_at d109_0, EvU_at d109_1, EvU_at d109_2, EvU_at d109_3, EvU_at d109_4, EvU_at d109_7, EvU_at d109_10, EvU_at d109_11, EvU_at d109_14, EvU_at d109_17, EvU_at d109_18, EvU_at d109_19, EvU_at d109_22, EvU_at d109_23, EvU_at d109_26, EvU_at d109_27, EvU_at d109_28, EvU_at d109_31, EvU_at d109_32, EvU_at d109_35, EvU_at d109_36, EvU_at d109_37, EvU_at d109_40, EvU_at d109_41, EvU_at d109_42, EvU_at d109_45, EvU_at d109_48, EvU_at d109_49, Z109]
  refine l_oth hL hi _ 0 _ _ ?_ ha hA hO ?_ ?_ ?_ ?_
  · omega
  · simp [nl, cat_i, cat_r]
  · simp [lget, cat_i, cat_r]
  · simp [lget, cat_i, cat_r]
  · simp [lget, cat_i, cat_r]
end
