/-! a sign's way, whole -/
section
variable {sh : List (Nat × Nat)} {A : Nat → Nat → Int} {gl : Nat → Nat → Int64} {gr : Nat → Nat → Option Nat} {sl : Nat} {r : Out}
theorem pi_ti {a : Int} (h : sb a) : (oi a).toInt = a := oi_toInt h
def turnF (A : Nat → Nat → Int) : Nat → Nat → Nat → Nat
  | 0, _, c => c
  | n + 1, k, c => turnF A n (k + 1) (if upB A k = upB A (k + 5) then c else c ^^^ 2 ^ k)
theorem xor_lt : ∀ c, c < 32 → ∀ k, k < 5 → c ^^^ 2 ^ k < 32 := by decide +kernel
set_option maxRecDepth 20000 in
theorem l_turn (hA : ∀ k j, sb (A k j)) (hL : Lay sh gr) (hP : PinOk A) : ∀ (n k c : Nat) (ls : Lc), k + n = 5 → c < 32 → nl ls = true → lget ls 0 = some (.ref 2) → lget ls 2 = some (.int (oi (c : Int))) → lget ls 3 = some (.int (oi (k : Int))) →
    (Ev (23, 4, ls, [], (sh, oA A, gl, gr), sl) r ↔ r = (.inl (some (.int (oi ((turnF A n k c : Nat) : Int)))), (sh, oA A, gl, gr), sl)) := by
  intro n
  induction n with
  | zero =>
    intro k c ls hn hc g g0 g2 g3
    have e0 : sb (k : Int) := ⟨by omega, by omega⟩
    have e1 : (5 : Int) ≤ (k : Int) := by omega
    rw [EvU_iff (fun _ => false) 10]
    simp (maxDischargeDepth := 9) [EvS, stI, enI, caI, s_push, s_iload, s_aload, s_istore, s_astore, s_iinc, s_bin, s_div, s_i2l, s_lcmp, s_dup, s_dup2, s_pop, s_tab, s_look, s_get, s_put, s_iald, s_lald, s_aald, s_iast, s_last, s_aast, s_len, s_newa, s_new, s_thr, s_min, s_copy, s_obj, s_call, s_iret, s_aret, s_vret, go, ldI, lget_lput, nl_I, nl_R, lv_args, wsum, va_rf, hnd, cvr, cat_i, cat_r, cat_l, oi_of, oi_add, oi_sub, oA_ap, oA_u2, pi_lt, pi_le, pi_eq, pi_eq0, pi_lt0, pi_le0, pi_gt0, pi_ge0, pi_cl, sb_lit, fv4, isB01, nlt0, EvU_0, wO_ne, wL_ne, wC_ne, wN_ne, pO_ne, pU_ne, CN, LN, -Prod.exists, pi_ti, Op.lookupswitch.offset, EvU_at d23_0, EvU_at d23_1, EvU_at d23_2, EvU_at d23_3, EvU_at d23_4, EvU_at d23_5, EvU_at d23_6, EvU_at d23_9, EvU_at d23_10, EvU_at d23_11, EvU_at d23_14, EvU_at d23_15, EvU_at d23_16, EvU_at d23_17, EvU_at d23_18, EvU_at d23_21, EvU_at d23_24, EvU_at d23_25, EvU_at d23_26, EvU_at d23_27, EvU_at d23_28, EvU_at d23_29, EvU_at d23_30, EvU_at d23_33, EvU_at d23_36, EvU_at d23_37, Z23, LyS hL, LyG hL, hA, g, g0, g2, g3, e0, e1, turnF]
  | succ n ih =>
    intro k c ls hn hc g g0 g2 g3
    have e0 : sb (k : Int) := ⟨by omega, by omega⟩
    have e1 : ¬ (5 : Int) ≤ (k : Int) := by omega
    have e2 : ((k : Int) + 5).toNat = k + 5 := by omega
    have hu := fun (k : Int) (k0 : 0 ≤ k) (hk : k < 12) (sl : Nat) (r : Out) => m_isUp (gl := gl) (sl := sl) (r := r) hA hL k0 hk (hP _ (by omega)).1 (hP _ (by omega)).2.2
    have h7 := hu (k : Int) (by omega) (by omega)
    have h8 := hu ((k : Int) + 5) (by omega) (by omega)
    rw [e2] at h8
    rw [Int.toNat_natCast] at h7
    have hx := xor_oi c hc k (by omega)
    rw [EvU_iff (fun _ => false) 1]
    simp (maxDischargeDepth := 9) [EvS, stI, enI, caI, s_push, s_iload, s_aload, s_istore, s_astore, s_iinc, s_bin, s_div, s_i2l, s_lcmp, s_dup, s_dup2, s_pop, s_tab, s_look, s_get, s_put, s_iald, s_lald, s_aald, s_iast, s_last, s_aast, s_len, s_newa, s_new, s_thr, s_min, s_copy, s_obj, s_call, s_iret, s_aret, s_vret, go, ldI, lget_lput, nl_I, nl_R, lv_args, wsum, va_rf, hnd, cvr, cat_i, cat_r, cat_l, oi_of, oi_add, oi_sub, oA_ap, oA_u2, pi_lt, pi_le, pi_eq, pi_eq0, pi_lt0, pi_le0, pi_gt0, pi_ge0, pi_cl, sb_lit, fv4, isB01, nlt0, EvU_0, wO_ne, wL_ne, wC_ne, wN_ne, pO_ne, pU_ne, CN, LN, -Prod.exists, pi_ti, Op.lookupswitch.offset, EvU_at d23_0, EvU_at d23_1, EvU_at d23_2, EvU_at d23_3, EvU_at d23_4, EvU_at d23_5, EvU_at d23_6, EvU_at d23_9, EvU_at d23_10, EvU_at d23_11, EvU_at d23_14, EvU_at d23_15, EvU_at d23_16, EvU_at d23_17, EvU_at d23_18, EvU_at d23_21, EvU_at d23_24, EvU_at d23_25, EvU_at d23_26, EvU_at d23_27, EvU_at d23_28, EvU_at d23_29, EvU_at d23_30, EvU_at d23_33, EvU_at d23_36, EvU_at d23_37, Z23, LyS hL, LyG hL, hA, g, g0, g2, g3, e0]
    rw [EvU_iff (fun p => p == 4) 60]
    rcases upB01 A k with u1 | u1 <;> rcases upB01 A (k + 5) with u2 | u2
    · simp (maxDischargeDepth := 9) [EvS, stI, enI, caI, s_push, s_iload, s_aload, s_istore, s_astore, s_iinc, s_bin, s_div, s_i2l, s_lcmp, s_dup, s_dup2, s_pop, s_tab, s_look, s_get, s_put, s_iald, s_lald, s_aald, s_iast, s_last, s_aast, s_len, s_newa, s_new, s_thr, s_min, s_copy, s_obj, s_call, s_iret, s_aret, s_vret, go, ldI, lget_lput, nl_I, nl_R, lv_args, wsum, va_rf, hnd, cvr, cat_i, cat_r, cat_l, oi_of, oi_add, oi_sub, oA_ap, oA_u2, pi_lt, pi_le, pi_eq, pi_eq0, pi_lt0, pi_le0, pi_gt0, pi_ge0, pi_cl, sb_lit, fv4, isB01, nlt0, EvU_0, wO_ne, wL_ne, wC_ne, wN_ne, pO_ne, pU_ne, CN, LN, -Prod.exists, pi_ti, Op.lookupswitch.offset, EvU_at d23_0, EvU_at d23_1, EvU_at d23_2, EvU_at d23_3, EvU_at d23_4, EvU_at d23_5, EvU_at d23_6, EvU_at d23_9, EvU_at d23_10, EvU_at d23_11, EvU_at d23_14, EvU_at d23_15, EvU_at d23_16, EvU_at d23_17, EvU_at d23_18, EvU_at d23_21, EvU_at d23_24, EvU_at d23_25, EvU_at d23_26, EvU_at d23_27, EvU_at d23_28, EvU_at d23_29, EvU_at d23_30, EvU_at d23_33, EvU_at d23_36, EvU_at d23_37, Z23, Z24, LyS hL, LyG hL, hA, g, g0, g2, g3, e0, e1, h7, h8, u1, u2]
      refine ih (k + 1) (if upB A k = upB A (k + 5) then c else c ^^^ 2 ^ k) _ ?_ ?_ ?_ ?_ ?_ ?_
      · omega
      · simp [u1, u2, hc]
      · simp (maxDischargeDepth := 9) [lget_lput, nl_I, nl_R, g]
      · simp (maxDischargeDepth := 9) [lget_lput, nl_I, nl_R, g, g0]
      · simp (maxDischargeDepth := 9) [lget_lput, nl_I, nl_R, g, g2, u1, u2]
      · simp (maxDischargeDepth := 9) [lget_lput, nl_I, nl_R, g]
    · simp (maxDischargeDepth := 9) [EvS, stI, enI, caI, s_push, s_iload, s_aload, s_istore, s_astore, s_iinc, s_bin, s_div, s_i2l, s_lcmp, s_dup, s_dup2, s_pop, s_tab, s_look, s_get, s_put, s_iald, s_lald, s_aald, s_iast, s_last, s_aast, s_len, s_newa, s_new, s_thr, s_min, s_copy, s_obj, s_call, s_iret, s_aret, s_vret, go, ldI, lget_lput, nl_I, nl_R, lv_args, wsum, va_rf, hnd, cvr, cat_i, cat_r, cat_l, oi_of, oi_add, oi_sub, oA_ap, oA_u2, pi_lt, pi_le, pi_eq, pi_eq0, pi_lt0, pi_le0, pi_gt0, pi_ge0, pi_cl, sb_lit, fv4, isB01, nlt0, EvU_0, wO_ne, wL_ne, wC_ne, wN_ne, pO_ne, pU_ne, CN, LN, -Prod.exists, pi_ti, Op.lookupswitch.offset, EvU_at d23_0, EvU_at d23_1, EvU_at d23_2, EvU_at d23_3, EvU_at d23_4, EvU_at d23_5, EvU_at d23_6, EvU_at d23_9, EvU_at d23_10, EvU_at d23_11, EvU_at d23_14, EvU_at d23_15, EvU_at d23_16, EvU_at d23_17, EvU_at d23_18, EvU_at d23_21, EvU_at d23_24, EvU_at d23_25, EvU_at d23_26, EvU_at d23_27, EvU_at d23_28, EvU_at d23_29, EvU_at d23_30, EvU_at d23_33, EvU_at d23_36, EvU_at d23_37, Z23, Z24, LyS hL, LyG hL, hA, g, g0, g2, g3, e0, e1, h7, h8, u1, u2, hx]
      refine ih (k + 1) (if upB A k = upB A (k + 5) then c else c ^^^ 2 ^ k) _ ?_ ?_ ?_ ?_ ?_ ?_
      · omega
      · simp [u1, u2, xor_lt c hc k (by omega)]
      · simp (maxDischargeDepth := 9) [lget_lput, nl_I, nl_R, g]
      · simp (maxDischargeDepth := 9) [lget_lput, nl_I, nl_R, g, g0]
      · simp (maxDischargeDepth := 9) [lget_lput, nl_I, nl_R, g, g2, u1, u2]
        exact hx
      · simp (maxDischargeDepth := 9) [lget_lput, nl_I, nl_R, g]
    · simp (maxDischargeDepth := 9) [EvS, stI, enI, caI, s_push, s_iload, s_aload, s_istore, s_astore, s_iinc, s_bin, s_div, s_i2l, s_lcmp, s_dup, s_dup2, s_pop, s_tab, s_look, s_get, s_put, s_iald, s_lald, s_aald, s_iast, s_last, s_aast, s_len, s_newa, s_new, s_thr, s_min, s_copy, s_obj, s_call, s_iret, s_aret, s_vret, go, ldI, lget_lput, nl_I, nl_R, lv_args, wsum, va_rf, hnd, cvr, cat_i, cat_r, cat_l, oi_of, oi_add, oi_sub, oA_ap, oA_u2, pi_lt, pi_le, pi_eq, pi_eq0, pi_lt0, pi_le0, pi_gt0, pi_ge0, pi_cl, sb_lit, fv4, isB01, nlt0, EvU_0, wO_ne, wL_ne, wC_ne, wN_ne, pO_ne, pU_ne, CN, LN, -Prod.exists, pi_ti, Op.lookupswitch.offset, EvU_at d23_0, EvU_at d23_1, EvU_at d23_2, EvU_at d23_3, EvU_at d23_4, EvU_at d23_5, EvU_at d23_6, EvU_at d23_9, EvU_at d23_10, EvU_at d23_11, EvU_at d23_14, EvU_at d23_15, EvU_at d23_16, EvU_at d23_17, EvU_at d23_18, EvU_at d23_21, EvU_at d23_24, EvU_at d23_25, EvU_at d23_26, EvU_at d23_27, EvU_at d23_28, EvU_at d23_29, EvU_at d23_30, EvU_at d23_33, EvU_at d23_36, EvU_at d23_37, Z23, Z24, LyS hL, LyG hL, hA, g, g0, g2, g3, e0, e1, h7, h8, u1, u2, hx]
      refine ih (k + 1) (if upB A k = upB A (k + 5) then c else c ^^^ 2 ^ k) _ ?_ ?_ ?_ ?_ ?_ ?_
      · omega
      · simp [u1, u2, xor_lt c hc k (by omega)]
      · simp (maxDischargeDepth := 9) [lget_lput, nl_I, nl_R, g]
      · simp (maxDischargeDepth := 9) [lget_lput, nl_I, nl_R, g, g0]
      · simp (maxDischargeDepth := 9) [lget_lput, nl_I, nl_R, g, g2, u1, u2]
        exact hx
      · simp (maxDischargeDepth := 9) [lget_lput, nl_I, nl_R, g]
    · simp (maxDischargeDepth := 9) [EvS, stI, enI, caI, s_push, s_iload, s_aload, s_istore, s_astore, s_iinc, s_bin, s_div, s_i2l, s_lcmp, s_dup, s_dup2, s_pop, s_tab, s_look, s_get, s_put, s_iald, s_lald, s_aald, s_iast, s_last, s_aast, s_len, s_newa, s_new, s_thr, s_min, s_copy, s_obj, s_call, s_iret, s_aret, s_vret, go, ldI, lget_lput, nl_I, nl_R, lv_args, wsum, va_rf, hnd, cvr, cat_i, cat_r, cat_l, oi_of, oi_add, oi_sub, oA_ap, oA_u2, pi_lt, pi_le, pi_eq, pi_eq0, pi_lt0, pi_le0, pi_gt0, pi_ge0, pi_cl, sb_lit, fv4, isB01, nlt0, EvU_0, wO_ne, wL_ne, wC_ne, wN_ne, pO_ne, pU_ne, CN, LN, -Prod.exists, pi_ti, Op.lookupswitch.offset, EvU_at d23_0, EvU_at d23_1, EvU_at d23_2, EvU_at d23_3, EvU_at d23_4, EvU_at d23_5, EvU_at d23_6, EvU_at d23_9, EvU_at d23_10, EvU_at d23_11, EvU_at d23_14, EvU_at d23_15, EvU_at d23_16, EvU_at d23_17, EvU_at d23_18, EvU_at d23_21, EvU_at d23_24, EvU_at d23_25, EvU_at d23_26, EvU_at d23_27, EvU_at d23_28, EvU_at d23_29, EvU_at d23_30, EvU_at d23_33, EvU_at d23_36, EvU_at d23_37, Z23, Z24, LyS hL, LyG hL, hA, g, g0, g2, g3, e0, e1, h7, h8, u1, u2]
      refine ih (k + 1) (if upB A k = upB A (k + 5) then c else c ^^^ 2 ^ k) _ ?_ ?_ ?_ ?_ ?_ ?_
      · omega
      · simp [u1, u2, hc]
      · simp (maxDischargeDepth := 9) [lget_lput, nl_I, nl_R, g]
      · simp (maxDischargeDepth := 9) [lget_lput, nl_I, nl_R, g, g0]
      · simp (maxDischargeDepth := 9) [lget_lput, nl_I, nl_R, g, g2, u1, u2]
      · simp (maxDischargeDepth := 9) [lget_lput, nl_I, nl_R, g]
theorem turnF_lt : ∀ n k c : Nat, k + n = 5 → c < 32 → turnF A n k c < 32 := by
  intro n
  induction n with
  | zero =>
    intro k c _ hc
    exact hc
  | succ n ih =>
    intro k c hn hc
    unfold turnF
    refine ih (k + 1) _ (by omega) ?_
    split
    · exact hc
    · exact xor_lt c hc k (by omega)
set_option maxRecDepth 20000 in
theorem m_turn (hA : ∀ k j, sb (A k j)) (hL : Lay sh gr) (hP : PinOk A) {c : Int} (c0 : 0 ≤ c) (hc : c < 32) : Ev (23, 0, [(0, .ref 2), (1, .int (oi c))], [], (sh, oA A, gl, gr), sl) r ↔ r = (.inl (some (.int (oi ((turnF A 5 0 c.toNat : Nat) : Int)))), (sh, oA A, gl, gr), sl) := by
  have e1 : ((c.toNat : Nat) : Int) = c := by omega
  rw [EvU_iff (fun p => p == 4) 10]
  simp [EvS, stI, enI, caI, s_push, s_iload, s_aload, s_istore, s_astore, s_iinc, s_bin, s_div, s_i2l, s_lcmp, s_dup, s_dup2, s_pop, s_tab, s_look, s_get, s_put, s_iald, s_lald, s_aald, s_iast, s_last, s_aast, s_len, s_newa, s_new, s_thr, s_min, s_copy, s_obj, s_call, s_iret, s_aret, s_vret, go, ldI, lget, lput, lv_args, wsum, va_rf, hnd, cvr, cat_i, cat_r, cat_l, oi_of, oi_add, oi_sub, oA_ap, oA_u2, pi_lt, pi_le, pi_eq, pi_eq0, pi_lt0, pi_le0, pi_gt0, pi_ge0, pi_cl, sb_lit, fv4, isB01, nlt0, EvU_0, wO_ne, wL_ne, wC_ne, wN_ne, pO_ne, pU_ne, CN, LN, -Prod.exists, pi_ti, Op.lookupswitch.offset, EvU_at d23_0, EvU_at d23_1, EvU_at d23_2, EvU_at d23_3, EvU_at d23_4, EvU_at d23_5, EvU_at d23_6, EvU_at d23_9, EvU_at d23_10, EvU_at d23_11, EvU_at d23_14, EvU_at d23_15, EvU_at d23_16, EvU_at d23_17, EvU_at d23_18, EvU_at d23_21, EvU_at d23_24, EvU_at d23_25, EvU_at d23_26, EvU_at d23_27, EvU_at d23_28, EvU_at d23_29, EvU_at d23_30, EvU_at d23_33, EvU_at d23_36, EvU_at d23_37, Z23, LyS hL]
  refine l_turn hA hL hP 5 0 c.toNat _ rfl ?_ ?_ ?_ ?_ ?_
  · omega
  · simp [nl, cat_i, cat_r]
  · simp [lget, cat_i, cat_r]
  · simp only [e1]
    simp [lget, cat_i, cat_r]
  · simp [lget, cat_i, cat_r]
theorem intoF_in (hW : WayOk A) : ∀ (n i : Nat) (c : Int), (i : Int) + n ≤ A 2 10 → 0 ≤ c → c < A 2 9 → 0 ≤ intoF A n i c ∧ intoF A n i c < A 2 9 := by
  intro n
  induction n with
  | zero =>
    intro i c _ c0 hc
    exact ⟨c0, hc⟩
  | succ n ih =>
    intro i c hn c0 hc
    obtain ⟨w1, w2, w3, w4, w5, w6, w7⟩ := hW
    obtain ⟨o0, o1, o2, o3⟩ := w5 i (by omega)
    obtain ⟨p0, p1⟩ := w6 (A 5 i).toNat (by omega)
    obtain ⟨q0, q1, q2, -⟩ := w7 (A 4 (A 5 i).toNat).toNat (by omega)
    have hin := passA_in (A := A) w2 c0 hc p0 p1 q0 q1 q2
    exact ih (i + 1) _ (by omega) hin.1 hin.2
theorem fromF_in (hW : WayOk A) : ∀ (n : Nat) (c : Int), (n : Int) ≤ A 2 10 → 0 ≤ c → c < A 2 9 → 0 ≤ fromF A n c ∧ fromF A n c < A 2 9 := by
  intro n
  induction n with
  | zero =>
    intro c _ c0 hc
    exact ⟨c0, hc⟩
  | succ n ih =>
    intro c hn c0 hc
    obtain ⟨w1, w2, w3, w4, w5, w6, w7⟩ := hW
    obtain ⟨o0, o1, o2, o3⟩ := w5 n (by omega)
    obtain ⟨p0, p1⟩ := w6 (A 5 n).toNat (by omega)
    obtain ⟨q0, q1, -, q2⟩ := w7 (A 4 (A 5 n).toNat).toNat (by omega)
    have hin := passA_in (A := A) w2 c0 hc p0 p1 q0 q1 q2
    exact ih _ (by omega) hin.1 hin.2
theorem barsF_in (hm : 1 ≤ A 2 9) : ∀ (n b : Nat) (t : Int), 0 ≤ t → t < A 2 9 → 0 ≤ barsF A n b t ∧ barsF A n b t < A 2 9 := by
  intro n
  induction n with
  | zero =>
    intro b t t0 ht
    exact ⟨t0, ht⟩
  | succ n ih =>
    intro b t t0 ht
    have e5 := rd_in (a := t + 1) (m := A 2 9) (by omega) (by omega)
    unfold barsF
    split
    · exact ih _ _ e5.1 e5.2
    · exact ih _ _ t0 ht
def PairOk (A : Nat → Nat → Int) : Prop := ∀ j : Nat, (j : Int) < A 2 9 → 0 ≤ A 10 j ∧ A 10 j < A 2 9 ∧ 0 ≤ A 12 j ∧ A 12 j < A 2 9
def pathF (A : Nat → Nat → Int) (c : Int) : Int :=
  if A 2 12 = 0 then (if A 2 13 = 0 then intoF A (A 2 10).toNat 0 c else fromF A (A 2 10).toNat (A 12 (intoF A (A 2 10).toNat 0 c).toNat))
  else if A 2 12 = 1 then (if A 2 9 = 32 then ((turnF A 5 0 c.toNat : Nat) : Int) else c)
  else rd (barsF A 27 0 0 - c) (A 2 9)
theorem pathF_in (hW : WayOk A) (hR : PairOk A) {c : Int} (c0 : 0 ≤ c) (hc : c < A 2 9) : 0 ≤ pathF A c ∧ pathF A c < A 2 9 := by
  have w1 := hW.1
  have w2 := hW.2.1
  have w3 := hW.2.2.1
  have h1 := intoF_in hW (A 2 10).toNat 0 c (by omega) c0 hc
  obtain ⟨-, -, h2, h3⟩ := hR (intoF A (A 2 10).toNat 0 c).toNat (by omega)
  have h4 := fromF_in hW (A 2 10).toNat _ (by omega) h2 h3
  have h5 := barsF_in (A := A) w1 27 0 0 (by omega) (by omega)
  have h6 := rd_in (a := barsF A 27 0 0 - c) (m := A 2 9) (by omega) (by omega)
  unfold pathF
  split
  · split
    · exact h1
    · exact h4
  · split
    · split
      · have h7 := turnF_lt (A := A) 5 0 c.toNat rfl (by omega)
        omega
      · exact ⟨c0, hc⟩
    · exact h6
set_option maxRecDepth 20000 in
theorem m_path (hA : ∀ k j, sb (A k j)) (hL : Lay sh gr) (hW : WayOk A) (hR : PairOk A) (hP : PinOk A) (hU : LugOk A) (hz : 0 ≤ A 2 12 ∧ A 2 12 < 3) {c : Int} (c0 : 0 ≤ c) (hc : c < A 2 9) : Ev (18, 0, [(0, .ref 2), (1, .int (oi c))], [], (sh, oA A, gl, gr), sl) r ↔ r = (.inl (some (.int (oi (pathF A c)))), (sh, oA A, gl, gr), sl) := by
  have w1 := hW.1
  have w2 := hW.2.1
  have w3 := hW.2.2.1
  have h1 := intoF_in hW (A 2 10).toNat 0 c (by omega) c0 hc
  obtain ⟨-, -, h2, h3⟩ := hR (intoF A (A 2 10).toNat 0 c).toNat (by omega)
  have h5 := barsF_in (A := A) w1 27 0 0 (by omega) (by omega)
  have e0 : sb c := ⟨by omega, by omega⟩
  have e1 : sb (intoF A (A 2 10).toNat 0 c) := ⟨by omega, by omega⟩
  have e2 : ¬ intoF A (A 2 10).toNat 0 c < 0 := by omega
  have e3 : ¬ 32 ≤ (intoF A (A 2 10).toNat 0 c).toNat := by omega
  have e4 : sm (barsF A 27 0 0 - c) := ⟨by omega, by omega⟩
  have e5 : sm (A 2 9) := hA 2 9
  have ci := fun (sl : Nat) (r : Out) => m_into (gl := gl) (sl := sl) (r := r) hA hL hW c0 hc
  have cf := fun (sl : Nat) (r : Out) => m_from (gl := gl) (sl := sl) (r := r) hA hL hW h2 h3
  have cb := fun (sl : Nat) (r : Out) => m_bars (gl := gl) (sl := sl) (r := r) hA hL ⟨w1, w2⟩ hP hU
  rw [EvU_iff (fun _ => false) 40]
  unfold pathF
  by_cases z0 : A 2 12 = 0
  · by_cases z1 : A 2 13 = 0
    · simp [EvS, stI, enI, caI, s_push, s_iload, s_aload, s_istore, s_astore, s_iinc, s_bin, s_div, s_i2l, s_lcmp, s_dup, s_dup2, s_pop, s_tab, s_look, s_get, s_put, s_iald, s_lald, s_aald, s_iast, s_last, s_aast, s_len, s_newa, s_new, s_thr, s_min, s_copy, s_obj, s_call, s_iret, s_aret, s_vret, go, ldI, lget, lput, lv_args, wsum, va_rf, hnd, cvr, cat_i, cat_r, cat_l, oi_of, oi_add, oi_sub, oA_ap, oA_u2, pi_lt, pi_le, pi_eq, pi_eq0, pi_lt0, pi_le0, pi_gt0, pi_ge0, pi_cl, sb_lit, fv4, isB01, nlt0, EvU_0, wO_ne, wL_ne, wC_ne, wN_ne, pO_ne, pU_ne, CN, LN, -Prod.exists, pi_ti, Op.lookupswitch.offset, EvU_at d18_0, EvU_at d18_1, EvU_at d18_4, EvU_at d18_32, EvU_at d18_33, EvU_at d18_36, EvU_at d18_39, EvU_at d18_40, EvU_at d18_41, EvU_at d18_44, EvU_at d18_47, EvU_at d18_48, EvU_at d18_49, EvU_at d18_52, EvU_at d18_53, EvU_at d18_56, EvU_at d18_59, EvU_at d18_60, EvU_at d18_61, EvU_at d18_64, EvU_at d18_65, EvU_at d18_66, EvU_at d18_69, EvU_at d18_71, EvU_at d18_74, EvU_at d18_75, EvU_at d18_76, EvU_at d18_79, EvU_at d18_82, EvU_at d18_83, EvU_at d18_84, EvU_at d18_85, EvU_at d18_88, EvU_at d18_89, EvU_at d18_90, EvU_at d18_91, EvU_at d18_94, EvU_at d18_97, Z18, Z19, LyS hL, LyG hL, hA, e0, z0, z1, ci]
    · simp [EvS, stI, enI, caI, s_push, s_iload, s_aload, s_istore, s_astore, s_iinc, s_bin, s_div, s_i2l, s_lcmp, s_dup, s_dup2, s_pop, s_tab, s_look, s_get, s_put, s_iald, s_lald, s_aald, s_iast, s_last, s_aast, s_len, s_newa, s_new, s_thr, s_min, s_copy, s_obj, s_call, s_iret, s_aret, s_vret, go, ldI, lget, lput, lv_args, wsum, va_rf, hnd, cvr, cat_i, cat_r, cat_l, oi_of, oi_add, oi_sub, oA_ap, oA_u2, pi_lt, pi_le, pi_eq, pi_eq0, pi_lt0, pi_le0, pi_gt0, pi_ge0, pi_cl, sb_lit, fv4, isB01, nlt0, EvU_0, wO_ne, wL_ne, wC_ne, wN_ne, pO_ne, pU_ne, CN, LN, -Prod.exists, pi_ti, Op.lookupswitch.offset, EvU_at d18_0, EvU_at d18_1, EvU_at d18_4, EvU_at d18_32, EvU_at d18_33, EvU_at d18_36, EvU_at d18_39, EvU_at d18_40, EvU_at d18_41, EvU_at d18_44, EvU_at d18_47, EvU_at d18_48, EvU_at d18_49, EvU_at d18_52, EvU_at d18_53, EvU_at d18_56, EvU_at d18_59, EvU_at d18_60, EvU_at d18_61, EvU_at d18_64, EvU_at d18_65, EvU_at d18_66, EvU_at d18_69, EvU_at d18_71, EvU_at d18_74, EvU_at d18_75, EvU_at d18_76, EvU_at d18_79, EvU_at d18_82, EvU_at d18_83, EvU_at d18_84, EvU_at d18_85, EvU_at d18_88, EvU_at d18_89, EvU_at d18_90, EvU_at d18_91, EvU_at d18_94, EvU_at d18_97, Z18, Z19, Z22, LyS hL, LyG hL, hA, e0, e1, e2, e3, z0, z1, ci, cf]
  · by_cases z2 : A 2 12 = 1
    · by_cases z3 : A 2 9 = 32
      · have ct := fun (sl : Nat) (r : Out) => m_turn (gl := gl) (sl := sl) (r := r) hA hL hP c0 (by omega)
        simp [EvS, stI, enI, caI, s_push, s_iload, s_aload, s_istore, s_astore, s_iinc, s_bin, s_div, s_i2l, s_lcmp, s_dup, s_dup2, s_pop, s_tab, s_look, s_get, s_put, s_iald, s_lald, s_aald, s_iast, s_last, s_aast, s_len, s_newa, s_new, s_thr, s_min, s_copy, s_obj, s_call, s_iret, s_aret, s_vret, go, ldI, lget, lput, lv_args, wsum, va_rf, hnd, cvr, cat_i, cat_r, cat_l, oi_of, oi_add, oi_sub, oA_ap, oA_u2, pi_lt, pi_le, pi_eq, pi_eq0, pi_lt0, pi_le0, pi_gt0, pi_ge0, pi_cl, sb_lit, fv4, isB01, nlt0, EvU_0, wO_ne, wL_ne, wC_ne, wN_ne, pO_ne, pU_ne, CN, LN, -Prod.exists, pi_ti, Op.lookupswitch.offset, EvU_at d18_0, EvU_at d18_1, EvU_at d18_4, EvU_at d18_32, EvU_at d18_33, EvU_at d18_36, EvU_at d18_39, EvU_at d18_40, EvU_at d18_41, EvU_at d18_44, EvU_at d18_47, EvU_at d18_48, EvU_at d18_49, EvU_at d18_52, EvU_at d18_53, EvU_at d18_56, EvU_at d18_59, EvU_at d18_60, EvU_at d18_61, EvU_at d18_64, EvU_at d18_65, EvU_at d18_66, EvU_at d18_69, EvU_at d18_71, EvU_at d18_74, EvU_at d18_75, EvU_at d18_76, EvU_at d18_79, EvU_at d18_82, EvU_at d18_83, EvU_at d18_84, EvU_at d18_85, EvU_at d18_88, EvU_at d18_89, EvU_at d18_90, EvU_at d18_91, EvU_at d18_94, EvU_at d18_97, Z18, Z23, LyS hL, LyG hL, hA, e0, z2, z3, ct]
      · simp [EvS, stI, enI, caI, s_push, s_iload, s_aload, s_istore, s_astore, s_iinc, s_bin, s_div, s_i2l, s_lcmp, s_dup, s_dup2, s_pop, s_tab, s_look, s_get, s_put, s_iald, s_lald, s_aald, s_iast, s_last, s_aast, s_len, s_newa, s_new, s_thr, s_min, s_copy, s_obj, s_call, s_iret, s_aret, s_vret, go, ldI, lget, lput, lv_args, wsum, va_rf, hnd, cvr, cat_i, cat_r, cat_l, oi_of, oi_add, oi_sub, oA_ap, oA_u2, pi_lt, pi_le, pi_eq, pi_eq0, pi_lt0, pi_le0, pi_gt0, pi_ge0, pi_cl, sb_lit, fv4, isB01, nlt0, EvU_0, wO_ne, wL_ne, wC_ne, wN_ne, pO_ne, pU_ne, CN, LN, -Prod.exists, pi_ti, Op.lookupswitch.offset, EvU_at d18_0, EvU_at d18_1, EvU_at d18_4, EvU_at d18_32, EvU_at d18_33, EvU_at d18_36, EvU_at d18_39, EvU_at d18_40, EvU_at d18_41, EvU_at d18_44, EvU_at d18_47, EvU_at d18_48, EvU_at d18_49, EvU_at d18_52, EvU_at d18_53, EvU_at d18_56, EvU_at d18_59, EvU_at d18_60, EvU_at d18_61, EvU_at d18_64, EvU_at d18_65, EvU_at d18_66, EvU_at d18_69, EvU_at d18_71, EvU_at d18_74, EvU_at d18_75, EvU_at d18_76, EvU_at d18_79, EvU_at d18_82, EvU_at d18_83, EvU_at d18_84, EvU_at d18_85, EvU_at d18_88, EvU_at d18_89, EvU_at d18_90, EvU_at d18_91, EvU_at d18_94, EvU_at d18_97, Z18, LyS hL, LyG hL, hA, e0, z2, z3]
    · have z4 : A 2 12 = 2 := by omega
      simp [EvS, stI, enI, caI, s_push, s_iload, s_aload, s_istore, s_astore, s_iinc, s_bin, s_div, s_i2l, s_lcmp, s_dup, s_dup2, s_pop, s_tab, s_look, s_get, s_put, s_iald, s_lald, s_aald, s_iast, s_last, s_aast, s_len, s_newa, s_new, s_thr, s_min, s_copy, s_obj, s_call, s_iret, s_aret, s_vret, go, ldI, lget, lput, lv_args, wsum, va_rf, hnd, cvr, cat_i, cat_r, cat_l, oi_of, oi_add, oi_sub, oA_ap, oA_u2, pi_lt, pi_le, pi_eq, pi_eq0, pi_lt0, pi_le0, pi_gt0, pi_ge0, pi_cl, sb_lit, fv4, isB01, nlt0, EvU_0, wO_ne, wL_ne, wC_ne, wN_ne, pO_ne, pU_ne, CN, LN, -Prod.exists, pi_ti, Op.lookupswitch.offset, EvU_at d18_0, EvU_at d18_1, EvU_at d18_4, EvU_at d18_32, EvU_at d18_33, EvU_at d18_36, EvU_at d18_39, EvU_at d18_40, EvU_at d18_41, EvU_at d18_44, EvU_at d18_47, EvU_at d18_48, EvU_at d18_49, EvU_at d18_52, EvU_at d18_53, EvU_at d18_56, EvU_at d18_59, EvU_at d18_60, EvU_at d18_61, EvU_at d18_64, EvU_at d18_65, EvU_at d18_66, EvU_at d18_69, EvU_at d18_71, EvU_at d18_74, EvU_at d18_75, EvU_at d18_76, EvU_at d18_79, EvU_at d18_82, EvU_at d18_83, EvU_at d18_84, EvU_at d18_85, EvU_at d18_88, EvU_at d18_89, EvU_at d18_90, EvU_at d18_91, EvU_at d18_94, EvU_at d18_97, Z18, Z25, Z21, LyS hL, LyG hL, hA, e0, z4, cb, m_round e4 e5]
end
