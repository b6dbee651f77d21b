/-! the ways that a sign takes -/
section
variable {sh : List (Nat × Nat)} {A : Nat → Nat → Int} {gl : Nat → Nat → Int64} {gr : Nat → Nat → Option Nat} {sl : Nat} {r : Out}
theorem LN : (6 : Int32) = oi 6 ∧ (7 : Int32) = oi 7 ∧ (8 : Int32) = oi 8 ∧ (10 : Int32) = oi 10 ∧ (11 : Int32) = oi 11 ∧ (12 : Int32) = oi 12 ∧ (18 : Int32) = oi 18 ∧ (20 : Int32) = oi 20 ∧ (26 : Int32) = oi 26 ∧ (27 : Int32) = oi 27 ∧ (31 : Int32) = oi 31 ∧ (32 : Int32) = oi 32 ∧ (39 : Int32) = oi 39 ∧ (40 : Int32) = oi 40 ∧ (54 : Int32) = oi 54 ∧ (60 : Int32) = oi 60 ∧ (61 : Int32) = oi 61 ∧ (64 : Int32) = oi 64 ∧ (256 : Int32) = oi 256 ∧ (360 : Int32) = oi 360 ∧ (702 : Int32) = oi 702 ∧ (720 : Int32) = oi 720 ∧ (768 : Int32) = oi 768 ∧ (1200 : Int32) = oi 1200 ∧ (5000 : Int32) = oi 5000 := ⟨by decide +kernel, by decide +kernel, by decide +kernel, by decide +kernel, by decide +kernel, by decide +kernel, by decide +kernel, by decide +kernel, by decide +kernel, by decide +kernel, by decide +kernel, by decide +kernel, by decide +kernel, by decide +kernel, by decide +kernel, by decide +kernel, by decide +kernel, by decide +kernel, by decide +kernel, by decide +kernel, by decide +kernel, by decide +kernel, by decide +kernel, by decide +kernel, by decide +kernel⟩
theorem xor_oi : ∀ c, c < 32 → ∀ k, k < 5 → oi ((c : Nat) : Int) ^^^ (oi 1 <<< (oi ((k : Nat) : Int) &&& 31)) = oi ((c ^^^ 2 ^ k : Nat) : Int) := by decide +kernel
theorem upB01 (A : Nat → Nat → Int) (k : Nat) : upB A k = 0 ∨ upB A k = 1 := by
  unfold upB
  split
  · exact Or.inr rfl
  · exact Or.inl rfl
def PinOk (A : Nat → Nat → Int) : Prop := ∀ i, i < 12 → 0 ≤ A 15 i ∧ 0 ≤ A (pO i) 1 ∧ A (pO i) 1 ≤ 61
def LugOk (A : Nat → Nat → Int) : Prop := ∀ b, b < 27 → -1 ≤ A 7 b ∧ A 7 b < 12 ∧ -1 ≤ A 8 b ∧ A 8 b < 12
def lugB (A : Nat → Nat → Int) (x : Int) : Int := if x = -1 then 0 else upB A x.toNat
theorem lugB01 (A : Nat → Nat → Int) (x : Int) : lugB A x = 0 ∨ lugB A x = 1 := by
  unfold lugB
  split
  · exact Or.inl rfl
  · exact upB01 A _
set_option maxRecDepth 20000 in
theorem m_from (hA : ∀ k j, sb (A k j)) (hL : Lay sh gr) (hW : WayOk A) {c : Int} (c0 : 0 ≤ c) (hc : c < A 2 9) : Ev (22, 0, [(0, .ref 2), (1, .int (oi c))], [], (sh, oA A, gl, gr), sl) r ↔ r = (.inl (some (.int (oi (fromF A (A 2 10).toNat c)))), (sh, oA A, gl, gr), sl) := by
  have e1 : A 2 10 = ((A 2 10).toNat : Int) := by
    have := hW.2.2.1
    omega
  rw [EvU_iff (fun p => p == 9) 10]
  simp [EvS, stI, enI, caI, s_push, s_iload, s_aload, s_istore, s_astore, s_iinc, s_bin, s_div, s_i2l, s_lcmp, s_dup, s_dup2, s_pop, s_tab, s_look, s_get, s_put, s_iald, s_lald, s_aald, s_iast, s_last, s_aast, s_len, s_newa, s_new, s_thr, s_min, s_copy, s_obj, s_call, s_iret, s_aret, s_vret, go, ldI, lget, lput, lv_args, wsum, va_rf, hnd, cvr, cat_i, cat_r, cat_l, oi_of, oi_add, oi_sub, oA_ap, oA_u2, pi_lt, pi_le, pi_eq, pi_eq0, pi_lt0, pi_le0, pi_gt0, pi_ge0, pi_cl, sb_lit, fv4, isB01, nlt0, EvU_0, wO_ne, wL_ne, wC_ne, wN_ne, pO_ne, pU_ne, CN, LN, EvU_at d22_0, EvU_at d22_1, EvU_at d22_2, EvU_at d22_3, EvU_at d22_6, EvU_at d22_7, EvU_at d22_8, EvU_at d22_9, EvU_at d22_10, EvU_at d22_13, EvU_at d22_14, EvU_at d22_17, EvU_at d22_18, EvU_at d22_21, EvU_at d22_22, EvU_at d22_25, EvU_at d22_26, EvU_at d22_27, EvU_at d22_28, EvU_at d22_29, EvU_at d22_31, EvU_at d22_33, EvU_at d22_35, EvU_at d22_38, EvU_at d22_39, EvU_at d22_40, EvU_at d22_43, EvU_at d22_46, EvU_at d22_47, EvU_at d22_50, EvU_at d22_51, EvU_at d22_52, EvU_at d22_53, EvU_at d22_54, EvU_at d22_57, EvU_at d22_60, EvU_at d22_61, EvU_at d22_64, EvU_at d22_67, EvU_at d22_68, Z22, LyS hL]
  refine l_from hA hL hW (A 2 10).toNat c _ ?_ c0 hc ?_ ?_ ?_ ?_
  · omega
  · simp [nl, cat_i, cat_r]
  · simp [lget, cat_i, cat_r]
  · simp [lget, cat_i, cat_r]
  · rw [← e1]
    simp [lget, cat_i, cat_r]
def barsF (A : Nat → Nat → Int) : Nat → Nat → Int → Int
  | 0, _, t => t
  | n + 1, b, t => barsF A n (b + 1) (if lugB A (A 7 b) = 1 ∨ lugB A (A 8 b) = 1 then rd (t + 1) (A 2 9) else t)
set_option maxRecDepth 20000 in
theorem l_bars (hA : ∀ k j, sb (A k j)) (hL : Lay sh gr) (hm : 1 ≤ A 2 9 ∧ A 2 9 ≤ 32) (hP : PinOk A) (hU : LugOk A) : ∀ (n b : Nat) (t : Int) (ls : Lc), b + n = 27 → 0 ≤ t → t < A 2 9 → nl ls = true → lget ls 0 = some (.ref 2) → lget ls 1 = some (.int (oi t)) → lget ls 2 = some (.int (oi b)) →
    (Ev (25, 4, ls, [], (sh, oA A, gl, gr), sl) r ↔ r = (.inl (some (.int (oi (barsF A n b t)))), (sh, oA A, gl, gr), sl)) := by
  intro n
  induction n with
  | zero =>
    intro b t ls hn t0 ht g g0 g1 g2
    have e0 : sb (b : Int) := ⟨by omega, by omega⟩
    have e1 : (27 : Int) ≤ (b : Int) := by omega
    rw [EvU_iff (fun _ => false) 10]
    simp (maxDischargeDepth := 9) [EvS, stI, enI, caI, s_push, s_iload, s_aload, s_istore, s_astore, s_iinc, s_bin, s_div, s_i2l, s_lcmp, s_dup, s_dup2, s_pop, s_tab, s_look, s_get, s_put, s_iald, s_lald, s_aald, s_iast, s_last, s_aast, s_len, s_newa, s_new, s_thr, s_min, s_copy, s_obj, s_call, s_iret, s_aret, s_vret, go, ldI, lget_lput, nl_I, nl_R, lv_args, wsum, va_rf, hnd, cvr, cat_i, cat_r, cat_l, oi_of, oi_add, oi_sub, oA_ap, oA_u2, pi_lt, pi_le, pi_eq, pi_eq0, pi_lt0, pi_le0, pi_gt0, pi_ge0, pi_cl, sb_lit, fv4, isB01, nlt0, EvU_0, wO_ne, wL_ne, wC_ne, wN_ne, pO_ne, pU_ne, CN, LN, EvU_at d25_0, EvU_at d25_1, EvU_at d25_2, EvU_at d25_3, EvU_at d25_4, EvU_at d25_5, EvU_at d25_7, EvU_at d25_10, EvU_at d25_11, EvU_at d25_12, EvU_at d25_15, EvU_at d25_16, EvU_at d25_17, EvU_at d25_20, EvU_at d25_23, EvU_at d25_24, EvU_at d25_25, EvU_at d25_28, EvU_at d25_29, EvU_at d25_30, EvU_at d25_33, EvU_at d25_36, EvU_at d25_37, EvU_at d25_38, EvU_at d25_39, EvU_at d25_40, EvU_at d25_43, EvU_at d25_46, EvU_at d25_47, EvU_at d25_50, EvU_at d25_53, EvU_at d25_54, Z25, LyS hL, LyG hL, hA, g, g0, g1, g2, e0, e1, barsF]
  | succ n ih =>
    intro b t ls hn t0 ht g g0 g1 g2
    have e0 : sb (b : Int) := ⟨by omega, by omega⟩
    have e1 : ¬ (27 : Int) ≤ (b : Int) := by omega
    have e2 : ¬ 27 ≤ b := by omega
    obtain ⟨u0, u1, u2', u3⟩ := hU b (by omega)
    have hu := fun (k : Int) (k0 : -1 ≤ k) (hk : k < 12) (sl : Nat) (r : Out) => m_isLugUp (gl := gl) (sl := sl) (r := r) hA hL k0 hk (fun i hi => (hP i hi).1) (fun i hi => (hP i hi).2.2)
    have h7 := hu (A 7 b) u0 u1
    have h8 := hu (A 8 b) u2' u3
    rw [show (if A 7 b = -1 then 0 else upB A (A 7 b).toNat) = lugB A (A 7 b) from rfl] at h7
    rw [show (if A 8 b = -1 then 0 else upB A (A 8 b).toNat) = lugB A (A 8 b) from rfl] at h8
    have e3 : sm (t + 1) := ⟨by omega, by omega⟩
    have e4 : sm (A 2 9) := hA 2 9
    have e5 := rd_in (a := t + 1) (m := A 2 9) (by omega) (by omega)
    rw [EvU_iff (fun _ => false) 1]
    simp (maxDischargeDepth := 9) [EvS, stI, enI, caI, s_push, s_iload, s_aload, s_istore, s_astore, s_iinc, s_bin, s_div, s_i2l, s_lcmp, s_dup, s_dup2, s_pop, s_tab, s_look, s_get, s_put, s_iald, s_lald, s_aald, s_iast, s_last, s_aast, s_len, s_newa, s_new, s_thr, s_min, s_copy, s_obj, s_call, s_iret, s_aret, s_vret, go, ldI, lget_lput, nl_I, nl_R, lv_args, wsum, va_rf, hnd, cvr, cat_i, cat_r, cat_l, oi_of, oi_add, oi_sub, oA_ap, oA_u2, pi_lt, pi_le, pi_eq, pi_eq0, pi_lt0, pi_le0, pi_gt0, pi_ge0, pi_cl, sb_lit, fv4, isB01, nlt0, EvU_0, wO_ne, wL_ne, wC_ne, wN_ne, pO_ne, pU_ne, CN, LN, EvU_at d25_0, EvU_at d25_1, EvU_at d25_2, EvU_at d25_3, EvU_at d25_4, EvU_at d25_5, EvU_at d25_7, EvU_at d25_10, EvU_at d25_11, EvU_at d25_12, EvU_at d25_15, EvU_at d25_16, EvU_at d25_17, EvU_at d25_20, EvU_at d25_23, EvU_at d25_24, EvU_at d25_25, EvU_at d25_28, EvU_at d25_29, EvU_at d25_30, EvU_at d25_33, EvU_at d25_36, EvU_at d25_37, EvU_at d25_38, EvU_at d25_39, EvU_at d25_40, EvU_at d25_43, EvU_at d25_46, EvU_at d25_47, EvU_at d25_50, EvU_at d25_53, EvU_at d25_54, Z25, LyS hL, LyG hL, hA, g, g0, g1, g2, e0]
    rw [EvU_iff (fun p => p == 4) 60]
    by_cases c1 : lugB A (A 7 b) = 1
    · simp (maxDischargeDepth := 9) [EvS, stI, enI, caI, s_push, s_iload, s_aload, s_istore, s_astore, s_iinc, s_bin, s_div, s_i2l, s_lcmp, s_dup, s_dup2, s_pop, s_tab, s_look, s_get, s_put, s_iald, s_lald, s_aald, s_iast, s_last, s_aast, s_len, s_newa, s_new, s_thr, s_min, s_copy, s_obj, s_call, s_iret, s_aret, s_vret, go, ldI, lget_lput, nl_I, nl_R, lv_args, wsum, va_rf, hnd, cvr, cat_i, cat_r, cat_l, oi_of, oi_add, oi_sub, oA_ap, oA_u2, pi_lt, pi_le, pi_eq, pi_eq0, pi_lt0, pi_le0, pi_gt0, pi_ge0, pi_cl, sb_lit, fv4, isB01, nlt0, EvU_0, wO_ne, wL_ne, wC_ne, wN_ne, pO_ne, pU_ne, CN, LN, EvU_at d25_0, EvU_at d25_1, EvU_at d25_2, EvU_at d25_3, EvU_at d25_4, EvU_at d25_5, EvU_at d25_7, EvU_at d25_10, EvU_at d25_11, EvU_at d25_12, EvU_at d25_15, EvU_at d25_16, EvU_at d25_17, EvU_at d25_20, EvU_at d25_23, EvU_at d25_24, EvU_at d25_25, EvU_at d25_28, EvU_at d25_29, EvU_at d25_30, EvU_at d25_33, EvU_at d25_36, EvU_at d25_37, EvU_at d25_38, EvU_at d25_39, EvU_at d25_40, EvU_at d25_43, EvU_at d25_46, EvU_at d25_47, EvU_at d25_50, EvU_at d25_53, EvU_at d25_54, Z25, Z26, Z21, LyS hL, LyG hL, hA, g, g0, g1, g2, e0, e1, e2, h7, h8, c1, m_round e3 e4]
      refine ih (b + 1) (if lugB A (A 7 b) = 1 ∨ lugB A (A 8 b) = 1 then rd (t + 1) (A 2 9) else t) _ ?_ ?_ ?_ ?_ ?_ ?_ ?_
      · omega
      · rw [if_pos (Or.inl c1)]; exact e5.1
      · rw [if_pos (Or.inl c1)]; exact e5.2
      · simp (maxDischargeDepth := 9) [lget_lput, nl_I, nl_R, g]
      · simp (maxDischargeDepth := 9) [lget_lput, nl_I, nl_R, g, g0]
      · simp (maxDischargeDepth := 9) [lget_lput, nl_I, nl_R, g, c1]
      · simp (maxDischargeDepth := 9) [lget_lput, nl_I, nl_R, g]
    · have c1' : lugB A (A 7 b) = 0 := (lugB01 A _).resolve_right c1
      by_cases c2 : lugB A (A 8 b) = 1
      · simp (maxDischargeDepth := 9) [EvS, stI, enI, caI, s_push, s_iload, s_aload, s_istore, s_astore, s_iinc, s_bin, s_div, s_i2l, s_lcmp, s_dup, s_dup2, s_pop, s_tab, s_look, s_get, s_put, s_iald, s_lald, s_aald, s_iast, s_last, s_aast, s_len, s_newa, s_new, s_thr, s_min, s_copy, s_obj, s_call, s_iret, s_aret, s_vret, go, ldI, lget_lput, nl_I, nl_R, lv_args, wsum, va_rf, hnd, cvr, cat_i, cat_r, cat_l, oi_of, oi_add, oi_sub, oA_ap, oA_u2, pi_lt, pi_le, pi_eq, pi_eq0, pi_lt0, pi_le0, pi_gt0, pi_ge0, pi_cl, sb_lit, fv4, isB01, nlt0, EvU_0, wO_ne, wL_ne, wC_ne, wN_ne, pO_ne, pU_ne, CN, LN, EvU_at d25_0, EvU_at d25_1, EvU_at d25_2, EvU_at d25_3, EvU_at d25_4, EvU_at d25_5, EvU_at d25_7, EvU_at d25_10, EvU_at d25_11, EvU_at d25_12, EvU_at d25_15, EvU_at d25_16, EvU_at d25_17, EvU_at d25_20, EvU_at d25_23, EvU_at d25_24, EvU_at d25_25, EvU_at d25_28, EvU_at d25_29, EvU_at d25_30, EvU_at d25_33, EvU_at d25_36, EvU_at d25_37, EvU_at d25_38, EvU_at d25_39, EvU_at d25_40, EvU_at d25_43, EvU_at d25_46, EvU_at d25_47, EvU_at d25_50, EvU_at d25_53, EvU_at d25_54, Z25, Z26, Z21, LyS hL, LyG hL, hA, g, g0, g1, g2, e0, e1, e2, h7, h8, c1', c2, m_round e3 e4]
        refine ih (b + 1) (if lugB A (A 7 b) = 1 ∨ lugB A (A 8 b) = 1 then rd (t + 1) (A 2 9) else t) _ ?_ ?_ ?_ ?_ ?_ ?_ ?_
        · omega
        · rw [if_pos (Or.inr c2)]; exact e5.1
        · rw [if_pos (Or.inr c2)]; exact e5.2
        · simp (maxDischargeDepth := 9) [lget_lput, nl_I, nl_R, g]
        · simp (maxDischargeDepth := 9) [lget_lput, nl_I, nl_R, g, g0]
        · simp (maxDischargeDepth := 9) [lget_lput, nl_I, nl_R, g, c2]
        · simp (maxDischargeDepth := 9) [lget_lput, nl_I, nl_R, g]
      · have c2' : lugB A (A 8 b) = 0 := (lugB01 A _).resolve_right c2
        simp (maxDischargeDepth := 9) [EvS, stI, enI, caI, s_push, s_iload, s_aload, s_istore, s_astore, s_iinc, s_bin, s_div, s_i2l, s_lcmp, s_dup, s_dup2, s_pop, s_tab, s_look, s_get, s_put, s_iald, s_lald, s_aald, s_iast, s_last, s_aast, s_len, s_newa, s_new, s_thr, s_min, s_copy, s_obj, s_call, s_iret, s_aret, s_vret, go, ldI, lget_lput, nl_I, nl_R, lv_args, wsum, va_rf, hnd, cvr, cat_i, cat_r, cat_l, oi_of, oi_add, oi_sub, oA_ap, oA_u2, pi_lt, pi_le, pi_eq, pi_eq0, pi_lt0, pi_le0, pi_gt0, pi_ge0, pi_cl, sb_lit, fv4, isB01, nlt0, EvU_0, wO_ne, wL_ne, wC_ne, wN_ne, pO_ne, pU_ne, CN, LN, EvU_at d25_0, EvU_at d25_1, EvU_at d25_2, EvU_at d25_3, EvU_at d25_4, EvU_at d25_5, EvU_at d25_7, EvU_at d25_10, EvU_at d25_11, EvU_at d25_12, EvU_at d25_15, EvU_at d25_16, EvU_at d25_17, EvU_at d25_20, EvU_at d25_23, EvU_at d25_24, EvU_at d25_25, EvU_at d25_28, EvU_at d25_29, EvU_at d25_30, EvU_at d25_33, EvU_at d25_36, EvU_at d25_37, EvU_at d25_38, EvU_at d25_39, EvU_at d25_40, EvU_at d25_43, EvU_at d25_46, EvU_at d25_47, EvU_at d25_50, EvU_at d25_53, EvU_at d25_54, Z25, Z26, Z21, LyS hL, LyG hL, hA, g, g0, g1, g2, e0, e1, e2, h7, h8, c1', c2', m_round e3 e4]
        refine ih (b + 1) (if lugB A (A 7 b) = 1 ∨ lugB A (A 8 b) = 1 then rd (t + 1) (A 2 9) else t) _ ?_ ?_ ?_ ?_ ?_ ?_ ?_
        · omega
        · simp [c1', c2', t0]
        · simp [c1', c2', ht]
        · simp (maxDischargeDepth := 9) [lget_lput, nl_I, nl_R, g]
        · simp (maxDischargeDepth := 9) [lget_lput, nl_I, nl_R, g, g0]
        · simp (maxDischargeDepth := 9) [lget_lput, nl_I, nl_R, g, g1, c1', c2']
        · simp (maxDischargeDepth := 9) [lget_lput, nl_I, nl_R, g]
set_option maxRecDepth 20000 in
theorem m_bars (hA : ∀ k j, sb (A k j)) (hL : Lay sh gr) (hm : 1 ≤ A 2 9 ∧ A 2 9 ≤ 32) (hP : PinOk A) (hU : LugOk A) : Ev (25, 0, [(0, .ref 2)], [], (sh, oA A, gl, gr), sl) r ↔ r = (.inl (some (.int (oi (barsF A 27 0 0)))), (sh, oA A, gl, gr), sl) := by
  rw [EvU_iff (fun p => p == 4) 10]
  simp [EvS, stI, enI, caI, s_push, s_iload, s_aload, s_istore, s_astore, s_iinc, s_bin, s_div, s_i2l, s_lcmp, s_dup, s_dup2, s_pop, s_tab, s_look, s_get, s_put, s_iald, s_lald, s_aald, s_iast, s_last, s_aast, s_len, s_newa, s_new, s_thr, s_min, s_copy, s_obj, s_call, s_iret, s_aret, s_vret, go, ldI, lget, lput, lv_args, wsum, va_rf, hnd, cvr, cat_i, cat_r, cat_l, oi_of, oi_add, oi_sub, oA_ap, oA_u2, pi_lt, pi_le, pi_eq, pi_eq0, pi_lt0, pi_le0, pi_gt0, pi_ge0, pi_cl, sb_lit, fv4, isB01, nlt0, EvU_0, wO_ne, wL_ne, wC_ne, wN_ne, pO_ne, pU_ne, CN, LN, EvU_at d25_0, EvU_at d25_1, EvU_at d25_2, EvU_at d25_3, EvU_at d25_4, EvU_at d25_5, EvU_at d25_7, EvU_at d25_10, EvU_at d25_11, EvU_at d25_12, EvU_at d25_15, EvU_at d25_16, EvU_at d25_17, EvU_at d25_20, EvU_at d25_23, EvU_at d25_24, EvU_at d25_25, EvU_at d25_28, EvU_at d25_29, EvU_at d25_30, EvU_at d25_33, EvU_at d25_36, EvU_at d25_37, EvU_at d25_38, EvU_at d25_39, EvU_at d25_40, EvU_at d25_43, EvU_at d25_46, EvU_at d25_47, EvU_at d25_50, EvU_at d25_53, EvU_at d25_54, Z25]
  refine l_bars hA hL hm hP hU 27 0 0 _ rfl (Int.le_refl 0) (by omega) ?_ ?_ ?_ ?_
  · simp [nl, cat_i, cat_r]
  · simp [lget, cat_i, cat_r]
  · simp [lget, cat_i, cat_r]
  · simp [lget, cat_i, cat_r]
end
