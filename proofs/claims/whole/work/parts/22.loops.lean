/-! the way through the slots -/
section
variable {sh : List (Nat × Nat)} {A : Nat → Nat → Int} {gl : Nat → Nat → Int64} {gr : Nat → Nat → Option Nat} {sl : Nat} {r : Out}
/-- what holds of the settings that a sign's way reads: contacts, filled slots, wheels, rings, wirings, positions -/
def WayOk (A : Nat → Nat → Int) : Prop := 1 ≤ A 2 9 ∧ A 2 9 ≤ 32 ∧ 0 ≤ A 2 10 ∧ A 2 10 ≤ 6 ∧ (∀ i : Nat, (i : Int) < A 2 10 → 0 ≤ A 5 i ∧ A 5 i < 6 ∧ 0 ≤ A 4 (A 5 i).toNat ∧ A 4 (A 5 i).toNat < 8) ∧ (∀ s, s < 6 → 0 ≤ A 14 s ∧ A 14 s < A 2 9) ∧
  ∀ w, w < 8 → 0 ≤ A (wO w) 3 ∧ A (wO w) 3 < A 2 9 ∧ (∀ j : Nat, (j : Int) < A 2 9 → 0 ≤ A (wL w) j ∧ A (wL w) j < A 2 9) ∧ ∀ j : Nat, (j : Int) < A 2 9 → 0 ≤ A (wC w) j ∧ A (wC w) j < A 2 9
/-- one filled slot of the order -/
def oneIn (A : Nat → Nat → Int) (i : Nat) (c : Int) : Int := passA A (A 4 (A 5 i).toNat).toNat (wL (A 4 (A 5 i).toNat).toNat) c (A 14 (A 5 i).toNat) (A 2 9)
def intoF (A : Nat → Nat → Int) : Nat → Nat → Int → Int
  | 0, _, c => c
  | n + 1, i, c => intoF A n (i + 1) (oneIn A i c)
set_option maxRecDepth 20000 in
theorem l_into (hA : ∀ k j, sb (A k j)) (hL : Lay sh gr) (hW : WayOk A) : ∀ (n i : Nat) (c : Int) (ls : Lc), (i : Int) + n = A 2 10 → 0 ≤ c → c < A 2 9 → nl ls = true → lget ls 0 = some (.ref 2) → lget ls 2 = some (.int (oi c)) → lget ls 3 = some (.int (oi i)) →
    (Ev (19, 4, ls, [], (sh, oA A, gl, gr), sl) r ↔ r = (.inl (some (.int (oi (intoF A n i c)))), (sh, oA A, gl, gr), sl)) := by
  obtain ⟨w1, w2, w3, w4, w5, w6, w7⟩ := hW
  intro n
  induction n with
  | zero =>
    intro i c ls hn c0 hc g g0 g2 g3
    have e0 : sb (i : Int) := ⟨by omega, by omega⟩
    have e1 : A 2 10 ≤ (i : Int) := by omega
    rw [EvU_iff (fun _ => false) 10]
    simp (maxDischargeDepth := 9) [EvS, stI, enI, caI, s_push, s_iload, s_aload, s_istore, s_astore, s_iinc, s_bin, s_div, s_i2l, s_lcmp, s_dup, s_dup2, s_pop, s_tab, s_look, s_get, s_put, s_iald, s_lald, s_aald, s_iast, s_last, s_aast, s_len, s_newa, s_new, s_thr, s_min, s_copy, s_obj, s_call, s_iret, s_aret, s_vret, go, ldI, lget_lput, nl_I, nl_R, lv_args, wsum, va_rf, hnd, cvr, cat_i, cat_r, cat_l, oi_of, oi_add, oi_sub, oA_ap, oA_u2, pi_lt, pi_le, pi_eq, pi_eq0, pi_lt0, pi_le0, pi_gt0, pi_ge0, pi_cl, sb_lit, fv4, isB01, nlt0, EvU_0, wO_ne, wL_ne, wC_ne, wN_ne, pO_ne, pU_ne, CN, EvU_at d19_0, EvU_at d19_1, EvU_at d19_2, EvU_at d19_3, EvU_at d19_4, EvU_at d19_5, EvU_at d19_6, EvU_at d19_9, EvU_at d19_12, EvU_at d19_13, EvU_at d19_16, EvU_at d19_17, EvU_at d19_20, EvU_at d19_21, EvU_at d19_24, EvU_at d19_25, EvU_at d19_26, EvU_at d19_27, EvU_at d19_28, EvU_at d19_30, EvU_at d19_32, EvU_at d19_34, EvU_at d19_37, EvU_at d19_38, EvU_at d19_39, EvU_at d19_42, EvU_at d19_45, EvU_at d19_46, EvU_at d19_49, EvU_at d19_50, EvU_at d19_51, EvU_at d19_52, EvU_at d19_53, EvU_at d19_56, EvU_at d19_59, EvU_at d19_60, EvU_at d19_63, EvU_at d19_66, EvU_at d19_67, Z19, LyS hL, LyG hL, hA, g, g0, g2, g3, e0, e1, intoF]
  | succ n ih =>
    intro i c ls hn c0 hc g g0 g2 g3
    have e0 : sb (i : Int) := ⟨by omega, by omega⟩
    have e1 : ¬ A 2 10 ≤ (i : Int) := by omega
    obtain ⟨o0, o1, o2, o3⟩ := w5 i (by omega)
    obtain ⟨p0, p1⟩ := w6 (A 5 i).toNat (by omega)
    obtain ⟨q0, q1, q2, -⟩ := w7 (A 4 (A 5 i).toNat).toNat (by omega)
    have hw : (A 4 (A 5 i).toNat).toNat < 8 := by omega
    have e2 : ¬ 6 ≤ i := by omega
    have e3 : ¬ 6 ≤ (A 5 i).toNat := by omega
    have e4 : ¬ 8 ≤ (A 4 (A 5 i).toNat).toNat := by omega
    have e5 : ¬ A 5 i < 0 := by omega
    have e6 : ¬ A 4 (A 5 i).toNat < 0 := by omega
    have hp := fun (sl : Nat) (r : Out) => m_pass (gl := gl) (sl := sl) (r := r) hA hL hw (Or.inl rfl) w2 c0 hc p0 p1 q0 q1 q2
    have hin := passA_in (A := A) w2 c0 hc p0 p1 q0 q1 q2
    rw [EvU_iff (fun _ => false) 1]
    simp (maxDischargeDepth := 9) [EvS, stI, enI, caI, s_push, s_iload, s_aload, s_istore, s_astore, s_iinc, s_bin, s_div, s_i2l, s_lcmp, s_dup, s_dup2, s_pop, s_tab, s_look, s_get, s_put, s_iald, s_lald, s_aald, s_iast, s_last, s_aast, s_len, s_newa, s_new, s_thr, s_min, s_copy, s_obj, s_call, s_iret, s_aret, s_vret, go, ldI, lget_lput, nl_I, nl_R, lv_args, wsum, va_rf, hnd, cvr, cat_i, cat_r, cat_l, oi_of, oi_add, oi_sub, oA_ap, oA_u2, pi_lt, pi_le, pi_eq, pi_eq0, pi_lt0, pi_le0, pi_gt0, pi_ge0, pi_cl, sb_lit, fv4, isB01, nlt0, EvU_0, wO_ne, wL_ne, wC_ne, wN_ne, pO_ne, pU_ne, CN, EvU_at d19_0, EvU_at d19_1, EvU_at d19_2, EvU_at d19_3, EvU_at d19_4, EvU_at d19_5, EvU_at d19_6, EvU_at d19_9, EvU_at d19_12, EvU_at d19_13, EvU_at d19_16, EvU_at d19_17, EvU_at d19_20, EvU_at d19_21, EvU_at d19_24, EvU_at d19_25, EvU_at d19_26, EvU_at d19_27, EvU_at d19_28, EvU_at d19_30, EvU_at d19_32, EvU_at d19_34, EvU_at d19_37, EvU_at d19_38, EvU_at d19_39, EvU_at d19_42, EvU_at d19_45, EvU_at d19_46, EvU_at d19_49, EvU_at d19_50, EvU_at d19_51, EvU_at d19_52, EvU_at d19_53, EvU_at d19_56, EvU_at d19_59, EvU_at d19_60, EvU_at d19_63, EvU_at d19_66, EvU_at d19_67, Z19, LyS hL, LyG hL, hA, g, g0, g2, g3, e0]
    rw [EvU_iff (fun p => p == 4) 60]
    simp (maxDischargeDepth := 9) [EvS, stI, enI, caI, s_push, s_iload, s_aload, s_istore, s_astore, s_iinc, s_bin, s_div, s_i2l, s_lcmp, s_dup, s_dup2, s_pop, s_tab, s_look, s_get, s_put, s_iald, s_lald, s_aald, s_iast, s_last, s_aast, s_len, s_newa, s_new, s_thr, s_min, s_copy, s_obj, s_call, s_iret, s_aret, s_vret, go, ldI, lget_lput, nl_I, nl_R, lv_args, wsum, va_rf, hnd, cvr, cat_i, cat_r, cat_l, oi_of, oi_add, oi_sub, oA_ap, oA_u2, pi_lt, pi_le, pi_eq, pi_eq0, pi_lt0, pi_le0, pi_gt0, pi_ge0, pi_cl, sb_lit, fv4, isB01, nlt0, EvU_0, wO_ne, wL_ne, wC_ne, wN_ne, pO_ne, pU_ne, CN, EvU_at d19_0, EvU_at d19_1, EvU_at d19_2, EvU_at d19_3, EvU_at d19_4, EvU_at d19_5, EvU_at d19_6, EvU_at d19_9, EvU_at d19_12, EvU_at d19_13, EvU_at d19_16, EvU_at d19_17, EvU_at d19_20, EvU_at d19_21, EvU_at d19_24, EvU_at d19_25, EvU_at d19_26, EvU_at d19_27, EvU_at d19_28, EvU_at d19_30, EvU_at d19_32, EvU_at d19_34, EvU_at d19_37, EvU_at d19_38, EvU_at d19_39, EvU_at d19_42, EvU_at d19_45, EvU_at d19_46, EvU_at d19_49, EvU_at d19_50, EvU_at d19_51, EvU_at d19_52, EvU_at d19_53, EvU_at d19_56, EvU_at d19_59, EvU_at d19_60, EvU_at d19_63, EvU_at d19_66, EvU_at d19_67, Z19, Z20, LyS hL, LyG hL, LyW hL hw, hA, g, g0, g2, g3, e0, e1, e2, e3, e4, e5, e6, hp]
    refine ih (i + 1) (oneIn A i c) _ ?_ hin.1 hin.2 ?_ ?_ ?_ ?_
    · omega
    · simp (maxDischargeDepth := 9) [lget_lput, nl_I, nl_R, g]
    · simp (maxDischargeDepth := 9) [lget_lput, nl_I, nl_R, g, g0]
    · simp (maxDischargeDepth := 9) [lget_lput, nl_I, nl_R, g, oneIn]
    · simp (maxDischargeDepth := 9) [lget_lput, nl_I, nl_R, g]
set_option maxRecDepth 20000 in
theorem m_into (hA : ∀ k j, sb (A k j)) (hL : Lay sh gr) (hW : WayOk A) {c : Int} (c0 : 0 ≤ c) (hc : c < A 2 9) : Ev (19, 0, [(0, .ref 2), (1, .int (oi c))], [], (sh, oA A, gl, gr), sl) r ↔ r = (.inl (some (.int (oi (intoF A (A 2 10).toNat 0 c)))), (sh, oA A, gl, gr), sl) := by
  rw [EvU_iff (fun p => p == 4) 10]
  simp [EvS, stI, enI, caI, s_push, s_iload, s_aload, s_istore, s_astore, s_iinc, s_bin, s_div, s_i2l, s_lcmp, s_dup, s_dup2, s_pop, s_tab, s_look, s_get, s_put, s_iald, s_lald, s_aald, s_iast, s_last, s_aast, s_len, s_newa, s_new, s_thr, s_min, s_copy, s_obj, s_call, s_iret, s_aret, s_vret, go, ldI, lget, lput, lv_args, wsum, va_rf, hnd, cvr, cat_i, cat_r, cat_l, oi_of, oi_add, oi_sub, oA_ap, oA_u2, pi_lt, pi_le, pi_eq, pi_eq0, pi_lt0, pi_le0, pi_gt0, pi_ge0, pi_cl, sb_lit, fv4, isB01, nlt0, EvU_0, wO_ne, wL_ne, wC_ne, wN_ne, pO_ne, pU_ne, CN, EvU_at d19_0, EvU_at d19_1, EvU_at d19_2, EvU_at d19_3, EvU_at d19_4, EvU_at d19_5, EvU_at d19_6, EvU_at d19_9, EvU_at d19_12, EvU_at d19_13, EvU_at d19_16, EvU_at d19_17, EvU_at d19_20, EvU_at d19_21, EvU_at d19_24, EvU_at d19_25, EvU_at d19_26, EvU_at d19_27, EvU_at d19_28, EvU_at d19_30, EvU_at d19_32, EvU_at d19_34, EvU_at d19_37, EvU_at d19_38, EvU_at d19_39, EvU_at d19_42, EvU_at d19_45, EvU_at d19_46, EvU_at d19_49, EvU_at d19_50, EvU_at d19_51, EvU_at d19_52, EvU_at d19_53, EvU_at d19_56, EvU_at d19_59, EvU_at d19_60, EvU_at d19_63, EvU_at d19_66, EvU_at d19_67, Z19]
  refine l_into hA hL hW (A 2 10).toNat 0 c _ ?_ c0 hc ?_ ?_ ?_ ?_
  · have := hW.2.2.1
    omega
  · simp [nl, cat_i, cat_r]
  · simp [lget]
  · simp [lget]
  · simp [lget]
end
