/-! sending, and which wheels step -/
section
variable {sh : List (Nat × Nat)} {A : Nat → Nat → Int} {gl : Nat → Nat → Int64} {gr : Nat → Nat → Option Nat} {sl : Nat} {r : Out}
def sendF (A : Nat → Nat → Int) (c : Int) : Int := A 10 (pathF A (A 10 c.toNat)).toNat
def backF (A : Nat → Nat → Int) (c : Int) : Int := A 10 (if A 2 12 = 0 ∧ A 2 13 = 0 then fromF A (A 2 10).toNat (A 10 c.toNat) else pathF A (A 10 c.toNat)).toNat
set_option maxRecDepth 20000 in
theorem m_send (hA : ∀ k j, sb (A k j)) (hL : Lay sh gr) (hW : WayOk A) (hR : PairOk A) (hP : PinOk A) (hU : LugOk A) (hz : 0 ≤ A 2 12 ∧ A 2 12 < 3) {c : Int} (c0 : 0 ≤ c) (hc : c < A 2 9) : Ev (17, 0, [(0, .ref 2), (1, .int (oi c))], [], (sh, oA A, gl, gr), sl) r ↔ r = (.inl (some (.int (oi (sendF A c)))), (sh, oA A, gl, gr), sl) := by
  have w2 := hW.2.1
  have e0 : sb c := ⟨by omega, by omega⟩
  have e1 : ¬ c < 0 := by omega
  have e2 : ¬ 32 ≤ c.toNat := by omega
  obtain ⟨h2, h3, -, -⟩ := hR c.toNat (by omega)
  have h4 := pathF_in hW hR h2 h3
  have e3 : sb (pathF A (A 10 c.toNat)) := ⟨by omega, by omega⟩
  have e4 : ¬ pathF A (A 10 c.toNat) < 0 := by omega
  have e5 : ¬ 32 ≤ (pathF A (A 10 c.toNat)).toNat := by omega
  have cp := fun (sl : Nat) (r : Out) => m_path (gl := gl) (sl := sl) (r := r) hA hL hW hR hP hU hz h2 h3
  rw [EvU_iff (fun _ => false) 40]
  unfold sendF
  simp [EvS, stI, enI, caI, s_push, s_iload, s_aload, s_istore, s_astore, s_iinc, s_bin, s_div, s_i2l, s_lcmp, s_dup, s_dup2, s_pop, s_tab, s_look, s_get, s_put, s_iald, s_lald, s_aald, s_iast, s_last, s_aast, s_len, s_newa, s_new, s_thr, s_min, s_copy, s_obj, s_call, s_iret, s_aret, s_vret, go, ldI, lget, lput, lv_args, wsum, va_rf, hnd, cvr, cat_i, cat_r, cat_l, oi_of, oi_add, oi_sub, oA_ap, oA_u2, pi_lt, pi_le, pi_eq, pi_eq0, pi_lt0, pi_le0, pi_gt0, pi_ge0, pi_cl, sb_lit, fv4, isB01, nlt0, EvU_0, wO_ne, wL_ne, wC_ne, wN_ne, pO_ne, pU_ne, CN, LN, -Prod.exists, pi_ti, Op.lookupswitch.offset, EvU_at d17_0, EvU_at d17_1, EvU_at d17_4, EvU_at d17_7, EvU_at d17_8, EvU_at d17_9, EvU_at d17_12, EvU_at d17_15, EvU_at d17_16, EvU_at d17_17, EvU_at d17_20, EvU_at d17_21, Z17, Z18, LyS hL, LyG hL, hA, e0, e1, e2, e3, e4, e5, cp]
set_option maxRecDepth 20000 in
theorem m_back (hA : ∀ k j, sb (A k j)) (hL : Lay sh gr) (hW : WayOk A) (hR : PairOk A) (hP : PinOk A) (hU : LugOk A) (hz : 0 ≤ A 2 12 ∧ A 2 12 < 3) {c : Int} (c0 : 0 ≤ c) (hc : c < A 2 9) : Ev (83, 0, [(0, .ref 2), (1, .int (oi c))], [], (sh, oA A, gl, gr), sl) r ↔ r = (.inl (some (.int (oi (backF A c)))), (sh, oA A, gl, gr), sl) := by
  have w2 := hW.2.1
  have w3 := hW.2.2.1
  have e0 : sb c := ⟨by omega, by omega⟩
  have e1 : ¬ c < 0 := by omega
  have e2 : ¬ 32 ≤ c.toNat := by omega
  obtain ⟨h2, h3, -, -⟩ := hR c.toNat (by omega)
  have h4 := pathF_in hW hR h2 h3
  have h5 := fromF_in hW (A 2 10).toNat _ (by omega) h2 h3
  have e3 : sb (pathF A (A 10 c.toNat)) := ⟨by omega, by omega⟩
  have e4 : ¬ pathF A (A 10 c.toNat) < 0 := by omega
  have e5 : ¬ 32 ≤ (pathF A (A 10 c.toNat)).toNat := by omega
  have e6 : sb (fromF A (A 2 10).toNat (A 10 c.toNat)) := ⟨by omega, by omega⟩
  have e7 : ¬ fromF A (A 2 10).toNat (A 10 c.toNat) < 0 := by omega
  have e8 : ¬ 32 ≤ (fromF A (A 2 10).toNat (A 10 c.toNat)).toNat := by omega
  have cp := fun (sl : Nat) (r : Out) => m_path (gl := gl) (sl := sl) (r := r) hA hL hW hR hP hU hz h2 h3
  have cf := fun (sl : Nat) (r : Out) => m_from (gl := gl) (sl := sl) (r := r) hA hL hW h2 h3
  rw [EvU_iff (fun _ => false) 60]
  unfold backF
  by_cases z0 : A 2 12 = 0
  · by_cases z1 : A 2 13 = 0
    · simp [EvS, stI, enI, caI, s_push, s_iload, s_aload, s_istore, s_astore, s_iinc, s_bin, s_div, s_i2l, s_lcmp, s_dup, s_dup2, s_pop, s_tab, s_look, s_get, s_put, s_iald, s_lald, s_aald, s_iast, s_last, s_aast, s_len, s_newa, s_new, s_thr, s_min, s_copy, s_obj, s_call, s_iret, s_aret, s_vret, go, ldI, lget, lput, lv_args, wsum, va_rf, hnd, cvr, cat_i, cat_r, cat_l, oi_of, oi_add, oi_sub, oA_ap, oA_u2, pi_lt, pi_le, pi_eq, pi_eq0, pi_lt0, pi_le0, pi_gt0, pi_ge0, pi_cl, sb_lit, fv4, isB01, nlt0, EvU_0, wO_ne, wL_ne, wC_ne, wN_ne, pO_ne, pU_ne, CN, LN, -Prod.exists, pi_ti, Op.lookupswitch.offset, EvU_at d83_0, EvU_at d83_1, EvU_at d83_4, EvU_at d83_7, EvU_at d83_8, EvU_at d83_9, EvU_at d83_10, EvU_at d83_11, EvU_at d83_14, EvU_at d83_17, EvU_at d83_18, EvU_at d83_21, EvU_at d83_24, EvU_at d83_25, EvU_at d83_28, EvU_at d83_29, EvU_at d83_30, EvU_at d83_31, EvU_at d83_34, EvU_at d83_37, EvU_at d83_38, EvU_at d83_41, EvU_at d83_42, EvU_at d83_43, EvU_at d83_46, EvU_at d83_49, EvU_at d83_50, EvU_at d83_51, EvU_at d83_54, EvU_at d83_55, Z83, Z22, LyS hL, LyG hL, hA, e0, e1, e2, e6, e7, e8, z0, z1, cf]
    · simp [EvS, stI, enI, caI, s_push, s_iload, s_aload, s_istore, s_astore, s_iinc, s_bin, s_div, s_i2l, s_lcmp, s_dup, s_dup2, s_pop, s_tab, s_look, s_get, s_put, s_iald, s_lald, s_aald, s_iast, s_last, s_aast, s_len, s_newa, s_new, s_thr, s_min, s_copy, s_obj, s_call, s_iret, s_aret, s_vret, go, ldI, lget, lput, lv_args, wsum, va_rf, hnd, cvr, cat_i, cat_r, cat_l, oi_of, oi_add, oi_sub, oA_ap, oA_u2, pi_lt, pi_le, pi_eq, pi_eq0, pi_lt0, pi_le0, pi_gt0, pi_ge0, pi_cl, sb_lit, fv4, isB01, nlt0, EvU_0, wO_ne, wL_ne, wC_ne, wN_ne, pO_ne, pU_ne, CN, LN, -Prod.exists, pi_ti, Op.lookupswitch.offset, EvU_at d83_0, EvU_at d83_1, EvU_at d83_4, EvU_at d83_7, EvU_at d83_8, EvU_at d83_9, EvU_at d83_10, EvU_at d83_11, EvU_at d83_14, EvU_at d83_17, EvU_at d83_18, EvU_at d83_21, EvU_at d83_24, EvU_at d83_25, EvU_at d83_28, EvU_at d83_29, EvU_at d83_30, EvU_at d83_31, EvU_at d83_34, EvU_at d83_37, EvU_at d83_38, EvU_at d83_41, EvU_at d83_42, EvU_at d83_43, EvU_at d83_46, EvU_at d83_49, EvU_at d83_50, EvU_at d83_51, EvU_at d83_54, EvU_at d83_55, Z83, Z18, LyS hL, LyG hL, hA, e0, e1, e2, e3, e4, e5, z0, z1, cp]
  · simp [EvS, stI, enI, caI, s_push, s_iload, s_aload, s_istore, s_astore, s_iinc, s_bin, s_div, s_i2l, s_lcmp, s_dup, s_dup2, s_pop, s_tab, s_look, s_get, s_put, s_iald, s_lald, s_aald, s_iast, s_last, s_aast, s_len, s_newa, s_new, s_thr, s_min, s_copy, s_obj, s_call, s_iret, s_aret, s_vret, go, ldI, lget, lput, lv_args, wsum, va_rf, hnd, cvr, cat_i, cat_r, cat_l, oi_of, oi_add, oi_sub, oA_ap, oA_u2, pi_lt, pi_le, pi_eq, pi_eq0, pi_lt0, pi_le0, pi_gt0, pi_ge0, pi_cl, sb_lit, fv4, isB01, nlt0, EvU_0, wO_ne, wL_ne, wC_ne, wN_ne, pO_ne, pU_ne, CN, LN, -Prod.exists, pi_ti, Op.lookupswitch.offset, EvU_at d83_0, EvU_at d83_1, EvU_at d83_4, EvU_at d83_7, EvU_at d83_8, EvU_at d83_9, EvU_at d83_10, EvU_at d83_11, EvU_at d83_14, EvU_at d83_17, EvU_at d83_18, EvU_at d83_21, EvU_at d83_24, EvU_at d83_25, EvU_at d83_28, EvU_at d83_29, EvU_at d83_30, EvU_at d83_31, EvU_at d83_34, EvU_at d83_37, EvU_at d83_38, EvU_at d83_41, EvU_at d83_42, EvU_at d83_43, EvU_at d83_46, EvU_at d83_49, EvU_at d83_50, EvU_at d83_51, EvU_at d83_54, EvU_at d83_55, Z83, Z18, LyS hL, LyG hL, hA, e0, e1, e2, e3, e4, e5, z0, cp]
def NotchOk (A : Nat → Nat → Int) : Prop := ∀ w, w < 8 → ∀ j, j < 32 → A (wN w) j = 0 ∨ A (wN w) j = 1
/-- is the wheel of the i-th filled slot at a notch -/
def nB (A : Nat → Nat → Int) (i : Nat) : Int := A (wN (A 4 (A 5 i).toNat).toNat) (A 14 (A 5 i).toNat).toNat
theorem nB01 (hW : WayOk A) (hN : NotchOk A) {i : Nat} (hi : (i : Int) < A 2 10) : nB A i = 0 ∨ nB A i = 1 := by
  obtain ⟨w1, w2, w3, w4, w5, w6, w7⟩ := hW
  obtain ⟨o0, o1, o2, o3⟩ := w5 i hi
  obtain ⟨p0, p1⟩ := w6 (A 5 i).toNat (by omega)
  exact hN _ (by omega) _ (by omega)
set_option maxRecDepth 20000 in
theorem m_notch (hA : ∀ k j, sb (A k j)) (hL : Lay sh gr) (hW : WayOk A) (hN : NotchOk A) {k : Int} (k0 : 0 ≤ k) (hk : k < A 2 10) : Ev (77, 0, [(0, .ref 2), (1, .int (oi k))], [], (sh, oA A, gl, gr), sl) r ↔ r = (.inl (some (.int (oi (nB A k.toNat)))), (sh, oA A, gl, gr), sl) := by
  have h9 := nB01 hW hN (i := k.toNat) (by omega)
  obtain ⟨w1, w2, w3, w4, w5, w6, w7⟩ := hW
  obtain ⟨o0, o1, o2, o3⟩ := w5 k.toNat (by omega)
  obtain ⟨p0, p1⟩ := w6 (A 5 k.toNat).toNat (by omega)
  have hw : (A 4 (A 5 k.toNat).toNat).toNat < 8 := by omega
  have e0 : sb k := ⟨by omega, by omega⟩
  have e1 : ¬ k < 0 := by omega
  have e2 : ¬ 6 ≤ k.toNat := by omega
  have e3 : ¬ A 5 k.toNat < 0 := by omega
  have e4 : ¬ 6 ≤ (A 5 k.toNat).toNat := by omega
  have e5 : ¬ A 4 (A 5 k.toNat).toNat < 0 := by omega
  have e6 : ¬ 8 ≤ (A 4 (A 5 k.toNat).toNat).toNat := by omega
  have e7 : ¬ A 14 (A 5 k.toNat).toNat < 0 := by omega
  have e8 : ¬ 32 ≤ (A 14 (A 5 k.toNat).toNat).toNat := by omega
  rw [EvU_iff (fun _ => false) 40]
  unfold nB at h9 ⊢
  rcases h9 with h9 | h9
  · simp [EvS, stI, enI, caI, s_push, s_iload, s_aload, s_istore, s_astore, s_iinc, s_bin, s_div, s_i2l, s_lcmp, s_dup, s_dup2, s_pop, s_tab, s_look, s_get, s_put, s_iald, s_lald, s_aald, s_iast, s_last, s_aast, s_len, s_newa, s_new, s_thr, s_min, s_copy, s_obj, s_call, s_iret, s_aret, s_vret, go, ldI, lget, lput, lv_args, wsum, va_rf, hnd, cvr, cat_i, cat_r, cat_l, oi_of, oi_add, oi_sub, oA_ap, oA_u2, pi_lt, pi_le, pi_eq, pi_eq0, pi_lt0, pi_le0, pi_gt0, pi_ge0, pi_cl, sb_lit, fv4, isB01, nlt0, EvU_0, wO_ne, wL_ne, wC_ne, wN_ne, pO_ne, pU_ne, CN, LN, -Prod.exists, pi_ti, Op.lookupswitch.offset, EvU_at d77_0, EvU_at d77_1, EvU_at d77_4, EvU_at d77_5, EvU_at d77_6, EvU_at d77_7, EvU_at d77_8, EvU_at d77_11, EvU_at d77_12, EvU_at d77_15, EvU_at d77_16, EvU_at d77_17, EvU_at d77_18, EvU_at d77_21, EvU_at d77_22, EvU_at d77_25, EvU_at d77_28, EvU_at d77_29, EvU_at d77_30, EvU_at d77_31, Z77, LyS hL, LyG hL, LyW hL hw, hA, e0, e1, e2, e3, e4, e5, e6, e7, e8, h9]
  · simp [EvS, stI, enI, caI, s_push, s_iload, s_aload, s_istore, s_astore, s_iinc, s_bin, s_div, s_i2l, s_lcmp, s_dup, s_dup2, s_pop, s_tab, s_look, s_get, s_put, s_iald, s_lald, s_aald, s_iast, s_last, s_aast, s_len, s_newa, s_new, s_thr, s_min, s_copy, s_obj, s_call, s_iret, s_aret, s_vret, go, ldI, lget, lput, lv_args, wsum, va_rf, hnd, cvr, cat_i, cat_r, cat_l, oi_of, oi_add, oi_sub, oA_ap, oA_u2, pi_lt, pi_le, pi_eq, pi_eq0, pi_lt0, pi_le0, pi_gt0, pi_ge0, pi_cl, sb_lit, fv4, isB01, nlt0, EvU_0, wO_ne, wL_ne, wC_ne, wN_ne, pO_ne, pU_ne, CN, LN, -Prod.exists, pi_ti, Op.lookupswitch.offset, EvU_at d77_0, EvU_at d77_1, EvU_at d77_4, EvU_at d77_5, EvU_at d77_6, EvU_at d77_7, EvU_at d77_8, EvU_at d77_11, EvU_at d77_12, EvU_at d77_15, EvU_at d77_16, EvU_at d77_17, EvU_at d77_18, EvU_at d77_21, EvU_at d77_22, EvU_at d77_25, EvU_at d77_28, EvU_at d77_29, EvU_at d77_30, EvU_at d77_31, Z77, LyS hL, LyG hL, LyW hL hw, hA, e0, e1, e2, e3, e4, e5, e6, e7, e8, h9]
def beforeB (A : Nat → Nat → Int) : Nat → Nat → Int
  | 0, _ => 1
  | n + 1, a => if nB A a = 0 then 0 else beforeB A n (a + 1)
set_option maxRecDepth 20000 in
theorem l_before (hA : ∀ k j, sb (A k j)) (hL : Lay sh gr) (hW : WayOk A) (hN : NotchOk A) {i : Nat} (hi : (i : Int) < A 2 10) : ∀ (n a : Nat) (ls : Lc), a + n = i → nl ls = true → lget ls 0 = some (.ref 2) → lget ls 1 = some (.int (oi (i : Int))) → lget ls 2 = some (.int (oi (a : Int))) →
    (Ev (76, 2, ls, [], (sh, oA A, gl, gr), sl) r ↔ r = (.inl (some (.int (oi (beforeB A n a)))), (sh, oA A, gl, gr), sl)) := by
  have w4 := hW.2.2.2.1
  have e9 : sb (i : Int) := ⟨by omega, by omega⟩
  intro n
  induction n with
  | zero =>
    intro a ls hn g g0 g1 g2
    have e0 : sb (a : Int) := ⟨by omega, by omega⟩
    have e1 : i ≤ a := by omega
    rw [EvU_iff (fun _ => false) 10]
    simp (maxDischargeDepth := 9) [EvS, stI, enI, caI, s_push, s_iload, s_aload, s_istore, s_astore, s_iinc, s_bin, s_div, s_i2l, s_lcmp, s_dup, s_dup2, s_pop, s_tab, s_look, s_get, s_put, s_iald, s_lald, s_aald, s_iast, s_last, s_aast, s_len, s_newa, s_new, s_thr, s_min, s_copy, s_obj, s_call, s_iret, s_aret, s_vret, go, ldI, lget_lput, nl_I, nl_R, lv_args, wsum, va_rf, hnd, cvr, cat_i, cat_r, cat_l, oi_of, oi_add, oi_sub, oA_ap, oA_u2, pi_lt, pi_le, pi_eq, pi_eq0, pi_lt0, pi_le0, pi_gt0, pi_ge0, pi_cl, sb_lit, fv4, isB01, nlt0, EvU_0, wO_ne, wL_ne, wC_ne, wN_ne, pO_ne, pU_ne, CN, LN, -Prod.exists, pi_ti, Op.lookupswitch.offset, EvU_at d76_0, EvU_at d76_1, EvU_at d76_2, EvU_at d76_3, EvU_at d76_4, EvU_at d76_7, EvU_at d76_8, EvU_at d76_9, EvU_at d76_12, EvU_at d76_15, EvU_at d76_16, EvU_at d76_17, EvU_at d76_20, EvU_at d76_23, EvU_at d76_24, Z76, LyS hL, LyG hL, hA, g, g0, g1, g2, e0, e1, e9, beforeB]
  | succ n ih =>
    intro a ls hn g g0 g1 g2
    have e0 : sb (a : Int) := ⟨by omega, by omega⟩
    have e1 : ¬ i ≤ a := by omega
    have cn := fun (sl : Nat) (r : Out) => m_notch (gl := gl) (sl := sl) (r := r) hA hL hW hN (k := (a : Int)) (by omega) (by omega)
    rw [Int.toNat_natCast] at cn
    rw [EvU_iff (fun _ => false) 1]
    simp (maxDischargeDepth := 9) [EvS, stI, enI, caI, s_push, s_iload, s_aload, s_istore, s_astore, s_iinc, s_bin, s_div, s_i2l, s_lcmp, s_dup, s_dup2, s_pop, s_tab, s_look, s_get, s_put, s_iald, s_lald, s_aald, s_iast, s_last, s_aast, s_len, s_newa, s_new, s_thr, s_min, s_copy, s_obj, s_call, s_iret, s_aret, s_vret, go, ldI, lget_lput, nl_I, nl_R, lv_args, wsum, va_rf, hnd, cvr, cat_i, cat_r, cat_l, oi_of, oi_add, oi_sub, oA_ap, oA_u2, pi_lt, pi_le, pi_eq, pi_eq0, pi_lt0, pi_le0, pi_gt0, pi_ge0, pi_cl, sb_lit, fv4, isB01, nlt0, EvU_0, wO_ne, wL_ne, wC_ne, wN_ne, pO_ne, pU_ne, CN, LN, -Prod.exists, pi_ti, Op.lookupswitch.offset, EvU_at d76_0, EvU_at d76_1, EvU_at d76_2, EvU_at d76_3, EvU_at d76_4, EvU_at d76_7, EvU_at d76_8, EvU_at d76_9, EvU_at d76_12, EvU_at d76_15, EvU_at d76_16, EvU_at d76_17, EvU_at d76_20, EvU_at d76_23, EvU_at d76_24, Z76, LyS hL, LyG hL, hA, g, g0, g1, g2, e0]
    rw [EvU_iff (fun p => p == 2) 60]
    rcases nB01 hW hN (i := a) (by omega) with u1 | u1
    · simp (maxDischargeDepth := 9) [EvS, stI, enI, caI, s_push, s_iload, s_aload, s_istore, s_astore, s_iinc, s_bin, s_div, s_i2l, s_lcmp, s_dup, s_dup2, s_pop, s_tab, s_look, s_get, s_put, s_iald, s_lald, s_aald, s_iast, s_last, s_aast, s_len, s_newa, s_new, s_thr, s_min, s_copy, s_obj, s_call, s_iret, s_aret, s_vret, go, ldI, lget_lput, nl_I, nl_R, lv_args, wsum, va_rf, hnd, cvr, cat_i, cat_r, cat_l, oi_of, oi_add, oi_sub, oA_ap, oA_u2, pi_lt, pi_le, pi_eq, pi_eq0, pi_lt0, pi_le0, pi_gt0, pi_ge0, pi_cl, sb_lit, fv4, isB01, nlt0, EvU_0, wO_ne, wL_ne, wC_ne, wN_ne, pO_ne, pU_ne, CN, LN, -Prod.exists, pi_ti, Op.lookupswitch.offset, EvU_at d76_0, EvU_at d76_1, EvU_at d76_2, EvU_at d76_3, EvU_at d76_4, EvU_at d76_7, EvU_at d76_8, EvU_at d76_9, EvU_at d76_12, EvU_at d76_15, EvU_at d76_16, EvU_at d76_17, EvU_at d76_20, EvU_at d76_23, EvU_at d76_24, Z76, Z77, LyS hL, LyG hL, hA, g, g0, g1, g2, e0, e1, e9, cn, u1, beforeB]
    · simp (maxDischargeDepth := 9) [EvS, stI, enI, caI, s_push, s_iload, s_aload, s_istore, s_astore, s_iinc, s_bin, s_div, s_i2l, s_lcmp, s_dup, s_dup2, s_pop, s_tab, s_look, s_get, s_put, s_iald, s_lald, s_aald, s_iast, s_last, s_aast, s_len, s_newa, s_new, s_thr, s_min, s_copy, s_obj, s_call, s_iret, s_aret, s_vret, go, ldI, lget_lput, nl_I, nl_R, lv_args, wsum, va_rf, hnd, cvr, cat_i, cat_r, cat_l, oi_of, oi_add, oi_sub, oA_ap, oA_u2, pi_lt, pi_le, pi_eq, pi_eq0, pi_lt0, pi_le0, pi_gt0, pi_ge0, pi_cl, sb_lit, fv4, isB01, nlt0, EvU_0, wO_ne, wL_ne, wC_ne, wN_ne, pO_ne, pU_ne, CN, LN, -Prod.exists, pi_ti, Op.lookupswitch.offset, EvU_at d76_0, EvU_at d76_1, EvU_at d76_2, EvU_at d76_3, EvU_at d76_4, EvU_at d76_7, EvU_at d76_8, EvU_at d76_9, EvU_at d76_12, EvU_at d76_15, EvU_at d76_16, EvU_at d76_17, EvU_at d76_20, EvU_at d76_23, EvU_at d76_24, Z76, Z77, LyS hL, LyG hL, hA, g, g0, g1, g2, e0, e1, e9, cn, u1, beforeB]
      refine ih (a + 1) _ ?_ ?_ ?_ ?_ ?_
      · omega
      · simp (maxDischargeDepth := 9) [lget_lput, nl_I, nl_R, g]
      · simp (maxDischargeDepth := 9) [lget_lput, nl_I, nl_R, g, g0]
      · simp (maxDischargeDepth := 9) [lget_lput, nl_I, nl_R, g, g1]
      · simp (maxDischargeDepth := 9) [lget_lput, nl_I, nl_R, g]
set_option maxRecDepth 20000 in
theorem m_before (hA : ∀ k j, sb (A k j)) (hL : Lay sh gr) (hW : WayOk A) (hN : NotchOk A) {i : Nat} (hi : (i : Int) < A 2 10) : Ev (76, 0, [(0, .ref 2), (1, .int (oi (i : Int)))], [], (sh, oA A, gl, gr), sl) r ↔ r = (.inl (some (.int (oi (beforeB A i 0)))), (sh, oA A, gl, gr), sl) := by
  rw [EvU_iff (fun p => p == 2) 10]
  simp [EvS, stI, enI, caI, s_push, s_iload, s_aload, s_istore, s_astore, s_iinc, s_bin, s_div, s_i2l, s_lcmp, s_dup, s_dup2, s_pop, s_tab, s_look, s_get, s_put, s_iald, s_lald, s_aald, s_iast, s_last, s_aast, s_len, s_newa, s_new, s_thr, s_min, s_copy, s_obj, s_call, s_iret, s_aret, s_vret, go, ldI, lget, lput, lv_args, wsum, va_rf, hnd, cvr, cat_i, cat_r, cat_l, oi_of, oi_add, oi_sub, oA_ap, oA_u2, pi_lt, pi_le, pi_eq, pi_eq0, pi_lt0, pi_le0, pi_gt0, pi_ge0, pi_cl, sb_lit, fv4, isB01, nlt0, EvU_0, wO_ne, wL_ne, wC_ne, wN_ne, pO_ne, pU_ne, CN, LN, -Prod.exists, pi_ti, Op.lookupswitch.offset, EvU_at d76_0, EvU_at d76_1, EvU_at d76_2, EvU_at d76_3, EvU_at d76_4, EvU_at d76_7, EvU_at d76_8, EvU_at d76_9, EvU_at d76_12, EvU_at d76_15, EvU_at d76_16, EvU_at d76_17, EvU_at d76_20, EvU_at d76_23, EvU_at d76_24, Z76, LyS hL]
  refine l_before hA hL hW hN hi i 0 _ (Nat.zero_add i) ?_ ?_ ?_ ?_
  · simp [nl, cat_i, cat_r]
  · simp [lget, cat_i, cat_r]
  · simp [lget, cat_i, cat_r]
  · simp [lget, cat_i, cat_r]
theorem beforeB01 : ∀ n a : Nat, beforeB A n a = 0 ∨ beforeB A n a = 1 := by
  intro n
  induction n with
  | zero =>
    intro a
    exact Or.inr rfl
  | succ n ih =>
    intro a
    unfold beforeB
    split
    · exact Or.inl rfl
    · exact ih _
end
