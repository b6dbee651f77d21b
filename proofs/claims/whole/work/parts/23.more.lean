/-! more of the class: small methods -/
section
variable {sh : List (Nat × Nat)} {A : Nat → Nat → Int} {gl : Nat → Nat → Int64} {gr : Nat → Nat → Option Nat} {sl : Nat} {r : Out}
set_option maxRecDepth 20000 in
theorem m_isLugUp (hA : ∀ k j, sb (A k j)) (hL : Lay sh gr) {k : Int} (k0 : -1 ≤ k) (hk : k < 12) (h0 : ∀ i, i < 12 → 0 ≤ A 15 i) (h1 : ∀ i, i < 12 → A (pO i) 1 ≤ 61) : Ev (26, 0, [(0, .ref 2), (1, .int (oi k))], [], (sh, oA A, gl, gr), sl) r ↔ r = (.inl (some (.int (oi (if k = -1 then 0 else upB A k.toNat)))), (sh, oA A, gl, gr), sl) := by
  rw [EvU_iff (fun _ => false) 40]
  have e0 : sb k := ⟨by omega, by omega⟩
  by_cases c1 : k = -1
  · subst c1
    simp [EvS, stI, enI, caI, s_push, s_iload, s_aload, s_istore, s_astore, s_iinc, s_bin, s_div, s_i2l, s_lcmp, s_dup, s_dup2, s_pop, s_tab, s_look, s_get, s_put, s_iald, s_lald, s_aald, s_iast, s_last, s_aast, s_len, s_newa, s_new, s_thr, s_min, s_copy, s_obj, s_call, s_iret, s_aret, s_vret, go, ldI, lget, lput, lv_args, wsum, va_rf, hnd, cvr, cat_i, cat_r, cat_l, oi_of, oi_add, oi_sub, oA_ap, oA_u2, pi_lt, pi_le, pi_eq, pi_eq0, pi_lt0, pi_le0, pi_gt0, pi_ge0, pi_cl, sb_lit, fv4, isB01, nlt0, EvU_0, wO_ne, wL_ne, wC_ne, wN_ne, pO_ne, pU_ne, CN, EvU_at d26_0, EvU_at d26_1, EvU_at d26_2, EvU_at d26_5, EvU_at d26_6, EvU_at d26_7, EvU_at d26_10, EvU_at d26_13, EvU_at d26_14, EvU_at d26_17, EvU_at d26_18, Z26]
  · have hu := fun (sl : Nat) (r : Out) => m_isUp (gl := gl) (sl := sl) (r := r) hA hL (k := k) (by omega) hk (h0 _ (by omega)) (h1 _ (by omega))
    have hb : upB A k.toNat = 0 ∨ upB A k.toNat = 1 := by
      unfold upB
      split
      · exact Or.inr rfl
      · exact Or.inl rfl
    rcases hb with hb | hb
    · simp [EvS, stI, enI, caI, s_push, s_iload, s_aload, s_istore, s_astore, s_iinc, s_bin, s_div, s_i2l, s_lcmp, s_dup, s_dup2, s_pop, s_tab, s_look, s_get, s_put, s_iald, s_lald, s_aald, s_iast, s_last, s_aast, s_len, s_newa, s_new, s_thr, s_min, s_copy, s_obj, s_call, s_iret, s_aret, s_vret, go, ldI, lget, lput, lv_args, wsum, va_rf, hnd, cvr, cat_i, cat_r, cat_l, oi_of, oi_add, oi_sub, oA_ap, oA_u2, pi_lt, pi_le, pi_eq, pi_eq0, pi_lt0, pi_le0, pi_gt0, pi_ge0, pi_cl, sb_lit, fv4, isB01, nlt0, EvU_0, wO_ne, wL_ne, wC_ne, wN_ne, pO_ne, pU_ne, CN, EvU_at d26_0, EvU_at d26_1, EvU_at d26_2, EvU_at d26_5, EvU_at d26_6, EvU_at d26_7, EvU_at d26_10, EvU_at d26_13, EvU_at d26_14, EvU_at d26_17, EvU_at d26_18, Z26, Z24, LyS hL, e0, c1, hu, hb]
    · simp [EvS, stI, enI, caI, s_push, s_iload, s_aload, s_istore, s_astore, s_iinc, s_bin, s_div, s_i2l, s_lcmp, s_dup, s_dup2, s_pop, s_tab, s_look, s_get, s_put, s_iald, s_lald, s_aald, s_iast, s_last, s_aast, s_len, s_newa, s_new, s_thr, s_min, s_copy, s_obj, s_call, s_iret, s_aret, s_vret, go, ldI, lget, lput, lv_args, wsum, va_rf, hnd, cvr, cat_i, cat_r, cat_l, oi_of, oi_add, oi_sub, oA_ap, oA_u2, pi_lt, pi_le, pi_eq, pi_eq0, pi_lt0, pi_le0, pi_gt0, pi_ge0, pi_cl, sb_lit, fv4, isB01, nlt0, EvU_0, wO_ne, wL_ne, wC_ne, wN_ne, pO_ne, pU_ne, CN, EvU_at d26_0, EvU_at d26_1, EvU_at d26_2, EvU_at d26_5, EvU_at d26_6, EvU_at d26_7, EvU_at d26_10, EvU_at d26_13, EvU_at d26_14, EvU_at d26_17, EvU_at d26_18, Z26, Z24, LyS hL, e0, c1, hu, hb]
set_option maxRecDepth 20000 in
theorem m_pairsOf (hL : Lay sh gr) {k : Int} (k0 : 0 ≤ k) (hk : k < 2) : Ev (49, 0, [(0, .ref 2), (1, .int (oi k))], [], (sh, oA A, gl, gr), sl) r ↔ r = (.inl (some (.ref (9 + 2 * k.toNat))), (sh, oA A, gl, gr), sl) := by
  rw [EvU_iff (fun _ => false) 40]
  have e0 : sb k := ⟨by omega, by omega⟩
  obtain rfl | rfl : k = 0 ∨ k = 1 := by omega
  · simp [EvS, stI, enI, caI, s_push, s_iload, s_aload, s_istore, s_astore, s_iinc, s_bin, s_div, s_i2l, s_lcmp, s_dup, s_dup2, s_pop, s_tab, s_look, s_get, s_put, s_iald, s_lald, s_aald, s_iast, s_last, s_aast, s_len, s_newa, s_new, s_thr, s_min, s_copy, s_obj, s_call, s_iret, s_aret, s_vret, go, ldI, lget, lput, lv_args, wsum, va_rf, hnd, cvr, cat_i, cat_r, cat_l, oi_of, oi_add, oi_sub, oA_ap, oA_u2, pi_lt, pi_le, pi_eq, pi_eq0, pi_lt0, pi_le0, pi_gt0, pi_ge0, pi_cl, sb_lit, fv4, isB01, nlt0, EvU_0, wO_ne, wL_ne, wC_ne, wN_ne, pO_ne, pU_ne, CN, EvU_at d49_0, EvU_at d49_1, EvU_at d49_4, EvU_at d49_5, EvU_at d49_8, EvU_at d49_11, EvU_at d49_12, EvU_at d49_15, Z49, LyS hL, LyG hL]
  · simp [EvS, stI, enI, caI, s_push, s_iload, s_aload, s_istore, s_astore, s_iinc, s_bin, s_div, s_i2l, s_lcmp, s_dup, s_dup2, s_pop, s_tab, s_look, s_get, s_put, s_iald, s_lald, s_aald, s_iast, s_last, s_aast, s_len, s_newa, s_new, s_thr, s_min, s_copy, s_obj, s_call, s_iret, s_aret, s_vret, go, ldI, lget, lput, lv_args, wsum, va_rf, hnd, cvr, cat_i, cat_r, cat_l, oi_of, oi_add, oi_sub, oA_ap, oA_u2, pi_lt, pi_le, pi_eq, pi_eq0, pi_lt0, pi_le0, pi_gt0, pi_ge0, pi_cl, sb_lit, fv4, isB01, nlt0, EvU_0, wO_ne, wL_ne, wC_ne, wN_ne, pO_ne, pU_ne, CN, EvU_at d49_0, EvU_at d49_1, EvU_at d49_4, EvU_at d49_5, EvU_at d49_8, EvU_at d49_11, EvU_at d49_12, EvU_at d49_15, Z49, LyS hL, LyG hL]
set_option maxRecDepth 20000 in
theorem m_rowOf (hL : Lay sh gr) {k : Int} (k0 : 0 ≤ k) (hk : k < 2) : Ev (70, 0, [(0, .ref 1), (1, .int (oi k))], [], (sh, oA A, gl, gr), sl) r ↔ r = (.inl (some (.ref (14 + k.toNat))), (sh, oA A, gl, gr), sl) := by
  rw [EvU_iff (fun _ => false) 40]
  have e0 : sb k := ⟨by omega, by omega⟩
  obtain rfl | rfl : k = 0 ∨ k = 1 := by omega
  · simp [EvS, stI, enI, caI, s_push, s_iload, s_aload, s_istore, s_astore, s_iinc, s_bin, s_div, s_i2l, s_lcmp, s_dup, s_dup2, s_pop, s_tab, s_look, s_get, s_put, s_iald, s_lald, s_aald, s_iast, s_last, s_aast, s_len, s_newa, s_new, s_thr, s_min, s_copy, s_obj, s_call, s_iret, s_aret, s_vret, go, ldI, lget, lput, lv_args, wsum, va_rf, hnd, cvr, cat_i, cat_r, cat_l, oi_of, oi_add, oi_sub, oA_ap, oA_u2, pi_lt, pi_le, pi_eq, pi_eq0, pi_lt0, pi_le0, pi_gt0, pi_ge0, pi_cl, sb_lit, fv4, isB01, nlt0, EvU_0, wO_ne, wL_ne, wC_ne, wN_ne, pO_ne, pU_ne, CN, EvU_at d70_0, EvU_at d70_1, EvU_at d70_4, EvU_at d70_5, EvU_at d70_8, EvU_at d70_11, EvU_at d70_14, EvU_at d70_17, EvU_at d70_18, EvU_at d70_21, EvU_at d70_24, EvU_at d70_27, Z70, LyS hL, LyG hL]
  · simp [EvS, stI, enI, caI, s_push, s_iload, s_aload, s_istore, s_astore, s_iinc, s_bin, s_div, s_i2l, s_lcmp, s_dup, s_dup2, s_pop, s_tab, s_look, s_get, s_put, s_iald, s_lald, s_aald, s_iast, s_last, s_aast, s_len, s_newa, s_new, s_thr, s_min, s_copy, s_obj, s_call, s_iret, s_aret, s_vret, go, ldI, lget, lput, lv_args, wsum, va_rf, hnd, cvr, cat_i, cat_r, cat_l, oi_of, oi_add, oi_sub, oA_ap, oA_u2, pi_lt, pi_le, pi_eq, pi_eq0, pi_lt0, pi_le0, pi_gt0, pi_ge0, pi_cl, sb_lit, fv4, isB01, nlt0, EvU_0, wO_ne, wL_ne, wC_ne, wN_ne, pO_ne, pU_ne, CN, EvU_at d70_0, EvU_at d70_1, EvU_at d70_4, EvU_at d70_5, EvU_at d70_8, EvU_at d70_11, EvU_at d70_14, EvU_at d70_17, EvU_at d70_18, EvU_at d70_21, EvU_at d70_24, EvU_at d70_27, Z70, LyS hL, LyG hL]
set_option maxRecDepth 20000 in
theorem m_stepsClear (hL : Lay sh gr) : Ev (30, 0, [(0, .ref 72)], [], (sh, oA A, gl, gr), sl) r ↔ r = (.inl none, (sh, oA (u2 A 72 2 0), gl, gr), sl) := by
  rw [EvU_iff (fun _ => false) 40]
  simp [EvS, stI, enI, caI, s_push, s_iload, s_aload, s_istore, s_astore, s_iinc, s_bin, s_div, s_i2l, s_lcmp, s_dup, s_dup2, s_pop, s_tab, s_look, s_get, s_put, s_iald, s_lald, s_aald, s_iast, s_last, s_aast, s_len, s_newa, s_new, s_thr, s_min, s_copy, s_obj, s_call, s_iret, s_aret, s_vret, go, ldI, lget, lput, lv_args, wsum, va_rf, hnd, cvr, cat_i, cat_r, cat_l, oi_of, oi_add, oi_sub, oA_ap, oA_u2, pi_lt, pi_le, pi_eq, pi_eq0, pi_lt0, pi_le0, pi_gt0, pi_ge0, pi_cl, sb_lit, fv4, isB01, nlt0, EvU_0, wO_ne, wL_ne, wC_ne, wN_ne, pO_ne, pU_ne, CN, EvU_at d30_0, EvU_at d30_1, EvU_at d30_2, EvU_at d30_5, Z30, LyS hL, LyG hL]
set_option maxRecDepth 20000 in
theorem m_logClear (hL : Lay sh gr) : Ev (31, 0, [(0, .ref 74)], [], (sh, oA A, gl, gr), sl) r ↔ r = (.inl none, (sh, oA (u2 A 74 1 0), gl, gr), sl) := by
  rw [EvU_iff (fun _ => false) 40]
  simp [EvS, stI, enI, caI, s_push, s_iload, s_aload, s_istore, s_astore, s_iinc, s_bin, s_div, s_i2l, s_lcmp, s_dup, s_dup2, s_pop, s_tab, s_look, s_get, s_put, s_iald, s_lald, s_aald, s_iast, s_last, s_aast, s_len, s_newa, s_new, s_thr, s_min, s_copy, s_obj, s_call, s_iret, s_aret, s_vret, go, ldI, lget, lput, lv_args, wsum, va_rf, hnd, cvr, cat_i, cat_r, cat_l, oi_of, oi_add, oi_sub, oA_ap, oA_u2, pi_lt, pi_le, pi_eq, pi_eq0, pi_lt0, pi_le0, pi_gt0, pi_ge0, pi_cl, sb_lit, fv4, isB01, nlt0, EvU_0, wO_ne, wL_ne, wC_ne, wN_ne, pO_ne, pU_ne, CN, EvU_at d31_0, EvU_at d31_1, EvU_at d31_2, EvU_at d31_5, Z31, LyS hL, LyG hL]
set_option maxRecDepth 20000 in
theorem m_pjoin (hA : ∀ k j, sb (A k j)) (hL : Lay sh gr) {q : Nat} (hq : q = 9 ∨ q = 11) {a b : Int} (a0 : 0 ≤ a) (ha : a < 32) (b0 : 0 ≤ b) (hb : b < 32) : Ev (51, 0, [(0, .ref q), (1, .int (oi a)), (2, .int (oi b))], [], (sh, oA A, gl, gr), sl) r ↔ r = (.inl none, (sh, oA (u2 (u2 (u2 A (q + 1) a.toNat b) (q + 1) b.toNat a) q 1 (A q 1 + 1)), gl, gr), sl) := by
  rw [EvU_iff (fun _ => false) 40]
  have e0 : sb a := ⟨by omega, by omega⟩
  have e1 : ¬ 32 ≤ a.toNat := by omega
  have e2 : sb b := ⟨by omega, by omega⟩
  have e3 : ¬ 32 ≤ b.toNat := by omega
  have e4 : ¬ a < 0 := by omega
  have e5 : ¬ b < 0 := by omega
  rcases hq with rfl | rfl
  · have e6 : u2 (u2 A 10 a.toNat b) 10 b.toNat a 9 1 = A 9 1 := by simp [u2]
    simp [EvS, stI, enI, caI, s_push, s_iload, s_aload, s_istore, s_astore, s_iinc, s_bin, s_div, s_i2l, s_lcmp, s_dup, s_dup2, s_pop, s_tab, s_look, s_get, s_put, s_iald, s_lald, s_aald, s_iast, s_last, s_aast, s_len, s_newa, s_new, s_thr, s_min, s_copy, s_obj, s_call, s_iret, s_aret, s_vret, go, ldI, lget, lput, lv_args, wsum, va_rf, hnd, cvr, cat_i, cat_r, cat_l, oi_of, oi_add, oi_sub, oA_ap, oA_u2, pi_lt, pi_le, pi_eq, pi_eq0, pi_lt0, pi_le0, pi_gt0, pi_ge0, pi_cl, sb_lit, fv4, isB01, nlt0, EvU_0, wO_ne, wL_ne, wC_ne, wN_ne, pO_ne, pU_ne, CN, EvU_at d51_0, EvU_at d51_1, EvU_at d51_4, EvU_at d51_5, EvU_at d51_6, EvU_at d51_7, EvU_at d51_8, EvU_at d51_11, EvU_at d51_12, EvU_at d51_13, EvU_at d51_14, EvU_at d51_15, EvU_at d51_16, EvU_at d51_19, EvU_at d51_20, EvU_at d51_21, EvU_at d51_24, Z51, LyS hL, LyG hL, hA, e0, e1, e2, e3, e4, e5, e6]
  · have e6 : u2 (u2 A 12 a.toNat b) 12 b.toNat a 11 1 = A 11 1 := by simp [u2]
    simp [EvS, stI, enI, caI, s_push, s_iload, s_aload, s_istore, s_astore, s_iinc, s_bin, s_div, s_i2l, s_lcmp, s_dup, s_dup2, s_pop, s_tab, s_look, s_get, s_put, s_iald, s_lald, s_aald, s_iast, s_last, s_aast, s_len, s_newa, s_new, s_thr, s_min, s_copy, s_obj, s_call, s_iret, s_aret, s_vret, go, ldI, lget, lput, lv_args, wsum, va_rf, hnd, cvr, cat_i, cat_r, cat_l, oi_of, oi_add, oi_sub, oA_ap, oA_u2, pi_lt, pi_le, pi_eq, pi_eq0, pi_lt0, pi_le0, pi_gt0, pi_ge0, pi_cl, sb_lit, fv4, isB01, nlt0, EvU_0, wO_ne, wL_ne, wC_ne, wN_ne, pO_ne, pU_ne, CN, EvU_at d51_0, EvU_at d51_1, EvU_at d51_4, EvU_at d51_5, EvU_at d51_6, EvU_at d51_7, EvU_at d51_8, EvU_at d51_11, EvU_at d51_12, EvU_at d51_13, EvU_at d51_14, EvU_at d51_15, EvU_at d51_16, EvU_at d51_19, EvU_at d51_20, EvU_at d51_21, EvU_at d51_24, Z51, LyS hL, LyG hL, hA, e0, e1, e2, e3, e4, e5, e6]
def oneOut (A : Nat → Nat → Int) (i : Nat) (c : Int) : Int := passA A (A 4 (A 5 i).toNat).toNat (wC (A 4 (A 5 i).toNat).toNat) c (A 14 (A 5 i).toNat) (A 2 9)
def fromF (A : Nat → Nat → Int) : Nat → Int → Int
  | 0, c => c
  | n + 1, c => fromF A n (oneOut A n c)
set_option maxRecDepth 20000 in
theorem l_from (hA : ∀ k j, sb (A k j)) (hL : Lay sh gr) (hW : WayOk A) : ∀ (n : Nat) (c : Int) (ls : Lc), (n : Int) ≤ A 2 10 → 0 ≤ c → c < A 2 9 → nl ls = true → lget ls 0 = some (.ref 2) → lget ls 2 = some (.int (oi c)) → lget ls 3 = some (.int (oi ((n : Int) - 1))) →
    (Ev (22, 9, ls, [], (sh, oA A, gl, gr), sl) r ↔ r = (.inl (some (.int (oi (fromF A n c)))), (sh, oA A, gl, gr), sl)) := by
  obtain ⟨w1, w2, w3, w4, w5, w6, w7⟩ := hW
  intro n
  induction n with
  | zero =>
    intro c ls hn c0 hc g g0 g2 g3
    have e0 : sb (((0 : Nat) : Int) - 1) := ⟨by decide, by decide⟩
    have e1 : (((0 : Nat) : Int) - 1) < 0 := by decide
    rw [EvU_iff (fun _ => false) 10]
    simp (maxDischargeDepth := 9) [EvS, stI, enI, caI, s_push, s_iload, s_aload, s_istore, s_astore, s_iinc, s_bin, s_div, s_i2l, s_lcmp, s_dup, s_dup2, s_pop, s_tab, s_look, s_get, s_put, s_iald, s_lald, s_aald, s_iast, s_last, s_aast, s_len, s_newa, s_new, s_thr, s_min, s_copy, s_obj, s_call, s_iret, s_aret, s_vret, go, ldI, lget_lput, nl_I, nl_R, lv_args, wsum, va_rf, hnd, cvr, cat_i, cat_r, cat_l, oi_of, oi_add, oi_sub, oA_ap, oA_u2, pi_lt, pi_le, pi_eq, pi_eq0, pi_lt0, pi_le0, pi_gt0, pi_ge0, pi_cl, sb_lit, fv4, isB01, nlt0, EvU_0, wO_ne, wL_ne, wC_ne, wN_ne, pO_ne, pU_ne, CN, EvU_at d22_0, EvU_at d22_1, EvU_at d22_2, EvU_at d22_3, EvU_at d22_6, EvU_at d22_7, EvU_at d22_8, EvU_at d22_9, EvU_at d22_10, EvU_at d22_13, EvU_at d22_14, EvU_at d22_17, EvU_at d22_18, EvU_at d22_21, EvU_at d22_22, EvU_at d22_25, EvU_at d22_26, EvU_at d22_27, EvU_at d22_28, EvU_at d22_29, EvU_at d22_31, EvU_at d22_33, EvU_at d22_35, EvU_at d22_38, EvU_at d22_39, EvU_at d22_40, EvU_at d22_43, EvU_at d22_46, EvU_at d22_47, EvU_at d22_50, EvU_at d22_51, EvU_at d22_52, EvU_at d22_53, EvU_at d22_54, EvU_at d22_57, EvU_at d22_60, EvU_at d22_61, EvU_at d22_64, EvU_at d22_67, EvU_at d22_68, Z22, LyS hL, LyG hL, hA, g, g0, g2, g3, fromF]
  | succ n ih =>
    intro c ls hn c0 hc g g0 g2 g3
    have e9 : ((n + 1 : Nat) : Int) - 1 = n := by omega
    rw [e9] at g3
    have e0 : sb (n : Int) := ⟨by omega, by omega⟩
    obtain ⟨o0, o1, o2, o3⟩ := w5 n (by omega)
    obtain ⟨p0, p1⟩ := w6 (A 5 n).toNat (by omega)
    obtain ⟨q0, q1, -, q2⟩ := w7 (A 4 (A 5 n).toNat).toNat (by omega)
    have hw : (A 4 (A 5 n).toNat).toNat < 8 := by omega
    have e2 : ¬ 6 ≤ n := by omega
    have e3 : ¬ 6 ≤ (A 5 n).toNat := by omega
    have e4 : ¬ 8 ≤ (A 4 (A 5 n).toNat).toNat := by omega
    have e5 : ¬ A 5 n < 0 := by omega
    have e6 : ¬ A 4 (A 5 n).toNat < 0 := by omega
    have e7 : (n : Int) + -1 = (n : Int) - 1 := by omega
    have hp := fun (sl : Nat) (r : Out) => m_pass (gl := gl) (sl := sl) (r := r) hA hL hw (Or.inr rfl) w2 c0 hc p0 p1 q0 q1 q2
    have hin := passA_in (A := A) w2 c0 hc p0 p1 q0 q1 q2
    rw [EvU_iff (fun _ => false) 1]
    simp (maxDischargeDepth := 9) [EvS, stI, enI, caI, s_push, s_iload, s_aload, s_istore, s_astore, s_iinc, s_bin, s_div, s_i2l, s_lcmp, s_dup, s_dup2, s_pop, s_tab, s_look, s_get, s_put, s_iald, s_lald, s_aald, s_iast, s_last, s_aast, s_len, s_newa, s_new, s_thr, s_min, s_copy, s_obj, s_call, s_iret, s_aret, s_vret, go, ldI, lget_lput, nl_I, nl_R, lv_args, wsum, va_rf, hnd, cvr, cat_i, cat_r, cat_l, oi_of, oi_add, oi_sub, oA_ap, oA_u2, pi_lt, pi_le, pi_eq, pi_eq0, pi_lt0, pi_le0, pi_gt0, pi_ge0, pi_cl, sb_lit, fv4, isB01, nlt0, EvU_0, wO_ne, wL_ne, wC_ne, wN_ne, pO_ne, pU_ne, CN, EvU_at d22_0, EvU_at d22_1, EvU_at d22_2, EvU_at d22_3, EvU_at d22_6, EvU_at d22_7, EvU_at d22_8, EvU_at d22_9, EvU_at d22_10, EvU_at d22_13, EvU_at d22_14, EvU_at d22_17, EvU_at d22_18, EvU_at d22_21, EvU_at d22_22, EvU_at d22_25, EvU_at d22_26, EvU_at d22_27, EvU_at d22_28, EvU_at d22_29, EvU_at d22_31, EvU_at d22_33, EvU_at d22_35, EvU_at d22_38, EvU_at d22_39, EvU_at d22_40, EvU_at d22_43, EvU_at d22_46, EvU_at d22_47, EvU_at d22_50, EvU_at d22_51, EvU_at d22_52, EvU_at d22_53, EvU_at d22_54, EvU_at d22_57, EvU_at d22_60, EvU_at d22_61, EvU_at d22_64, EvU_at d22_67, EvU_at d22_68, Z22, LyS hL, LyG hL, hA, g, g0, g2, g3, e0]
    rw [EvU_iff (fun p => p == 9) 60]
    simp (maxDischargeDepth := 9) [EvS, stI, enI, caI, s_push, s_iload, s_aload, s_istore, s_astore, s_iinc, s_bin, s_div, s_i2l, s_lcmp, s_dup, s_dup2, s_pop, s_tab, s_look, s_get, s_put, s_iald, s_lald, s_aald, s_iast, s_last, s_aast, s_len, s_newa, s_new, s_thr, s_min, s_copy, s_obj, s_call, s_iret, s_aret, s_vret, go, ldI, lget_lput, nl_I, nl_R, lv_args, wsum, va_rf, hnd, cvr, cat_i, cat_r, cat_l, oi_of, oi_add, oi_sub, oA_ap, oA_u2, pi_lt, pi_le, pi_eq, pi_eq0, pi_lt0, pi_le0, pi_gt0, pi_ge0, pi_cl, sb_lit, fv4, isB01, nlt0, EvU_0, wO_ne, wL_ne, wC_ne, wN_ne, pO_ne, pU_ne, CN, EvU_at d22_0, EvU_at d22_1, EvU_at d22_2, EvU_at d22_3, EvU_at d22_6, EvU_at d22_7, EvU_at d22_8, EvU_at d22_9, EvU_at d22_10, EvU_at d22_13, EvU_at d22_14, EvU_at d22_17, EvU_at d22_18, EvU_at d22_21, EvU_at d22_22, EvU_at d22_25, EvU_at d22_26, EvU_at d22_27, EvU_at d22_28, EvU_at d22_29, EvU_at d22_31, EvU_at d22_33, EvU_at d22_35, EvU_at d22_38, EvU_at d22_39, EvU_at d22_40, EvU_at d22_43, EvU_at d22_46, EvU_at d22_47, EvU_at d22_50, EvU_at d22_51, EvU_at d22_52, EvU_at d22_53, EvU_at d22_54, EvU_at d22_57, EvU_at d22_60, EvU_at d22_61, EvU_at d22_64, EvU_at d22_67, EvU_at d22_68, Z22, Z20, LyS hL, LyG hL, LyW hL hw, hA, g, g0, g2, g3, e0, e2, e3, e4, e5, e6, hp]
    refine ih (oneOut A n c) _ ?_ hin.1 hin.2 ?_ ?_ ?_ ?_
    · omega
    · simp (maxDischargeDepth := 9) [lget_lput, nl_I, nl_R, g]
    · simp (maxDischargeDepth := 9) [lget_lput, nl_I, nl_R, g, g0]
    · simp (maxDischargeDepth := 9) [lget_lput, nl_I, nl_R, g, oneOut]
    · simp (maxDischargeDepth := 9) [lget_lput, nl_I, nl_R, g, e7]
end
