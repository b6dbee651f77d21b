/-! leaf methods of the class, over its cells -/
section
variable {sh : List (Nat × Nat)} {A : Nat → Nat → Int} {gl : Nat → Nat → Int64} {gr : Nat → Nat → Option Nat} {sl : Nat} {r : Out}
/-- is the active pin of pin wheel k up -/
def upB (A : Nat → Nat → Int) (k : Nat) : Int := if A 15 k < A (pO k) 1 ∧ A (pU k) (A 15 k).toNat ≠ 0 then 1 else 0
theorem m_isUp (hA : ∀ k j, sb (A k j)) (hL : Lay sh gr) {k : Nat} (hk : k < 12) (h0 : 0 ≤ A 15 k) (h1 : A (pO k) 1 ≤ 61) : Ev (24, 0, [(0, .ref 2), (1, .int (oi k))], [], (sh, oA A, gl, gr), sl) r ↔ r = (.inl (some (.int (oi (upB A k)))), (sh, oA A, gl, gr), sl) := by
  rw [EvU_iff (fun _ => false) 40]
  have e0 : sb (k : Int) := sb_n (by omega)
  have e1 : ¬ 12 ≤ k := by omega
  unfold upB
  by_cases c1 : A 15 k < A (pO k) 1
  · have e2 : ¬ 61 ≤ (A 15 k).toNat := by omega
    by_cases c2 : A (pU k) (A 15 k).toNat = 0
    · simp [EvU, sx, stI, enI, caI, s_push, s_iload, s_aload, s_istore, s_astore, s_iinc, s_bin, s_div, s_i2l, s_lcmp, s_dup, s_dup2, s_pop, s_tab, s_look, s_get, s_put, s_iald, s_lald, s_aald, s_iast, s_last, s_aast, s_len, s_newa, s_new, s_thr, s_min, s_copy, s_obj, s_call, s_iret, s_aret, s_vret, go, ldI, lget, lput, lv_args, wsum, isB, va_rf, hnd, cvr, Value.category, oi_of, oi_add, oi_sub, oA_ap, oA_u2, pi_lt, pi_le, pi_eq, pi_eq0, pi_lt0, pi_le0, pi_gt0, pi_ge0, pi_cl, sb_lit, CN, D24, Z24, LS hL, LG hL, LP hL hk, hA, e0, e1, e2, c1, c2, Int.not_lt.mpr h0, Int.not_le.mpr c1]
    · simp [EvU, sx, stI, enI, caI, s_push, s_iload, s_aload, s_istore, s_astore, s_iinc, s_bin, s_div, s_i2l, s_lcmp, s_dup, s_dup2, s_pop, s_tab, s_look, s_get, s_put, s_iald, s_lald, s_aald, s_iast, s_last, s_aast, s_len, s_newa, s_new, s_thr, s_min, s_copy, s_obj, s_call, s_iret, s_aret, s_vret, go, ldI, lget, lput, lv_args, wsum, isB, va_rf, hnd, cvr, Value.category, oi_of, oi_add, oi_sub, oA_ap, oA_u2, pi_lt, pi_le, pi_eq, pi_eq0, pi_lt0, pi_le0, pi_gt0, pi_ge0, pi_cl, sb_lit, CN, D24, Z24, LS hL, LG hL, LP hL hk, hA, e0, e1, e2, c1, c2, Int.not_lt.mpr h0, Int.not_le.mpr c1]
  · simp [EvU, sx, stI, enI, caI, s_push, s_iload, s_aload, s_istore, s_astore, s_iinc, s_bin, s_div, s_i2l, s_lcmp, s_dup, s_dup2, s_pop, s_tab, s_look, s_get, s_put, s_iald, s_lald, s_aald, s_iast, s_last, s_aast, s_len, s_newa, s_new, s_thr, s_min, s_copy, s_obj, s_call, s_iret, s_aret, s_vret, go, ldI, lget, lput, lv_args, wsum, isB, va_rf, hnd, cvr, Value.category, oi_of, oi_add, oi_sub, oA_ap, oA_u2, pi_lt, pi_le, pi_eq, pi_eq0, pi_lt0, pi_le0, pi_gt0, pi_ge0, pi_cl, sb_lit, CN, D24, Z24, LS hL, LG hL, LP hL hk, hA, e0, e1, c1, Int.not_lt.mpr h0, Int.not_lt.mp c1]
theorem m_holds (hA : ∀ k j, sb (A k j)) (hL : Lay sh gr) {q : Nat} (hq : q = 9 ∨ q = 11) {c : Nat} (hc : c < 32) : Ev (50, 0, [(0, .ref q), (1, .int (oi c))], [], (sh, oA A, gl, gr), sl) r ↔ r = (.inl (some (.int (oi (if A (q + 1) c = c then 0 else 1)))), (sh, oA A, gl, gr), sl) := by
  rw [EvU_iff (fun _ => false) 40]
  have e0 : sb (c : Int) := sb_n (by omega)
  have e1 : ¬ 32 ≤ c := by omega
  rcases hq with rfl | rfl
  · by_cases c1 : A 10 c = c
    · simp [EvU, sx, stI, enI, caI, s_push, s_iload, s_aload, s_istore, s_astore, s_iinc, s_bin, s_div, s_i2l, s_lcmp, s_dup, s_dup2, s_pop, s_tab, s_look, s_get, s_put, s_iald, s_lald, s_aald, s_iast, s_last, s_aast, s_len, s_newa, s_new, s_thr, s_min, s_copy, s_obj, s_call, s_iret, s_aret, s_vret, go, ldI, lget, lput, lv_args, wsum, isB, va_rf, hnd, cvr, Value.category, oi_of, oi_add, oi_sub, oA_ap, oA_u2, pi_lt, pi_le, pi_eq, pi_eq0, pi_lt0, pi_le0, pi_gt0, pi_ge0, pi_cl, sb_lit, CN, D50, Z50, LS hL, LG hL, hA, e0, e1, c1]
    · simp [EvU, sx, stI, enI, caI, s_push, s_iload, s_aload, s_istore, s_astore, s_iinc, s_bin, s_div, s_i2l, s_lcmp, s_dup, s_dup2, s_pop, s_tab, s_look, s_get, s_put, s_iald, s_lald, s_aald, s_iast, s_last, s_aast, s_len, s_newa, s_new, s_thr, s_min, s_copy, s_obj, s_call, s_iret, s_aret, s_vret, go, ldI, lget, lput, lv_args, wsum, isB, va_rf, hnd, cvr, Value.category, oi_of, oi_add, oi_sub, oA_ap, oA_u2, pi_lt, pi_le, pi_eq, pi_eq0, pi_lt0, pi_le0, pi_gt0, pi_ge0, pi_cl, sb_lit, CN, D50, Z50, LS hL, LG hL, hA, e0, e1, c1]
  · by_cases c1 : A 12 c = c
    · simp [EvU, sx, stI, enI, caI, s_push, s_iload, s_aload, s_istore, s_astore, s_iinc, s_bin, s_div, s_i2l, s_lcmp, s_dup, s_dup2, s_pop, s_tab, s_look, s_get, s_put, s_iald, s_lald, s_aald, s_iast, s_last, s_aast, s_len, s_newa, s_new, s_thr, s_min, s_copy, s_obj, s_call, s_iret, s_aret, s_vret, go, ldI, lget, lput, lv_args, wsum, isB, va_rf, hnd, cvr, Value.category, oi_of, oi_add, oi_sub, oA_ap, oA_u2, pi_lt, pi_le, pi_eq, pi_eq0, pi_lt0, pi_le0, pi_gt0, pi_ge0, pi_cl, sb_lit, CN, D50, Z50, LS hL, LG hL, hA, e0, e1, c1]
    · simp [EvU, sx, stI, enI, caI, s_push, s_iload, s_aload, s_istore, s_astore, s_iinc, s_bin, s_div, s_i2l, s_lcmp, s_dup, s_dup2, s_pop, s_tab, s_look, s_get, s_put, s_iald, s_lald, s_aald, s_iast, s_last, s_aast, s_len, s_newa, s_new, s_thr, s_min, s_copy, s_obj, s_call, s_iret, s_aret, s_vret, go, ldI, lget, lput, lv_args, wsum, isB, va_rf, hnd, cvr, Value.category, oi_of, oi_add, oi_sub, oA_ap, oA_u2, pi_lt, pi_le, pi_eq, pi_eq0, pi_lt0, pi_le0, pi_gt0, pi_ge0, pi_cl, sb_lit, CN, D50, Z50, LS hL, LG hL, hA, e0, e1, c1]
theorem m_join (hA : ∀ k j, sb (A k j)) (hL : Lay sh gr) {w a b : Nat} (hw : w < 8) (ha : a < 32) (hb : b < 32) : Ev (36, 0, [(0, .ref (wO w)), (1, .int (oi a)), (2, .int (oi b))], [], (sh, oA A, gl, gr), sl) r ↔ r = (.inl none, (sh, oA (u2 (u2 A (wL w) a b) (wC w) b a), gl, gr), sl) := by
  rw [EvU_iff (fun _ => false) 40]
  have e0 : sb (a : Int) := sb_n (by omega)
  have e1 : ¬ 32 ≤ a := by omega
  have e2 : sb (b : Int) := sb_n (by omega)
  have e3 : ¬ 32 ≤ b := by omega
  have e4 : wL w ≠ 0 := by unfold wL; omega
  have e5 : wC w ≠ 0 := by unfold wC; omega
  simp [EvU, sx, stI, enI, caI, s_push, s_iload, s_aload, s_istore, s_astore, s_iinc, s_bin, s_div, s_i2l, s_lcmp, s_dup, s_dup2, s_pop, s_tab, s_look, s_get, s_put, s_iald, s_lald, s_aald, s_iast, s_last, s_aast, s_len, s_newa, s_new, s_thr, s_min, s_copy, s_obj, s_call, s_iret, s_aret, s_vret, go, ldI, lget, lput, lv_args, wsum, isB, va_rf, hnd, cvr, Value.category, oi_of, oi_add, oi_sub, oA_ap, oA_u2, pi_lt, pi_le, pi_eq, pi_eq0, pi_lt0, pi_le0, pi_gt0, pi_ge0, pi_cl, sb_lit, CN, D36, Z36, LW hL hw, hA, e0, e1, e2, e3, e4, e5]
theorem m_none_ok (hA : ∀ k j, sb (A k j)) (hL : Lay sh gr) (h0 : A 74 2 = 0) : Ev (29, 0, [(0, .ref 1)], [], (sh, oA A, gl, gr), sl) r ↔ r = (.inl none, (sh, oA A, gl, gr), sl) := by
  rw [EvU_iff (fun _ => false) 40]
  simp [EvU, sx, stI, enI, caI, s_push, s_iload, s_aload, s_istore, s_astore, s_iinc, s_bin, s_div, s_i2l, s_lcmp, s_dup, s_dup2, s_pop, s_tab, s_look, s_get, s_put, s_iald, s_lald, s_aald, s_iast, s_last, s_aast, s_len, s_newa, s_new, s_thr, s_min, s_copy, s_obj, s_call, s_iret, s_aret, s_vret, go, ldI, lget, lput, lv_args, wsum, isB, va_rf, hnd, cvr, Value.category, oi_of, oi_add, oi_sub, oA_ap, oA_u2, pi_lt, pi_le, pi_eq, pi_eq0, pi_lt0, pi_le0, pi_gt0, pi_ge0, pi_cl, sb_lit, CN, D29, Z29, LS hL, LG hL, hA, h0]
theorem m_none_no (hA : ∀ k j, sb (A k j)) (hL : Lay sh gr) (h0 : A 74 2 ≠ 0) (hC : sh.length ≤ mxC) (hS : sl + 6 ≤ mxS) : Ev (29, 0, [(0, .ref 1)], [], (sh, oA A, gl, gr), sl) r ↔ r = thrw 1 (sh, oA A, gl, gr) sl := by
  rw [EvU_iff (fun _ => false) 40]
  unfold thrw
  simp [EvU, sx, stI, enI, caI, s_push, s_iload, s_aload, s_istore, s_astore, s_iinc, s_bin, s_div, s_i2l, s_lcmp, s_dup, s_dup2, s_pop, s_tab, s_look, s_get, s_put, s_iald, s_lald, s_aald, s_iast, s_last, s_aast, s_len, s_newa, s_new, s_thr, s_min, s_copy, s_obj, s_call, s_iret, s_aret, s_vret, go, ldI, lget, lput, lv_args, wsum, isB, va_rf, hnd, cvr, Value.category, oi_of, oi_add, oi_sub, oA_ap, oA_u2, pi_lt, pi_le, pi_eq, pi_eq0, pi_lt0, pi_le0, pi_gt0, pi_ge0, pi_cl, sb_lit, CN, D29, Z29, LS hL, LG hL, hA, h0, Nat.not_lt.mpr hC, Nat.not_lt.mpr hS]
end
