/-! leaf methods of the class, over its cells -/
section
variable {sh : List (Nat × Nat)} {A : Nat → Nat → Int} {gl : Nat → Nat → Int64} {gr : Nat → Nat → Option Nat} {sl : Nat} {r : Out}
/-- is the active pin of pin wheel k up -/
def upB (A : Nat → Nat → Int) (k : Nat) : Int := if A 15 k < A (pO k) 1 ∧ A (pU k) (A 15 k).toNat ≠ 0 then 1 else 0
set_option maxRecDepth 20000 in
theorem m_isUp (hA : ∀ k j, sb (A k j)) (hL : Lay sh gr) {k : Int} (k0 : 0 ≤ k) (hk : k < 12) (h0 : 0 ≤ A 15 k.toNat) (h1 : A (pO k.toNat) 1 ≤ 61) : Ev (24, 0, [(0, .ref 2), (1, .int (oi k))], [], (sh, oA A, gl, gr), sl) r ↔ r = (.inl (some (.int (oi (upB A k.toNat)))), (sh, oA A, gl, gr), sl) := by
  rw [EvU_iff (fun _ => false) 40]
  have e0 : sb k := ⟨by omega, by omega⟩
  have e1 : ¬ 12 ≤ k.toNat := by omega
  have e9 : ¬ k < 0 := by omega
  have hp := LyP hL (show k.toNat < 12 by omega)
  unfold upB
  have e4 : ¬ A 15 k.toNat < 0 := by omega
  by_cases c1 : A 15 k.toNat < A (pO k.toNat) 1
  · have e2 : ¬ 61 ≤ (A 15 k.toNat).toNat := by omega
    have e3 : ¬ A (pO k.toNat) 1 ≤ A 15 k.toNat := by omega
    by_cases c2 : A (pU k.toNat) (A 15 k.toNat).toNat = 0
    · simp [EvS, stI, enI, caI, s_push, s_iload, s_aload, s_istore, s_astore, s_iinc, s_bin, s_div, s_i2l, s_lcmp, s_dup, s_dup2, s_pop, s_tab, s_look, s_get, s_put, s_iald, s_lald, s_aald, s_iast, s_last, s_aast, s_len, s_newa, s_new, s_thr, s_min, s_copy, s_obj, s_call, s_iret, s_aret, s_vret, go, ldI, lget, lput, lv_args, wsum, va_rf, hnd, cvr, cat_i, cat_r, cat_l, oi_of, oi_add, oi_sub, oA_ap, oA_u2, pi_lt, pi_le, pi_eq, pi_eq0, pi_lt0, pi_le0, pi_gt0, pi_ge0, pi_cl, sb_lit, fv4, isB01, nlt0, EvU_0, wO_ne, wL_ne, wC_ne, wN_ne, pO_ne, pU_ne, CN, EvU_at d24_0, EvU_at d24_1, EvU_at d24_4, EvU_at d24_5, EvU_at d24_6, EvU_at d24_7, EvU_at d24_8, EvU_at d24_11, EvU_at d24_14, EvU_at d24_15, EvU_at d24_16, EvU_at d24_17, EvU_at d24_18, EvU_at d24_19, EvU_at d24_22, EvU_at d24_25, EvU_at d24_26, EvU_at d24_29, EvU_at d24_30, EvU_at d24_31, EvU_at d24_34, EvU_at d24_35, EvU_at d24_38, EvU_at d24_39, Z24, LyS hL, LyG hL, hp, hA, e0, e1, e2, e3, e4, e9, c1, c2]
    · simp [EvS, stI, enI, caI, s_push, s_iload, s_aload, s_istore, s_astore, s_iinc, s_bin, s_div, s_i2l, s_lcmp, s_dup, s_dup2, s_pop, s_tab, s_look, s_get, s_put, s_iald, s_lald, s_aald, s_iast, s_last, s_aast, s_len, s_newa, s_new, s_thr, s_min, s_copy, s_obj, s_call, s_iret, s_aret, s_vret, go, ldI, lget, lput, lv_args, wsum, va_rf, hnd, cvr, cat_i, cat_r, cat_l, oi_of, oi_add, oi_sub, oA_ap, oA_u2, pi_lt, pi_le, pi_eq, pi_eq0, pi_lt0, pi_le0, pi_gt0, pi_ge0, pi_cl, sb_lit, fv4, isB01, nlt0, EvU_0, wO_ne, wL_ne, wC_ne, wN_ne, pO_ne, pU_ne, CN, EvU_at d24_0, EvU_at d24_1, EvU_at d24_4, EvU_at d24_5, EvU_at d24_6, EvU_at d24_7, EvU_at d24_8, EvU_at d24_11, EvU_at d24_14, EvU_at d24_15, EvU_at d24_16, EvU_at d24_17, EvU_at d24_18, EvU_at d24_19, EvU_at d24_22, EvU_at d24_25, EvU_at d24_26, EvU_at d24_29, EvU_at d24_30, EvU_at d24_31, EvU_at d24_34, EvU_at d24_35, EvU_at d24_38, EvU_at d24_39, Z24, LyS hL, LyG hL, hp, hA, e0, e1, e2, e3, e4, e9, c1, c2]
  · have e3 : A (pO k.toNat) 1 ≤ A 15 k.toNat := by omega
    simp [EvS, stI, enI, caI, s_push, s_iload, s_aload, s_istore, s_astore, s_iinc, s_bin, s_div, s_i2l, s_lcmp, s_dup, s_dup2, s_pop, s_tab, s_look, s_get, s_put, s_iald, s_lald, s_aald, s_iast, s_last, s_aast, s_len, s_newa, s_new, s_thr, s_min, s_copy, s_obj, s_call, s_iret, s_aret, s_vret, go, ldI, lget, lput, lv_args, wsum, va_rf, hnd, cvr, cat_i, cat_r, cat_l, oi_of, oi_add, oi_sub, oA_ap, oA_u2, pi_lt, pi_le, pi_eq, pi_eq0, pi_lt0, pi_le0, pi_gt0, pi_ge0, pi_cl, sb_lit, fv4, isB01, nlt0, EvU_0, wO_ne, wL_ne, wC_ne, wN_ne, pO_ne, pU_ne, CN, EvU_at d24_0, EvU_at d24_1, EvU_at d24_4, EvU_at d24_5, EvU_at d24_6, EvU_at d24_7, EvU_at d24_8, EvU_at d24_11, EvU_at d24_14, EvU_at d24_15, EvU_at d24_16, EvU_at d24_17, EvU_at d24_18, EvU_at d24_19, EvU_at d24_22, EvU_at d24_25, EvU_at d24_26, EvU_at d24_29, EvU_at d24_30, EvU_at d24_31, EvU_at d24_34, EvU_at d24_35, EvU_at d24_38, EvU_at d24_39, Z24, LyS hL, LyG hL, hp, hA, e0, e1, e3, e4, e9, c1]
set_option maxRecDepth 20000 in
theorem m_holds (hA : ∀ k j, sb (A k j)) (hL : Lay sh gr) {q : Nat} (hq : q = 9 ∨ q = 11) {c : Int} (c0 : 0 ≤ c) (hc : c < 32) : Ev (50, 0, [(0, .ref q), (1, .int (oi c))], [], (sh, oA A, gl, gr), sl) r ↔ r = (.inl (some (.int (oi (if A (q + 1) c.toNat = c then 0 else 1)))), (sh, oA A, gl, gr), sl) := by
  rw [EvU_iff (fun _ => false) 40]
  have e0 : sb c := ⟨by omega, by omega⟩
  have e1 : ¬ 32 ≤ c.toNat := by omega
  have e2 : ¬ c < 0 := by omega
  rcases hq with rfl | rfl
  · by_cases c1 : A 10 c.toNat = c
    · simp [EvS, stI, enI, caI, s_push, s_iload, s_aload, s_istore, s_astore, s_iinc, s_bin, s_div, s_i2l, s_lcmp, s_dup, s_dup2, s_pop, s_tab, s_look, s_get, s_put, s_iald, s_lald, s_aald, s_iast, s_last, s_aast, s_len, s_newa, s_new, s_thr, s_min, s_copy, s_obj, s_call, s_iret, s_aret, s_vret, go, ldI, lget, lput, lv_args, wsum, va_rf, hnd, cvr, cat_i, cat_r, cat_l, oi_of, oi_add, oi_sub, oA_ap, oA_u2, pi_lt, pi_le, pi_eq, pi_eq0, pi_lt0, pi_le0, pi_gt0, pi_ge0, pi_cl, sb_lit, fv4, isB01, nlt0, EvU_0, wO_ne, wL_ne, wC_ne, wN_ne, pO_ne, pU_ne, CN, EvU_at d50_0, EvU_at d50_1, EvU_at d50_4, EvU_at d50_5, EvU_at d50_6, EvU_at d50_7, EvU_at d50_10, EvU_at d50_11, EvU_at d50_14, EvU_at d50_15, Z50, LyS hL, LyG hL, hA, e0, e1, e2, c1]
    · simp [EvS, stI, enI, caI, s_push, s_iload, s_aload, s_istore, s_astore, s_iinc, s_bin, s_div, s_i2l, s_lcmp, s_dup, s_dup2, s_pop, s_tab, s_look, s_get, s_put, s_iald, s_lald, s_aald, s_iast, s_last, s_aast, s_len, s_newa, s_new, s_thr, s_min, s_copy, s_obj, s_call, s_iret, s_aret, s_vret, go, ldI, lget, lput, lv_args, wsum, va_rf, hnd, cvr, cat_i, cat_r, cat_l, oi_of, oi_add, oi_sub, oA_ap, oA_u2, pi_lt, pi_le, pi_eq, pi_eq0, pi_lt0, pi_le0, pi_gt0, pi_ge0, pi_cl, sb_lit, fv4, isB01, nlt0, EvU_0, wO_ne, wL_ne, wC_ne, wN_ne, pO_ne, pU_ne, CN, EvU_at d50_0, EvU_at d50_1, EvU_at d50_4, EvU_at d50_5, EvU_at d50_6, EvU_at d50_7, EvU_at d50_10, EvU_at d50_11, EvU_at d50_14, EvU_at d50_15, Z50, LyS hL, LyG hL, hA, e0, e1, e2, c1]
  · by_cases c1 : A 12 c.toNat = c
    · simp [EvS, stI, enI, caI, s_push, s_iload, s_aload, s_istore, s_astore, s_iinc, s_bin, s_div, s_i2l, s_lcmp, s_dup, s_dup2, s_pop, s_tab, s_look, s_get, s_put, s_iald, s_lald, s_aald, s_iast, s_last, s_aast, s_len, s_newa, s_new, s_thr, s_min, s_copy, s_obj, s_call, s_iret, s_aret, s_vret, go, ldI, lget, lput, lv_args, wsum, va_rf, hnd, cvr, cat_i, cat_r, cat_l, oi_of, oi_add, oi_sub, oA_ap, oA_u2, pi_lt, pi_le, pi_eq, pi_eq0, pi_lt0, pi_le0, pi_gt0, pi_ge0, pi_cl, sb_lit, fv4, isB01, nlt0, EvU_0, wO_ne, wL_ne, wC_ne, wN_ne, pO_ne, pU_ne, CN, EvU_at d50_0, EvU_at d50_1, EvU_at d50_4, EvU_at d50_5, EvU_at d50_6, EvU_at d50_7, EvU_at d50_10, EvU_at d50_11, EvU_at d50_14, EvU_at d50_15, Z50, LyS hL, LyG hL, hA, e0, e1, e2, c1]
    · simp [EvS, stI, enI, caI, s_push, s_iload, s_aload, s_istore, s_astore, s_iinc, s_bin, s_div, s_i2l, s_lcmp, s_dup, s_dup2, s_pop, s_tab, s_look, s_get, s_put, s_iald, s_lald, s_aald, s_iast, s_last, s_aast, s_len, s_newa, s_new, s_thr, s_min, s_copy, s_obj, s_call, s_iret, s_aret, s_vret, go, ldI, lget, lput, lv_args, wsum, va_rf, hnd, cvr, cat_i, cat_r, cat_l, oi_of, oi_add, oi_sub, oA_ap, oA_u2, pi_lt, pi_le, pi_eq, pi_eq0, pi_lt0, pi_le0, pi_gt0, pi_ge0, pi_cl, sb_lit, fv4, isB01, nlt0, EvU_0, wO_ne, wL_ne, wC_ne, wN_ne, pO_ne, pU_ne, CN, EvU_at d50_0, EvU_at d50_1, EvU_at d50_4, EvU_at d50_5, EvU_at d50_6, EvU_at d50_7, EvU_at d50_10, EvU_at d50_11, EvU_at d50_14, EvU_at d50_15, Z50, LyS hL, LyG hL, hA, e0, e1, e2, c1]
set_option maxRecDepth 20000 in
theorem m_wjoin (hA : ∀ k j, sb (A k j)) (hL : Lay sh gr) {w : Nat} {a b : Int} (hw : w < 8) (a0 : 0 ≤ a) (ha : a < 32) (b0 : 0 ≤ b) (hb : b < 32) : Ev (36, 0, [(0, .ref (wO w)), (1, .int (oi a)), (2, .int (oi b))], [], (sh, oA A, gl, gr), sl) r ↔ r = (.inl none, (sh, oA (u2 (u2 A (wL w) a.toNat b) (wC w) b.toNat a), gl, gr), sl) := by
  rw [EvU_iff (fun _ => false) 40]
  have e0 : sb a := ⟨by omega, by omega⟩
  have e1 : ¬ 32 ≤ a.toNat := by omega
  have e2 : sb b := ⟨by omega, by omega⟩
  have e3 : ¬ 32 ≤ b.toNat := by omega
  have e4 : ¬ a < 0 := by omega
  have e5 : ¬ b < 0 := by omega
  simp [EvS, stI, enI, caI, s_push, s_iload, s_aload, s_istore, s_astore, s_iinc, s_bin, s_div, s_i2l, s_lcmp, s_dup, s_dup2, s_pop, s_tab, s_look, s_get, s_put, s_iald, s_lald, s_aald, s_iast, s_last, s_aast, s_len, s_newa, s_new, s_thr, s_min, s_copy, s_obj, s_call, s_iret, s_aret, s_vret, go, ldI, lget, lput, lv_args, wsum, va_rf, hnd, cvr, cat_i, cat_r, cat_l, oi_of, oi_add, oi_sub, oA_ap, oA_u2, pi_lt, pi_le, pi_eq, pi_eq0, pi_lt0, pi_le0, pi_gt0, pi_ge0, pi_cl, sb_lit, fv4, isB01, nlt0, EvU_0, wO_ne, wL_ne, wC_ne, wN_ne, pO_ne, pU_ne, CN, EvU_at d36_0, EvU_at d36_1, EvU_at d36_4, EvU_at d36_5, EvU_at d36_6, EvU_at d36_7, EvU_at d36_8, EvU_at d36_11, EvU_at d36_12, EvU_at d36_13, EvU_at d36_14, Z36, LyW hL hw, hA, e0, e1, e2, e3, e4, e5]
set_option maxRecDepth 20000 in
theorem m_none_ok (hA : ∀ k j, sb (A k j)) (hL : Lay sh gr) (h0 : A 74 2 = 0) : Ev (29, 0, [(0, .ref 1)], [], (sh, oA A, gl, gr), sl) r ↔ r = (.inl none, (sh, oA A, gl, gr), sl) := by
  rw [EvU_iff (fun _ => false) 40]
  simp [EvS, stI, enI, caI, s_push, s_iload, s_aload, s_istore, s_astore, s_iinc, s_bin, s_div, s_i2l, s_lcmp, s_dup, s_dup2, s_pop, s_tab, s_look, s_get, s_put, s_iald, s_lald, s_aald, s_iast, s_last, s_aast, s_len, s_newa, s_new, s_thr, s_min, s_copy, s_obj, s_call, s_iret, s_aret, s_vret, go, ldI, lget, lput, lv_args, wsum, va_rf, hnd, cvr, cat_i, cat_r, cat_l, oi_of, oi_add, oi_sub, oA_ap, oA_u2, pi_lt, pi_le, pi_eq, pi_eq0, pi_lt0, pi_le0, pi_gt0, pi_ge0, pi_cl, sb_lit, fv4, isB01, nlt0, EvU_0, wO_ne, wL_ne, wC_ne, wN_ne, pO_ne, pU_ne, CN, EvU_at d29_0, EvU_at d29_1, EvU_at d29_4, EvU_at d29_7, EvU_at d29_10, EvU_at d29_13, EvU_at d29_14, EvU_at d29_17, EvU_at d29_20, EvU_at d29_21, Z29, LyS hL, LyG hL, hA, h0]
set_option maxRecDepth 20000 in
theorem m_none_no (hA : ∀ k j, sb (A k j)) (hL : Lay sh gr) (h0 : A 74 2 ≠ 0) (hC : sh.length ≤ mxC) (hS : sl + 6 ≤ mxS) : Ev (29, 0, [(0, .ref 1)], [], (sh, oA A, gl, gr), sl) r ↔ r = thrw 1 (sh, oA A, gl, gr) sl := by
  rw [EvU_iff (fun _ => false) 40]
  unfold thrw
  simp [EvS, stI, enI, caI, s_push, s_iload, s_aload, s_istore, s_astore, s_iinc, s_bin, s_div, s_i2l, s_lcmp, s_dup, s_dup2, s_pop, s_tab, s_look, s_get, s_put, s_iald, s_lald, s_aald, s_iast, s_last, s_aast, s_len, s_newa, s_new, s_thr, s_min, s_copy, s_obj, s_call, s_iret, s_aret, s_vret, go, ldI, lget, lput, lv_args, wsum, va_rf, hnd, cvr, cat_i, cat_r, cat_l, oi_of, oi_add, oi_sub, oA_ap, oA_u2, pi_lt, pi_le, pi_eq, pi_eq0, pi_lt0, pi_le0, pi_gt0, pi_ge0, pi_cl, sb_lit, fv4, isB01, nlt0, EvU_0, wO_ne, wL_ne, wC_ne, wN_ne, pO_ne, pU_ne, CN, EvU_at d29_0, EvU_at d29_1, EvU_at d29_4, EvU_at d29_7, EvU_at d29_10, EvU_at d29_13, EvU_at d29_14, EvU_at d29_17, EvU_at d29_20, EvU_at d29_21, Z29, LyS hL, LyG hL, hA, h0, Nat.not_lt.mpr hC, Nat.not_lt.mpr hS]
/-- c on its way through wheel w's wiring in cell q, at position p -/
def passA (A : Nat → Nat → Int) (w q : Nat) (c p m : Int) : Int := rd (A q (rd (c + (p - A (wO w) 3)) m).toNat - (p - A (wO w) 3)) m
theorem passA_in {w q : Nat} {c p m : Int} (hm : m ≤ 32) (c0 : 0 ≤ c) (hc : c < m) (p0 : 0 ≤ p) (hp : p < m) (h0 : 0 ≤ A (wO w) 3) (h1 : A (wO w) 3 < m) (h2 : ∀ j : Nat, (j : Int) < m → 0 ≤ A q j ∧ A q j < m) : 0 ≤ passA A w q c p m ∧ passA A w q c p m < m := by
  have e4 := rd_in (a := c + (p - A (wO w) 3)) (m := m) (by omega) (by omega)
  have e5 := h2 (rd (c + (p - A (wO w) 3)) m).toNat (by omega)
  exact rd_in (by omega) (by omega)
set_option maxRecDepth 20000 in
theorem m_pass (hA : ∀ k j, sb (A k j)) (hL : Lay sh gr) {w q : Nat} {c p m : Int} (hw : w < 8) (hq : q = wL w ∨ q = wC w) (hm : m ≤ 32) (c0 : 0 ≤ c) (hc : c < m) (p0 : 0 ≤ p) (hp : p < m) (h0 : 0 ≤ A (wO w) 3) (h1 : A (wO w) 3 < m) (h2 : ∀ j : Nat, (j : Int) < m → 0 ≤ A q j ∧ A q j < m) : Ev (20, 0, [(0, .ref (wO w)), (1, .ref q), (2, .int (oi c)), (3, .int (oi p)), (4, .int (oi m))], [], (sh, oA A, gl, gr), sl) r ↔
    r = (.inl (some (.int (oi (passA A w q c p m)))), (sh, oA A, gl, gr), sl) := by
  rw [EvU_iff (fun _ => false) 40]
  have e0 : sb c := ⟨by omega, by omega⟩
  have e1 : sb p := ⟨by omega, by omega⟩
  have e2 : sb m := ⟨by omega, by omega⟩
  have e3 : sm (c + (p - A (wO w) 3)) := ⟨by omega, by omega⟩
  have e4 := rd_in (a := c + (p - A (wO w) 3)) (m := m) (by omega) (by omega)
  have e5 := h2 (rd (c + (p - A (wO w) 3)) m).toNat (by omega)
  have e6 : sb (rd (c + (p - A (wO w) 3)) m) := ⟨by omega, by omega⟩
  have e7 : ¬ rd (c + (p - A (wO w) 3)) m < 0 := by omega
  have e8 : ¬ 32 ≤ (rd (c + (p - A (wO w) 3)) m).toNat := by omega
  have e9 : sm (A q (rd (c + (p - A (wO w) 3)) m).toNat - (p - A (wO w) 3)) := ⟨by omega, by omega⟩
  have e2' : sm m := e2
  unfold passA
  rcases hq with rfl | rfl
  · simp [EvS, stI, enI, caI, s_push, s_iload, s_aload, s_istore, s_astore, s_iinc, s_bin, s_div, s_i2l, s_lcmp, s_dup, s_dup2, s_pop, s_tab, s_look, s_get, s_put, s_iald, s_lald, s_aald, s_iast, s_last, s_aast, s_len, s_newa, s_new, s_thr, s_min, s_copy, s_obj, s_call, s_iret, s_aret, s_vret, go, ldI, lget, lput, lv_args, wsum, va_rf, hnd, cvr, cat_i, cat_r, cat_l, oi_of, oi_add, oi_sub, oA_ap, oA_u2, pi_lt, pi_le, pi_eq, pi_eq0, pi_lt0, pi_le0, pi_gt0, pi_ge0, pi_cl, sb_lit, fv4, isB01, nlt0, EvU_0, wO_ne, wL_ne, wC_ne, wN_ne, pO_ne, pU_ne, CN, EvU_at d20_0, EvU_at d20_1, EvU_at d20_2, EvU_at d20_5, EvU_at d20_6, EvU_at d20_8, EvU_at d20_9, EvU_at d20_10, EvU_at d20_12, EvU_at d20_13, EvU_at d20_15, EvU_at d20_18, EvU_at d20_19, EvU_at d20_21, EvU_at d20_22, EvU_at d20_24, EvU_at d20_27, Z20, Z21, LyW hL hw, hA, e0, e1, e2, e6, e7, e8, m_round e3 e2', m_round e9 e2']
  · simp [EvS, stI, enI, caI, s_push, s_iload, s_aload, s_istore, s_astore, s_iinc, s_bin, s_div, s_i2l, s_lcmp, s_dup, s_dup2, s_pop, s_tab, s_look, s_get, s_put, s_iald, s_lald, s_aald, s_iast, s_last, s_aast, s_len, s_newa, s_new, s_thr, s_min, s_copy, s_obj, s_call, s_iret, s_aret, s_vret, go, ldI, lget, lput, lv_args, wsum, va_rf, hnd, cvr, cat_i, cat_r, cat_l, oi_of, oi_add, oi_sub, oA_ap, oA_u2, pi_lt, pi_le, pi_eq, pi_eq0, pi_lt0, pi_le0, pi_gt0, pi_ge0, pi_cl, sb_lit, fv4, isB01, nlt0, EvU_0, wO_ne, wL_ne, wC_ne, wN_ne, pO_ne, pU_ne, CN, EvU_at d20_0, EvU_at d20_1, EvU_at d20_2, EvU_at d20_5, EvU_at d20_6, EvU_at d20_8, EvU_at d20_9, EvU_at d20_10, EvU_at d20_12, EvU_at d20_13, EvU_at d20_15, EvU_at d20_18, EvU_at d20_19, EvU_at d20_21, EvU_at d20_22, EvU_at d20_24, EvU_at d20_27, Z20, Z21, LyW hL hw, hA, e0, e1, e2, e6, e7, e8, m_round e3 e2', m_round e9 e2']
end
