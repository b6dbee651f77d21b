/-! the reference: a sign's way -/
section
variable {sh : List (Nat × Nat)} {A B : Nat → Nat → Int} {gl : Nat → Nat → Int64} {gr : Nat → Nat → Option Nat} {sl : Nat} {r : Out}
set_option maxRecDepth 20000 in
theorem r_through (hA : ∀ k j, sb (A k j)) (hL : Lay sh gr) (h : RW A B) {s : Nat} (hs : s < 6) (hw : B 4 s ≠ -1) {c : Int} (c0 : 0 ≤ c) (c1 : c < B 2 9) : Ev (146, 0, [(0, .ref 199), (1, .int (oi (s : Int))), (2, .int (oi c))], [], (sh, oA A, gl, gr), sl) r ↔ r = (.inl (some (.int (oi (passA B (B 4 s).toNat (wL (B 4 s).toNat) c (B 14 s) (B 2 9))))), (sh, oA A, gl, gr), sl) := by
  have s1 := h.M.slot s hs
  have s2 := h.C.pos s hs
  have s3 := h.M.m
  have x0 := h.R.m
  have x1 := h.R.slot s hs
  have x2 := h.P.pos s hs
  have hw8 : (B 4 s).toNat < 8 := by omega
  have x3 := h.R.ring _ hw8
  have s4 := h.M.ring _ hw8
  have q0 : sb (s : Int) := ⟨by omega, by omega⟩
  have q1 : ¬ 6 ≤ s := by omega
  have q2 : ¬ 18 ≤ s := by omega
  have q3 : ¬ B 4 s < 0 := by omega
  have q4 : ¬ 8 ≤ (B 4 s).toNat := by omega
  have q5 : sb (B 4 s) := ⟨by omega, by omega⟩
  have q6 : sb (B 2 9) := ⟨by omega, by omega⟩
  have q7 : ¬ B 2 9 = 0 := by omega
  unfold passA
  have e1 := rem_oi (a := c + (B 14 s - B (wO (B 4 s).toNat) 3 + B 2 9)) (b := B 2 9) (by omega) (by omega) ⟨by omega, by omega⟩ q6
  rw [show c + (B 14 s - B (wO (B 4 s).toNat) 3 + B 2 9) = c + (B 14 s - B (wO (B 4 s).toNat) 3) + B 2 9 by omega, rd_mod (by omega) (by omega) (by omega)] at e1
  have e2 := rd_in (a := c + (B 14 s - B (wO (B 4 s).toNat) 3)) (m := B 2 9) (by omega) (by omega)
  have e3 : A 200 (32 * B 4 s + rd (c + (B 14 s - B (wO (B 4 s).toNat) 3)) (B 2 9)).toNat = B (wL (B 4 s).toNat) (rd (c + (B 14 s - B (wO (B 4 s).toNat) 3)) (B 2 9)).toNat := by
    rw [← h.R.wir _ hw8 _ (by omega)]
    congr 1
    omega
  have e4 := h.M.wi _ hw8 (rd (c + (B 14 s - B (wO (B 4 s).toNat) 3)) (B 2 9)).toNat (by omega)
  have e5 : sb (32 * B 4 s + rd (c + (B 14 s - B (wO (B 4 s).toNat) 3)) (B 2 9)) := ⟨by omega, by omega⟩
  have e6 : ¬ 32 * B 4 s + rd (c + (B 14 s - B (wO (B 4 s).toNat) 3)) (B 2 9) < 0 := by omega
  have e7 : ¬ 256 ≤ (32 * B 4 s + rd (c + (B 14 s - B (wO (B 4 s).toNat) 3)) (B 2 9)).toNat := by omega
  generalize hx : rd (c + (B 14 s - B (wO (B 4 s).toNat) 3)) (B 2 9) = x at *
  generalize hy : B (wL (B 4 s).toNat) x.toNat = y at *
  have e8 := rem_oi (a := y - (B 14 s - B (wO (B 4 s).toNat) 3 + B 2 9) + 2 * B 2 9) (b := B 2 9) (by omega) (by omega) ⟨by omega, by omega⟩ q6
  have e9 : (y - (B 14 s - B (wO (B 4 s).toNat) 3 + B 2 9) + 2 * B 2 9) % B 2 9 = rd (y - (B 14 s - B (wO (B 4 s).toNat) 3)) (B 2 9) := by
    rw [show y - (B 14 s - B (wO (B 4 s).toNat) 3 + B 2 9) + 2 * B 2 9 = y - (B 14 s - B (wO (B 4 s).toNat) 3) + B 2 9 by omega]
    exact rd_mod (by omega) (by omega) (by omega)
  rw [e9] at e8
  rw [show c + (B 14 s - B (wO (B 4 s).toNat) 3) + B 2 9 = c + (B 14 s - B (wO (B 4 s).toNat) 3 + B 2 9) by omega] at e1
  rw [EvU_iff (fun _ => false) 60]
  simp [EvS, stI, enI, caI, s_push, s_iload, s_aload, s_istore, s_astore, s_iinc, s_bin, s_div, s_i2l, s_lcmp, s_dup, s_dup2, s_pop, s_tab, s_look, s_get, s_put, s_iald, s_lald, s_aald, s_iast, s_last, s_aast, s_len, s_newa, s_new, s_thr, s_min, s_copy, s_obj, s_call, s_iret, s_aret, s_vret, go, ldI, lget, lput, lv_args, wsum, va_rf, hnd, cvr, cat_i, cat_r, cat_l, oi_of, oi_add, oi_sub, oA_ap, oA_u2, pi_lt, pi_le, pi_eq, pi_eq0, pi_lt0, pi_le0, pi_gt0, pi_ge0, pi_cl, sb_lit, fv4, isB01, nlt0, EvU_0, wO_ne, wL_ne, wC_ne, wN_ne, pO_ne, pU_ne, CN, LN, -Prod.exists, pi_ti, Op.lookupswitch.offset, EvU_at d146_0, EvU_at d146_1, EvU_at d146_4, EvU_at d146_5, EvU_at d146_6, EvU_at d146_7, EvU_at d146_10, EvU_at d146_11, EvU_at d146_14, EvU_at d146_15, EvU_at d146_16, EvU_at d146_17, EvU_at d146_18, EvU_at d146_19, EvU_at d146_22, EvU_at d146_23, EvU_at d146_24, EvU_at d146_25, EvU_at d146_28, EvU_at d146_30, EvU_at d146_31, EvU_at d146_34, EvU_at d146_35, EvU_at d146_36, EvU_at d146_37, EvU_at d146_38, EvU_at d146_39, EvU_at d146_40, EvU_at d146_41, EvU_at d146_44, EvU_at d146_45, EvU_at d146_46, EvU_at d146_47, EvU_at d146_48, EvU_at d146_49, EvU_at d146_50, EvU_at d146_51, EvU_at d146_54, EvU_at d146_55, EvU_at d146_56, EvU_at d146_57, EvU_at d146_60, EvU_at d146_61, Z146, LyS hL, LyG hL, hA, oi_mul, x0, x1, x2, x3, q0, q1, q2, q3, q4, q5, q6, q7, e1, e3, e5, e6, e7, e8]
set_option maxRecDepth 20000 in
theorem l_bt (hA : ∀ k j, sb (A k j)) (hL : Lay sh gr) (h : RW A B) {s : Nat} (hs : s < 6) (hw : B 4 s ≠ -1) {c : Int} (c0 : 0 ≤ c) (c1 : c < B 2 9) : ∀ (n f : Nat) (ls : Lc), (f : Int) + n = passA B (B 4 s).toNat (wC (B 4 s).toNat) c (B 14 s) (B 2 9) → nl ls = true → lget ls 0 = some (.ref 199) → lget ls 1 = some (.int (oi (s : Int))) → lget ls 2 = some (.int (oi c)) → lget ls 3 = some (.int (oi (f : Int))) →
    (Ev (147, 2, ls, [], (sh, oA A, gl, gr), sl) r ↔ r = (.inl (some (.int (oi (passA B (B 4 s).toNat (wC (B 4 s).toNat) c (B 14 s) (B 2 9))))), (sh, oA A, gl, gr), sl)) := by
  have s1 := h.M.slot s hs
  have s2 := h.C.pos s hs
  have s3 := h.M.m
  have hw8 : (B 4 s).toNat < 8 := by omega
  have i1 := passC_in h.M hw8 c0 c1 s2.1 s2.2
  have f0 : sb c := ⟨by omega, by omega⟩
  intro n
  induction n with
  | zero =>
    intro f ls hn g g0 g1 g2 g3
    have hf : (f : Int) = passA B (B 4 s).toNat (wC (B 4 s).toNat) c (B 14 s) (B 2 9) := by omega
    have t := fun (sl : Nat) (r : Out) => r_through (gl := gl) (sl := sl) (r := r) hA hL h hs hw (c := (f : Int)) (by omega) (by omega)
    have e1 : passA B (B 4 s).toNat (wL (B 4 s).toNat) (f : Int) (B 14 s) (B 2 9) = c := by
      rw [hf]
      exact pass_inv' h.M hw8 c0 c1 s2.1 s2.2
    rw [e1] at t
    rw [EvU_iff (fun _ => false) 20, ← hf]
    simp (maxDischargeDepth := 9) [EvS, stI, enI, caI, s_push, s_iload, s_aload, s_istore, s_astore, s_iinc, s_bin, s_div, s_i2l, s_lcmp, s_dup, s_dup2, s_pop, s_tab, s_look, s_get, s_put, s_iald, s_lald, s_aald, s_iast, s_last, s_aast, s_len, s_newa, s_new, s_thr, s_min, s_copy, s_obj, s_call, s_iret, s_aret, s_vret, go, ldI, lget_lput, nl_I, nl_R, lv_args, wsum, va_rf, hnd, cvr, cat_i, cat_r, cat_l, oi_of, oi_add, oi_sub, oA_ap, oA_u2, pi_lt, pi_le, pi_eq, pi_eq0, pi_lt0, pi_le0, pi_gt0, pi_ge0, pi_cl, sb_lit, fv4, isB01, nlt0, EvU_0, wO_ne, wL_ne, wC_ne, wN_ne, pO_ne, pU_ne, CN, LN, -Prod.exists, pi_ti, Op.lookupswitch.offset, EvU_at d147_0, EvU_at d147_1, EvU_at d147_2, EvU_at d147_3, EvU_at d147_4, EvU_at d147_5, EvU_at d147_8, EvU_at d147_9, EvU_at d147_12, EvU_at d147_15, EvU_at d147_18, EvU_at d147_19, Z147, Z146, LyS hL, LyG hL, hA, g, g0, g1, g2, g3, t, f0]
  | succ n ih =>
    intro f ls hn g g0 g1 g2 g3
    have t := fun (sl : Nat) (r : Out) => r_through (gl := gl) (sl := sl) (r := r) hA hL h hs hw (c := (f : Int)) (by omega) (by omega)
    have e1 : passA B (B 4 s).toNat (wL (B 4 s).toNat) (f : Int) (B 14 s) (B 2 9) ≠ c := by
      intro e
      have := pass_inv h.M hw8 (c := (f : Int)) (by omega) (by omega) s2.1 s2.2
      rw [e] at this
      omega
    have e2 := passL_in h.M hw8 (c := (f : Int)) (by omega) (by omega) s2.1 s2.2
    have e3 : sb (passA B (B 4 s).toNat (wL (B 4 s).toNat) (f : Int) (B 14 s) (B 2 9)) := ⟨by omega, by omega⟩
    rw [EvU_iff (fun _ => false) 1]
    simp (maxDischargeDepth := 9) [EvS, stI, enI, caI, s_push, s_iload, s_aload, s_istore, s_astore, s_iinc, s_bin, s_div, s_i2l, s_lcmp, s_dup, s_dup2, s_pop, s_tab, s_look, s_get, s_put, s_iald, s_lald, s_aald, s_iast, s_last, s_aast, s_len, s_newa, s_new, s_thr, s_min, s_copy, s_obj, s_call, s_iret, s_aret, s_vret, go, ldI, lget_lput, nl_I, nl_R, lv_args, wsum, va_rf, hnd, cvr, cat_i, cat_r, cat_l, oi_of, oi_add, oi_sub, oA_ap, oA_u2, pi_lt, pi_le, pi_eq, pi_eq0, pi_lt0, pi_le0, pi_gt0, pi_ge0, pi_cl, sb_lit, fv4, isB01, nlt0, EvU_0, wO_ne, wL_ne, wC_ne, wN_ne, pO_ne, pU_ne, CN, LN, -Prod.exists, pi_ti, Op.lookupswitch.offset, EvU_at d147_0, EvU_at d147_1, EvU_at d147_2, EvU_at d147_3, EvU_at d147_4, EvU_at d147_5, EvU_at d147_8, EvU_at d147_9, EvU_at d147_12, EvU_at d147_15, EvU_at d147_18, EvU_at d147_19, Z147, LyS hL, LyG hL, hA, g, g0, g1, g2, g3]
    rw [EvU_iff (fun p => p == 2) 60]
    simp (maxDischargeDepth := 9) [EvS, stI, enI, caI, s_push, s_iload, s_aload, s_istore, s_astore, s_iinc, s_bin, s_div, s_i2l, s_lcmp, s_dup, s_dup2, s_pop, s_tab, s_look, s_get, s_put, s_iald, s_lald, s_aald, s_iast, s_last, s_aast, s_len, s_newa, s_new, s_thr, s_min, s_copy, s_obj, s_call, s_iret, s_aret, s_vret, go, ldI, lget_lput, nl_I, nl_R, lv_args, wsum, va_rf, hnd, cvr, cat_i, cat_r, cat_l, oi_of, oi_add, oi_sub, oA_ap, oA_u2, pi_lt, pi_le, pi_eq, pi_eq0, pi_lt0, pi_le0, pi_gt0, pi_ge0, pi_cl, sb_lit, fv4, isB01, nlt0, EvU_0, wO_ne, wL_ne, wC_ne, wN_ne, pO_ne, pU_ne, CN, LN, -Prod.exists, pi_ti, Op.lookupswitch.offset, EvU_at d147_0, EvU_at d147_1, EvU_at d147_2, EvU_at d147_3, EvU_at d147_4, EvU_at d147_5, EvU_at d147_8, EvU_at d147_9, EvU_at d147_12, EvU_at d147_15, EvU_at d147_18, EvU_at d147_19, Z147, Z146, LyS hL, LyG hL, hA, g, g0, g1, g2, g3, t, f0, e1, e3]
    refine ih (f + 1) _ ?_ ?_ ?_ ?_ ?_ ?_
    · omega
    · simp (maxDischargeDepth := 9) [lget_lput, nl_I, nl_R, g]
    · simp (maxDischargeDepth := 9) [lget_lput, nl_I, nl_R, g, g0]
    · simp (maxDischargeDepth := 9) [lget_lput, nl_I, nl_R, g, g1]
    · simp (maxDischargeDepth := 9) [lget_lput, nl_I, nl_R, g, g2]
    · simp (maxDischargeDepth := 9) [lget_lput, nl_I, nl_R, g]
set_option maxRecDepth 20000 in
theorem r_bt (hA : ∀ k j, sb (A k j)) (hL : Lay sh gr) (h : RW A B) {s : Nat} (hs : s < 6) (hw : B 4 s ≠ -1) {c : Int} (c0 : 0 ≤ c) (c1 : c < B 2 9) : Ev (147, 0, [(0, .ref 199), (1, .int (oi (s : Int))), (2, .int (oi c))], [], (sh, oA A, gl, gr), sl) r ↔ r = (.inl (some (.int (oi (passA B (B 4 s).toNat (wC (B 4 s).toNat) c (B 14 s) (B 2 9))))), (sh, oA A, gl, gr), sl) := by
  have s1 := h.M.slot s hs
  have s2 := h.C.pos s hs
  have i1 := passC_in h.M (w := (B 4 s).toNat) (by omega) c0 c1 s2.1 s2.2
  rw [EvU_iff (fun p => p == 2) 20]
  simp [EvS, stI, enI, caI, s_push, s_iload, s_aload, s_istore, s_astore, s_iinc, s_bin, s_div, s_i2l, s_lcmp, s_dup, s_dup2, s_pop, s_tab, s_look, s_get, s_put, s_iald, s_lald, s_aald, s_iast, s_last, s_aast, s_len, s_newa, s_new, s_thr, s_min, s_copy, s_obj, s_call, s_iret, s_aret, s_vret, go, ldI, lget, lput, lv_args, wsum, va_rf, hnd, cvr, cat_i, cat_r, cat_l, oi_of, oi_add, oi_sub, oA_ap, oA_u2, pi_lt, pi_le, pi_eq, pi_eq0, pi_lt0, pi_le0, pi_gt0, pi_ge0, pi_cl, sb_lit, fv4, isB01, nlt0, EvU_0, wO_ne, wL_ne, wC_ne, wN_ne, pO_ne, pU_ne, CN, LN, -Prod.exists, pi_ti, Op.lookupswitch.offset, EvU_at d147_0, EvU_at d147_1, EvU_at d147_2, EvU_at d147_3, EvU_at d147_4, EvU_at d147_5, EvU_at d147_8, EvU_at d147_9, EvU_at d147_12, EvU_at d147_15, EvU_at d147_18, EvU_at d147_19, Z147]
  refine l_bt hA hL h hs hw c0 c1 (passA B (B 4 s).toNat (wC (B 4 s).toNat) c (B 14 s) (B 2 9)).toNat 0 _ ?_ ?_ ?_ ?_ ?_ ?_
  · omega
  · simp [nl, cat_i, cat_r]
  · simp [lget, cat_i, cat_r]
  · simp [lget, cat_i, cat_r]
  · simp [lget, cat_i, cat_r]
  · simp [lget, cat_i, cat_r]
/-- slot by slot -/
def slI (B : Nat → Nat → Int) : Nat → Nat → Int → Int
  | 0, _, c => c
  | n + 1, s, c => slI B n (s + 1) (if B 4 s = -1 then c else passA B (B 4 s).toNat (wL (B 4 s).toNat) c (B 14 s) (B 2 9))
def slO (B : Nat → Nat → Int) : Nat → Int → Int
  | 0, c => c
  | n + 1, c => slO B n (if B 4 n = -1 then c else passA B (B 4 n).toNat (wC (B 4 n).toNat) c (B 14 n) (B 2 9))
theorem slI_in (h : RW A B) : ∀ (n s : Nat) (c : Int), s + n = 6 → 0 ≤ c → c < B 2 9 → 0 ≤ slI B n s c ∧ slI B n s c < B 2 9 := by
  intro n
  induction n with
  | zero => exact fun s c _ c0 c1 => ⟨c0, c1⟩
  | succ n ih =>
    intro s c hn c0 c1
    rw [slI]
    split
    · exact ih _ _ (by omega) c0 c1
    · have s1 := h.M.slot s (by omega)
      have s2 := h.C.pos s (by omega)
      have e := passL_in h.M (w := (B 4 s).toNat) (by omega) c0 c1 s2.1 s2.2
      exact ih _ _ (by omega) e.1 e.2
set_option maxRecDepth 20000 in
theorem l_sO (hA : ∀ k j, sb (A k j)) (hL : Lay sh gr) (h : RW A B) : ∀ (n : Nat) (c : Int) (ls : Lc), n ≤ 6 → 0 ≤ c → c < B 2 9 → nl ls = true → lget ls 0 = some (.ref 199) → lget ls 2 = some (.int (oi c)) → lget ls 3 = some (.int (oi ((n : Int) - 1))) →
    (Ev (145, 58, ls, [], (sh, oA A, gl, gr), sl) r ↔ r = (.inl (some (.int (oi (slO B n c)))), (sh, oA A, gl, gr), sl)) := by
  intro n
  induction n with
  | zero =>
    intro c ls hn c0 c1 g g0 g2 g3
    have e0 : sb (-1) := ⟨by omega, by omega⟩
    rw [EvU_iff (fun _ => false) 10]
    simp (maxDischargeDepth := 9) [EvS, stI, enI, caI, s_push, s_iload, s_aload, s_istore, s_astore, s_iinc, s_bin, s_div, s_i2l, s_lcmp, s_dup, s_dup2, s_pop, s_tab, s_look, s_get, s_put, s_iald, s_lald, s_aald, s_iast, s_last, s_aast, s_len, s_newa, s_new, s_thr, s_min, s_copy, s_obj, s_call, s_iret, s_aret, s_vret, go, ldI, lget_lput, nl_I, nl_R, lv_args, wsum, va_rf, hnd, cvr, cat_i, cat_r, cat_l, oi_of, oi_add, oi_sub, oA_ap, oA_u2, pi_lt, pi_le, pi_eq, pi_eq0, pi_lt0, pi_le0, pi_gt0, pi_ge0, pi_cl, sb_lit, fv4, isB01, nlt0, EvU_0, wO_ne, wL_ne, wC_ne, wN_ne, pO_ne, pU_ne, CN, LN, -Prod.exists, pi_ti, Op.lookupswitch.offset, EvU_at d145_0, EvU_at d145_1, EvU_at d145_2, EvU_at d145_3, EvU_at d145_4, EvU_at d145_5, EvU_at d145_7, EvU_at d145_10, EvU_at d145_11, EvU_at d145_14, EvU_at d145_15, EvU_at d145_16, EvU_at d145_17, EvU_at d145_20, EvU_at d145_21, EvU_at d145_24, EvU_at d145_25, EvU_at d145_26, EvU_at d145_27, EvU_at d145_30, EvU_at d145_31, EvU_at d145_34, EvU_at d145_37, EvU_at d145_38, EvU_at d145_41, EvU_at d145_44, EvU_at d145_45, EvU_at d145_46, EvU_at d145_47, EvU_at d145_50, EvU_at d145_52, EvU_at d145_53, EvU_at d145_54, EvU_at d145_55, EvU_at d145_56, EvU_at d145_57, EvU_at d145_58, EvU_at d145_59, EvU_at d145_62, EvU_at d145_63, EvU_at d145_66, EvU_at d145_67, EvU_at d145_68, EvU_at d145_69, EvU_at d145_72, EvU_at d145_73, EvU_at d145_76, EvU_at d145_77, EvU_at d145_78, EvU_at d145_79, EvU_at d145_82, EvU_at d145_83, EvU_at d145_86, EvU_at d145_89, EvU_at d145_90, Z145, LyS hL, LyG hL, hA, g, g0, g2, g3, e0, slO]
  | succ n ih =>
    intro c ls hn c0 c1 g g0 g2 g3
    have hs : n < 6 := by omega
    have g3' : lget ls 3 = some (.int (oi (n : Int))) := by
      rw [g3]
      congr 3
      omega
    have x1 := h.R.slot n hs
    have s1 := h.M.slot n hs
    have s2 := h.C.pos n hs
    have q0 : sb (n : Int) := ⟨by omega, by omega⟩
    have q1 : ¬ 6 ≤ n := by omega
    have q2 : sb (B 4 n) := ⟨by omega, by omega⟩
    rw [EvU_iff (fun _ => false) 1]
    simp (maxDischargeDepth := 9) [EvS, stI, enI, caI, s_push, s_iload, s_aload, s_istore, s_astore, s_iinc, s_bin, s_div, s_i2l, s_lcmp, s_dup, s_dup2, s_pop, s_tab, s_look, s_get, s_put, s_iald, s_lald, s_aald, s_iast, s_last, s_aast, s_len, s_newa, s_new, s_thr, s_min, s_copy, s_obj, s_call, s_iret, s_aret, s_vret, go, ldI, lget_lput, nl_I, nl_R, lv_args, wsum, va_rf, hnd, cvr, cat_i, cat_r, cat_l, oi_of, oi_add, oi_sub, oA_ap, oA_u2, pi_lt, pi_le, pi_eq, pi_eq0, pi_lt0, pi_le0, pi_gt0, pi_ge0, pi_cl, sb_lit, fv4, isB01, nlt0, EvU_0, wO_ne, wL_ne, wC_ne, wN_ne, pO_ne, pU_ne, CN, LN, -Prod.exists, pi_ti, Op.lookupswitch.offset, EvU_at d145_0, EvU_at d145_1, EvU_at d145_2, EvU_at d145_3, EvU_at d145_4, EvU_at d145_5, EvU_at d145_7, EvU_at d145_10, EvU_at d145_11, EvU_at d145_14, EvU_at d145_15, EvU_at d145_16, EvU_at d145_17, EvU_at d145_20, EvU_at d145_21, EvU_at d145_24, EvU_at d145_25, EvU_at d145_26, EvU_at d145_27, EvU_at d145_30, EvU_at d145_31, EvU_at d145_34, EvU_at d145_37, EvU_at d145_38, EvU_at d145_41, EvU_at d145_44, EvU_at d145_45, EvU_at d145_46, EvU_at d145_47, EvU_at d145_50, EvU_at d145_52, EvU_at d145_53, EvU_at d145_54, EvU_at d145_55, EvU_at d145_56, EvU_at d145_57, EvU_at d145_58, EvU_at d145_59, EvU_at d145_62, EvU_at d145_63, EvU_at d145_66, EvU_at d145_67, EvU_at d145_68, EvU_at d145_69, EvU_at d145_72, EvU_at d145_73, EvU_at d145_76, EvU_at d145_77, EvU_at d145_78, EvU_at d145_79, EvU_at d145_82, EvU_at d145_83, EvU_at d145_86, EvU_at d145_89, EvU_at d145_90, Z145, LyS hL, LyG hL, hA, g, g0, g2, g3', q0]
    rw [EvU_iff (fun p => p == 58) 60, slO]
    by_cases cc : B 4 n = -1
    · simp (maxDischargeDepth := 9) [EvS, stI, enI, caI, s_push, s_iload, s_aload, s_istore, s_astore, s_iinc, s_bin, s_div, s_i2l, s_lcmp, s_dup, s_dup2, s_pop, s_tab, s_look, s_get, s_put, s_iald, s_lald, s_aald, s_iast, s_last, s_aast, s_len, s_newa, s_new, s_thr, s_min, s_copy, s_obj, s_call, s_iret, s_aret, s_vret, go, ldI, lget_lput, nl_I, nl_R, lv_args, wsum, va_rf, hnd, cvr, cat_i, cat_r, cat_l, oi_of, oi_add, oi_sub, oA_ap, oA_u2, pi_lt, pi_le, pi_eq, pi_eq0, pi_lt0, pi_le0, pi_gt0, pi_ge0, pi_cl, sb_lit, fv4, isB01, nlt0, EvU_0, wO_ne, wL_ne, wC_ne, wN_ne, pO_ne, pU_ne, CN, LN, -Prod.exists, pi_ti, Op.lookupswitch.offset, EvU_at d145_0, EvU_at d145_1, EvU_at d145_2, EvU_at d145_3, EvU_at d145_4, EvU_at d145_5, EvU_at d145_7, EvU_at d145_10, EvU_at d145_11, EvU_at d145_14, EvU_at d145_15, EvU_at d145_16, EvU_at d145_17, EvU_at d145_20, EvU_at d145_21, EvU_at d145_24, EvU_at d145_25, EvU_at d145_26, EvU_at d145_27, EvU_at d145_30, EvU_at d145_31, EvU_at d145_34, EvU_at d145_37, EvU_at d145_38, EvU_at d145_41, EvU_at d145_44, EvU_at d145_45, EvU_at d145_46, EvU_at d145_47, EvU_at d145_50, EvU_at d145_52, EvU_at d145_53, EvU_at d145_54, EvU_at d145_55, EvU_at d145_56, EvU_at d145_57, EvU_at d145_58, EvU_at d145_59, EvU_at d145_62, EvU_at d145_63, EvU_at d145_66, EvU_at d145_67, EvU_at d145_68, EvU_at d145_69, EvU_at d145_72, EvU_at d145_73, EvU_at d145_76, EvU_at d145_77, EvU_at d145_78, EvU_at d145_79, EvU_at d145_82, EvU_at d145_83, EvU_at d145_86, EvU_at d145_89, EvU_at d145_90, Z145, LyS hL, LyG hL, hA, g, g0, g2, g3', q0, q1, x1, cc]
      refine ih c _ (by omega) c0 c1 ?_ ?_ ?_ ?_
      · simp (maxDischargeDepth := 9) [lget_lput, nl_I, nl_R, g]
      · simp (maxDischargeDepth := 9) [lget_lput, nl_I, nl_R, g, g0]
      · simp (maxDischargeDepth := 9) [lget_lput, nl_I, nl_R, g]
      · simp (maxDischargeDepth := 9) [lget_lput, nl_I, nl_R, g]
        try rfl
    · have t := fun (sl : Nat) (r : Out) => r_bt (gl := gl) (sl := sl) (r := r) hA hL h hs cc c0 c1
      have e2 := passC_in h.M (w := (B 4 n).toNat) (by omega) c0 c1 s2.1 s2.2
      simp (maxDischargeDepth := 9) [EvS, stI, enI, caI, s_push, s_iload, s_aload, s_istore, s_astore, s_iinc, s_bin, s_div, s_i2l, s_lcmp, s_dup, s_dup2, s_pop, s_tab, s_look, s_get, s_put, s_iald, s_lald, s_aald, s_iast, s_last, s_aast, s_len, s_newa, s_new, s_thr, s_min, s_copy, s_obj, s_call, s_iret, s_aret, s_vret, go, ldI, lget_lput, nl_I, nl_R, lv_args, wsum, va_rf, hnd, cvr, cat_i, cat_r, cat_l, oi_of, oi_add, oi_sub, oA_ap, oA_u2, pi_lt, pi_le, pi_eq, pi_eq0, pi_lt0, pi_le0, pi_gt0, pi_ge0, pi_cl, sb_lit, fv4, isB01, nlt0, EvU_0, wO_ne, wL_ne, wC_ne, wN_ne, pO_ne, pU_ne, CN, LN, -Prod.exists, pi_ti, Op.lookupswitch.offset, EvU_at d145_0, EvU_at d145_1, EvU_at d145_2, EvU_at d145_3, EvU_at d145_4, EvU_at d145_5, EvU_at d145_7, EvU_at d145_10, EvU_at d145_11, EvU_at d145_14, EvU_at d145_15, EvU_at d145_16, EvU_at d145_17, EvU_at d145_20, EvU_at d145_21, EvU_at d145_24, EvU_at d145_25, EvU_at d145_26, EvU_at d145_27, EvU_at d145_30, EvU_at d145_31, EvU_at d145_34, EvU_at d145_37, EvU_at d145_38, EvU_at d145_41, EvU_at d145_44, EvU_at d145_45, EvU_at d145_46, EvU_at d145_47, EvU_at d145_50, EvU_at d145_52, EvU_at d145_53, EvU_at d145_54, EvU_at d145_55, EvU_at d145_56, EvU_at d145_57, EvU_at d145_58, EvU_at d145_59, EvU_at d145_62, EvU_at d145_63, EvU_at d145_66, EvU_at d145_67, EvU_at d145_68, EvU_at d145_69, EvU_at d145_72, EvU_at d145_73, EvU_at d145_76, EvU_at d145_77, EvU_at d145_78, EvU_at d145_79, EvU_at d145_82, EvU_at d145_83, EvU_at d145_86, EvU_at d145_89, EvU_at d145_90, Z145, Z147, LyS hL, LyG hL, hA, g, g0, g2, g3', q0, q1, q2, x1, cc, t]
      refine ih _ _ (by omega) e2.1 e2.2 ?_ ?_ ?_ ?_
      · simp (maxDischargeDepth := 9) [lget_lput, nl_I, nl_R, g]
      · simp (maxDischargeDepth := 9) [lget_lput, nl_I, nl_R, g, g0]
      · simp (maxDischargeDepth := 9) [lget_lput, nl_I, nl_R, g]
      · simp (maxDischargeDepth := 9) [lget_lput, nl_I, nl_R, g]
        try rfl
set_option maxRecDepth 20000 in
theorem l_sI (hA : ∀ k j, sb (A k j)) (hL : Lay sh gr) (h : RW A B) : ∀ (n s : Nat) (c : Int) (ls : Lc), s + n = 6 → 0 ≤ c → c < B 2 9 → nl ls = true → lget ls 0 = some (.ref 199) → lget ls 2 = some (.int (oi c)) → lget ls 3 = some (.int (oi (s : Int))) →
    (Ev (145, 4, ls, [], (sh, oA A, gl, gr), sl) r ↔ r = (.inl (some (.int (oi (if B 2 13 = 0 then slI B n s c else slO B 6 (B 12 (slI B n s c).toNat))))), (sh, oA A, gl, gr), sl)) := by
  have s3 := h.M.m
  intro n
  induction n with
  | zero =>
    intro s c ls hn c0 c1 g g0 g2 g3
    obtain rfl : s = 6 := by omega
    have e0 : sb ((6 : Nat) : Int) := ⟨by omega, by omega⟩
    have e1 : (6 : Int) ≤ ((6 : Nat) : Int) := by omega
    have x1 := h.R.refl
    have x2 : sb (B 2 13) := x1 ▸ hA _ _
    rw [slI]
    by_cases cc : B 2 13 = 0
    · rw [EvU_iff (fun _ => false) 20]
      simp (maxDischargeDepth := 9) [EvS, stI, enI, caI, s_push, s_iload, s_aload, s_istore, s_astore, s_iinc, s_bin, s_div, s_i2l, s_lcmp, s_dup, s_dup2, s_pop, s_tab, s_look, s_get, s_put, s_iald, s_lald, s_aald, s_iast, s_last, s_aast, s_len, s_newa, s_new, s_thr, s_min, s_copy, s_obj, s_call, s_iret, s_aret, s_vret, go, ldI, lget_lput, nl_I, nl_R, lv_args, wsum, va_rf, hnd, cvr, cat_i, cat_r, cat_l, oi_of, oi_add, oi_sub, oA_ap, oA_u2, pi_lt, pi_le, pi_eq, pi_eq0, pi_lt0, pi_le0, pi_gt0, pi_ge0, pi_cl, sb_lit, fv4, isB01, nlt0, EvU_0, wO_ne, wL_ne, wC_ne, wN_ne, pO_ne, pU_ne, CN, LN, -Prod.exists, pi_ti, Op.lookupswitch.offset, EvU_at d145_0, EvU_at d145_1, EvU_at d145_2, EvU_at d145_3, EvU_at d145_4, EvU_at d145_5, EvU_at d145_7, EvU_at d145_10, EvU_at d145_11, EvU_at d145_14, EvU_at d145_15, EvU_at d145_16, EvU_at d145_17, EvU_at d145_20, EvU_at d145_21, EvU_at d145_24, EvU_at d145_25, EvU_at d145_26, EvU_at d145_27, EvU_at d145_30, EvU_at d145_31, EvU_at d145_34, EvU_at d145_37, EvU_at d145_38, EvU_at d145_41, EvU_at d145_44, EvU_at d145_45, EvU_at d145_46, EvU_at d145_47, EvU_at d145_50, EvU_at d145_52, EvU_at d145_53, EvU_at d145_54, EvU_at d145_55, EvU_at d145_56, EvU_at d145_57, EvU_at d145_58, EvU_at d145_59, EvU_at d145_62, EvU_at d145_63, EvU_at d145_66, EvU_at d145_67, EvU_at d145_68, EvU_at d145_69, EvU_at d145_72, EvU_at d145_73, EvU_at d145_76, EvU_at d145_77, EvU_at d145_78, EvU_at d145_79, EvU_at d145_82, EvU_at d145_83, EvU_at d145_86, EvU_at d145_89, EvU_at d145_90, Z145, LyS hL, LyG hL, hA, g, g0, g2, g3, e0, e1, x1, x2, cc]
    · have q0 : sb (32 + c) := ⟨by omega, by omega⟩
      have q1 : ¬ 32 + c < 0 := by omega
      have q2 : ¬ 64 ≤ (32 + c).toNat := by omega
      have q3 : A 204 (32 + c).toNat = B 12 c.toNat := by
        rw [← h.R.pr c.toNat (by omega)]
        congr 1
        omega
      have q4 := h.M.pr c.toNat (by omega)
      rw [EvU_iff (fun p => p == 58) 30]
      simp (maxDischargeDepth := 9) [EvS, stI, enI, caI, s_push, s_iload, s_aload, s_istore, s_astore, s_iinc, s_bin, s_div, s_i2l, s_lcmp, s_dup, s_dup2, s_pop, s_tab, s_look, s_get, s_put, s_iald, s_lald, s_aald, s_iast, s_last, s_aast, s_len, s_newa, s_new, s_thr, s_min, s_copy, s_obj, s_call, s_iret, s_aret, s_vret, go, ldI, lget_lput, nl_I, nl_R, lv_args, wsum, va_rf, hnd, cvr, cat_i, cat_r, cat_l, oi_of, oi_add, oi_sub, oA_ap, oA_u2, pi_lt, pi_le, pi_eq, pi_eq0, pi_lt0, pi_le0, pi_gt0, pi_ge0, pi_cl, sb_lit, fv4, isB01, nlt0, EvU_0, wO_ne, wL_ne, wC_ne, wN_ne, pO_ne, pU_ne, CN, LN, -Prod.exists, pi_ti, Op.lookupswitch.offset, EvU_at d145_0, EvU_at d145_1, EvU_at d145_2, EvU_at d145_3, EvU_at d145_4, EvU_at d145_5, EvU_at d145_7, EvU_at d145_10, EvU_at d145_11, EvU_at d145_14, EvU_at d145_15, EvU_at d145_16, EvU_at d145_17, EvU_at d145_20, EvU_at d145_21, EvU_at d145_24, EvU_at d145_25, EvU_at d145_26, EvU_at d145_27, EvU_at d145_30, EvU_at d145_31, EvU_at d145_34, EvU_at d145_37, EvU_at d145_38, EvU_at d145_41, EvU_at d145_44, EvU_at d145_45, EvU_at d145_46, EvU_at d145_47, EvU_at d145_50, EvU_at d145_52, EvU_at d145_53, EvU_at d145_54, EvU_at d145_55, EvU_at d145_56, EvU_at d145_57, EvU_at d145_58, EvU_at d145_59, EvU_at d145_62, EvU_at d145_63, EvU_at d145_66, EvU_at d145_67, EvU_at d145_68, EvU_at d145_69, EvU_at d145_72, EvU_at d145_73, EvU_at d145_76, EvU_at d145_77, EvU_at d145_78, EvU_at d145_79, EvU_at d145_82, EvU_at d145_83, EvU_at d145_86, EvU_at d145_89, EvU_at d145_90, Z145, LyS hL, LyG hL, hA, g, g0, g2, g3, e0, e1, x1, x2, cc, q0, q1, q2, q3]
      refine l_sO hA hL h 6 _ _ (by omega) q4.1 q4.2.1 ?_ ?_ ?_ ?_
      · simp (maxDischargeDepth := 9) [lget_lput, nl_I, nl_R, g]
      · simp (maxDischargeDepth := 9) [lget_lput, nl_I, nl_R, g, g0]
      · simp (maxDischargeDepth := 9) [lget_lput, nl_I, nl_R, g]
      · simp (maxDischargeDepth := 9) [lget_lput, nl_I, nl_R, g]
        try rfl
  | succ n ih =>
    intro s c ls hn c0 c1 g g0 g2 g3
    have hs : s < 6 := by omega
    have x1 := h.R.slot s hs
    have s1 := h.M.slot s hs
    have s2 := h.C.pos s hs
    have q0 : sb (s : Int) := ⟨by omega, by omega⟩
    have q1 : ¬ 6 ≤ s := by omega
    have q1' : ¬ (6 : Int) ≤ (s : Int) := by omega
    have q2 : sb (B 4 s) := ⟨by omega, by omega⟩
    rw [EvU_iff (fun _ => false) 1]
    simp (maxDischargeDepth := 9) [EvS, stI, enI, caI, s_push, s_iload, s_aload, s_istore, s_astore, s_iinc, s_bin, s_div, s_i2l, s_lcmp, s_dup, s_dup2, s_pop, s_tab, s_look, s_get, s_put, s_iald, s_lald, s_aald, s_iast, s_last, s_aast, s_len, s_newa, s_new, s_thr, s_min, s_copy, s_obj, s_call, s_iret, s_aret, s_vret, go, ldI, lget_lput, nl_I, nl_R, lv_args, wsum, va_rf, hnd, cvr, cat_i, cat_r, cat_l, oi_of, oi_add, oi_sub, oA_ap, oA_u2, pi_lt, pi_le, pi_eq, pi_eq0, pi_lt0, pi_le0, pi_gt0, pi_ge0, pi_cl, sb_lit, fv4, isB01, nlt0, EvU_0, wO_ne, wL_ne, wC_ne, wN_ne, pO_ne, pU_ne, CN, LN, -Prod.exists, pi_ti, Op.lookupswitch.offset, EvU_at d145_0, EvU_at d145_1, EvU_at d145_2, EvU_at d145_3, EvU_at d145_4, EvU_at d145_5, EvU_at d145_7, EvU_at d145_10, EvU_at d145_11, EvU_at d145_14, EvU_at d145_15, EvU_at d145_16, EvU_at d145_17, EvU_at d145_20, EvU_at d145_21, EvU_at d145_24, EvU_at d145_25, EvU_at d145_26, EvU_at d145_27, EvU_at d145_30, EvU_at d145_31, EvU_at d145_34, EvU_at d145_37, EvU_at d145_38, EvU_at d145_41, EvU_at d145_44, EvU_at d145_45, EvU_at d145_46, EvU_at d145_47, EvU_at d145_50, EvU_at d145_52, EvU_at d145_53, EvU_at d145_54, EvU_at d145_55, EvU_at d145_56, EvU_at d145_57, EvU_at d145_58, EvU_at d145_59, EvU_at d145_62, EvU_at d145_63, EvU_at d145_66, EvU_at d145_67, EvU_at d145_68, EvU_at d145_69, EvU_at d145_72, EvU_at d145_73, EvU_at d145_76, EvU_at d145_77, EvU_at d145_78, EvU_at d145_79, EvU_at d145_82, EvU_at d145_83, EvU_at d145_86, EvU_at d145_89, EvU_at d145_90, Z145, LyS hL, LyG hL, hA, g, g0, g2, g3, q0]
    rw [EvU_iff (fun p => p == 4) 60, slI]
    by_cases cc : B 4 s = -1
    · simp (maxDischargeDepth := 9) only [if_pos cc]
      simp (maxDischargeDepth := 9) [EvS, stI, enI, caI, s_push, s_iload, s_aload, s_istore, s_astore, s_iinc, s_bin, s_div, s_i2l, s_lcmp, s_dup, s_dup2, s_pop, s_tab, s_look, s_get, s_put, s_iald, s_lald, s_aald, s_iast, s_last, s_aast, s_len, s_newa, s_new, s_thr, s_min, s_copy, s_obj, s_call, s_iret, s_aret, s_vret, go, ldI, lget_lput, nl_I, nl_R, lv_args, wsum, va_rf, hnd, cvr, cat_i, cat_r, cat_l, oi_of, oi_add, oi_sub, oA_ap, oA_u2, pi_lt, pi_le, pi_eq, pi_eq0, pi_lt0, pi_le0, pi_gt0, pi_ge0, pi_cl, sb_lit, fv4, isB01, nlt0, EvU_0, wO_ne, wL_ne, wC_ne, wN_ne, pO_ne, pU_ne, CN, LN, -Prod.exists, pi_ti, Op.lookupswitch.offset, EvU_at d145_0, EvU_at d145_1, EvU_at d145_2, EvU_at d145_3, EvU_at d145_4, EvU_at d145_5, EvU_at d145_7, EvU_at d145_10, EvU_at d145_11, EvU_at d145_14, EvU_at d145_15, EvU_at d145_16, EvU_at d145_17, EvU_at d145_20, EvU_at d145_21, EvU_at d145_24, EvU_at d145_25, EvU_at d145_26, EvU_at d145_27, EvU_at d145_30, EvU_at d145_31, EvU_at d145_34, EvU_at d145_37, EvU_at d145_38, EvU_at d145_41, EvU_at d145_44, EvU_at d145_45, EvU_at d145_46, EvU_at d145_47, EvU_at d145_50, EvU_at d145_52, EvU_at d145_53, EvU_at d145_54, EvU_at d145_55, EvU_at d145_56, EvU_at d145_57, EvU_at d145_58, EvU_at d145_59, EvU_at d145_62, EvU_at d145_63, EvU_at d145_66, EvU_at d145_67, EvU_at d145_68, EvU_at d145_69, EvU_at d145_72, EvU_at d145_73, EvU_at d145_76, EvU_at d145_77, EvU_at d145_78, EvU_at d145_79, EvU_at d145_82, EvU_at d145_83, EvU_at d145_86, EvU_at d145_89, EvU_at d145_90, Z145, LyS hL, LyG hL, hA, g, g0, g2, g3, q0, q1, q1', x1, cc]
      refine ih (s + 1) c _ (by omega) c0 c1 ?_ ?_ ?_ ?_
      · simp (maxDischargeDepth := 9) [lget_lput, nl_I, nl_R, g]
      · simp (maxDischargeDepth := 9) [lget_lput, nl_I, nl_R, g, g0]
      · simp (maxDischargeDepth := 9) [lget_lput, nl_I, nl_R, g]
      · simp (maxDischargeDepth := 9) [lget_lput, nl_I, nl_R, g]
    · have t := fun (sl : Nat) (r : Out) => r_through (gl := gl) (sl := sl) (r := r) hA hL h hs cc c0 c1
      have e2 := passL_in h.M (w := (B 4 s).toNat) (by omega) c0 c1 s2.1 s2.2
      simp (maxDischargeDepth := 9) only [if_neg cc]
      simp (maxDischargeDepth := 9) [EvS, stI, enI, caI, s_push, s_iload, s_aload, s_istore, s_astore, s_iinc, s_bin, s_div, s_i2l, s_lcmp, s_dup, s_dup2, s_pop, s_tab, s_look, s_get, s_put, s_iald, s_lald, s_aald, s_iast, s_last, s_aast, s_len, s_newa, s_new, s_thr, s_min, s_copy, s_obj, s_call, s_iret, s_aret, s_vret, go, ldI, lget_lput, nl_I, nl_R, lv_args, wsum, va_rf, hnd, cvr, cat_i, cat_r, cat_l, oi_of, oi_add, oi_sub, oA_ap, oA_u2, pi_lt, pi_le, pi_eq, pi_eq0, pi_lt0, pi_le0, pi_gt0, pi_ge0, pi_cl, sb_lit, fv4, isB01, nlt0, EvU_0, wO_ne, wL_ne, wC_ne, wN_ne, pO_ne, pU_ne, CN, LN, -Prod.exists, pi_ti, Op.lookupswitch.offset, EvU_at d145_0, EvU_at d145_1, EvU_at d145_2, EvU_at d145_3, EvU_at d145_4, EvU_at d145_5, EvU_at d145_7, EvU_at d145_10, EvU_at d145_11, EvU_at d145_14, EvU_at d145_15, EvU_at d145_16, EvU_at d145_17, EvU_at d145_20, EvU_at d145_21, EvU_at d145_24, EvU_at d145_25, EvU_at d145_26, EvU_at d145_27, EvU_at d145_30, EvU_at d145_31, EvU_at d145_34, EvU_at d145_37, EvU_at d145_38, EvU_at d145_41, EvU_at d145_44, EvU_at d145_45, EvU_at d145_46, EvU_at d145_47, EvU_at d145_50, EvU_at d145_52, EvU_at d145_53, EvU_at d145_54, EvU_at d145_55, EvU_at d145_56, EvU_at d145_57, EvU_at d145_58, EvU_at d145_59, EvU_at d145_62, EvU_at d145_63, EvU_at d145_66, EvU_at d145_67, EvU_at d145_68, EvU_at d145_69, EvU_at d145_72, EvU_at d145_73, EvU_at d145_76, EvU_at d145_77, EvU_at d145_78, EvU_at d145_79, EvU_at d145_82, EvU_at d145_83, EvU_at d145_86, EvU_at d145_89, EvU_at d145_90, Z145, Z146, LyS hL, LyG hL, hA, g, g0, g2, g3, q0, q1, q1', q2, x1, cc, t]
      refine ih (s + 1) _ _ (by omega) e2.1 e2.2 ?_ ?_ ?_ ?_
      · simp (maxDischargeDepth := 9) [lget_lput, nl_I, nl_R, g]
      · simp (maxDischargeDepth := 9) [lget_lput, nl_I, nl_R, g, g0]
      · simp (maxDischargeDepth := 9) [lget_lput, nl_I, nl_R, g]
      · simp (maxDischargeDepth := 9) [lget_lput, nl_I, nl_R, g]
set_option maxRecDepth 20000 in
theorem r_slots (hA : ∀ k j, sb (A k j)) (hL : Lay sh gr) (h : RW A B) {c : Int} (c0 : 0 ≤ c) (c1 : c < B 2 9) : Ev (145, 0, [(0, .ref 199), (1, .int (oi c))], [], (sh, oA A, gl, gr), sl) r ↔ r = (.inl (some (.int (oi (if B 2 13 = 0 then slI B 6 0 c else slO B 6 (B 12 (slI B 6 0 c).toNat))))), (sh, oA A, gl, gr), sl) := by
  rw [EvU_iff (fun p => p == 4) 20]
  simp only [show (0 : Int) = ((0 : Nat) : Int) from rfl] at *
  simp [EvS, stI, enI, caI, s_push, s_iload, s_aload, s_istore, s_astore, s_iinc, s_bin, s_div, s_i2l, s_lcmp, s_dup, s_dup2, s_pop, s_tab, s_look, s_get, s_put, s_iald, s_lald, s_aald, s_iast, s_last, s_aast, s_len, s_newa, s_new, s_thr, s_min, s_copy, s_obj, s_call, s_iret, s_aret, s_vret, go, ldI, lget, lput, lv_args, wsum, va_rf, hnd, cvr, cat_i, cat_r, cat_l, oi_of, oi_add, oi_sub, oA_ap, oA_u2, pi_lt, pi_le, pi_eq, pi_eq0, pi_lt0, pi_le0, pi_gt0, pi_ge0, pi_cl, sb_lit, fv4, isB01, nlt0, EvU_0, wO_ne, wL_ne, wC_ne, wN_ne, pO_ne, pU_ne, CN, LN, -Prod.exists, pi_ti, Op.lookupswitch.offset, EvU_at d145_0, EvU_at d145_1, EvU_at d145_2, EvU_at d145_3, EvU_at d145_4, EvU_at d145_5, EvU_at d145_7, EvU_at d145_10, EvU_at d145_11, EvU_at d145_14, EvU_at d145_15, EvU_at d145_16, EvU_at d145_17, EvU_at d145_20, EvU_at d145_21, EvU_at d145_24, EvU_at d145_25, EvU_at d145_26, EvU_at d145_27, EvU_at d145_30, EvU_at d145_31, EvU_at d145_34, EvU_at d145_37, EvU_at d145_38, EvU_at d145_41, EvU_at d145_44, EvU_at d145_45, EvU_at d145_46, EvU_at d145_47, EvU_at d145_50, EvU_at d145_52, EvU_at d145_53, EvU_at d145_54, EvU_at d145_55, EvU_at d145_56, EvU_at d145_57, EvU_at d145_58, EvU_at d145_59, EvU_at d145_62, EvU_at d145_63, EvU_at d145_66, EvU_at d145_67, EvU_at d145_68, EvU_at d145_69, EvU_at d145_72, EvU_at d145_73, EvU_at d145_76, EvU_at d145_77, EvU_at d145_78, EvU_at d145_79, EvU_at d145_82, EvU_at d145_83, EvU_at d145_86, EvU_at d145_89, EvU_at d145_90, Z145]
  refine l_sI hA hL h 6 0 _ _ rfl c0 c1 ?_ ?_ ?_ ?_
  · simp [nl, cat_i, cat_r]
  · simp [lget, cat_i, cat_r]
  · simp [lget, cat_i, cat_r]
  · simp [lget, cat_i, cat_r]
set_option maxRecDepth 20000 in
theorem l_bits (hA : ∀ k j, sb (A k j)) (hL : Lay sh gr) (h : RW A B) (hm : B 2 9 = 32) : ∀ (n k c : Nat) (ls : Lc), k + n = 5 → c < 32 → nl ls = true → lget ls 0 = some (.ref 199) → lget ls 2 = some (.int (oi (c : Int))) → lget ls 3 = some (.int (oi (k : Int))) →
    (Ev (148, 4, ls, [], (sh, oA A, gl, gr), sl) r ↔ r = (.inl (some (.int (oi ((turnF B n k c : Nat) : Int)))), (sh, oA A, gl, gr), sl)) := by
  have x0 := h.R.m
  intro n
  induction n with
  | zero =>
    intro k c ls hn hc g g0 g2 g3
    obtain rfl : k = 5 := by omega
    have e0 : sb ((5 : Nat) : Int) := ⟨by omega, by omega⟩
    have e1 : (5 : Int) ≤ ((5 : Nat) : Int) := by omega
    rw [EvU_iff (fun _ => false) 10]
    simp (maxDischargeDepth := 9) [EvS, stI, enI, caI, s_push, s_iload, s_aload, s_istore, s_astore, s_iinc, s_bin, s_div, s_i2l, s_lcmp, s_dup, s_dup2, s_pop, s_tab, s_look, s_get, s_put, s_iald, s_lald, s_aald, s_iast, s_last, s_aast, s_len, s_newa, s_new, s_thr, s_min, s_copy, s_obj, s_call, s_iret, s_aret, s_vret, go, ldI, lget_lput, nl_I, nl_R, lv_args, wsum, va_rf, hnd, cvr, cat_i, cat_r, cat_l, oi_of, oi_add, oi_sub, oA_ap, oA_u2, pi_lt, pi_le, pi_eq, pi_eq0, pi_lt0, pi_le0, pi_gt0, pi_ge0, pi_cl, sb_lit, fv4, isB01, nlt0, EvU_0, wO_ne, wL_ne, wC_ne, wN_ne, pO_ne, pU_ne, CN, LN, -Prod.exists, pi_ti, Op.lookupswitch.offset, EvU_at d148_0, EvU_at d148_1, EvU_at d148_2, EvU_at d148_3, EvU_at d148_4, EvU_at d148_5, EvU_at d148_6, EvU_at d148_9, EvU_at d148_10, EvU_at d148_13, EvU_at d148_15, EvU_at d148_18, EvU_at d148_19, EvU_at d148_20, EvU_at d148_23, EvU_at d148_24, EvU_at d148_25, EvU_at d148_26, EvU_at d148_27, EvU_at d148_30, EvU_at d148_33, EvU_at d148_34, EvU_at d148_35, EvU_at d148_36, EvU_at d148_37, EvU_at d148_38, EvU_at d148_41, EvU_at d148_42, EvU_at d148_43, EvU_at d148_46, EvU_at d148_49, EvU_at d148_50, Z148, LyS hL, LyG hL, hA, g, g0, g2, g3, e0, e1, turnF]
  | succ n ih =>
    intro k c ls hn hc g g0 g2 g3
    have hk : k < 5 := by omega
    have q0 : sb (k : Int) := ⟨by omega, by omega⟩
    have q1 : ¬ (5 : Int) ≤ (k : Int) := by omega
    have q2 : ¬ 5 ≤ k := by omega
    have a1 := fun (sl : Nat) (r : Out) => r_active (gl := gl) (sl := sl) (r := r) hA hL h (k := k) (by omega)
    have a2 := fun (sl : Nat) (r : Out) => r_active (gl := gl) (sl := sl) (r := r) hA hL h (k := k + 5) (by omega)
    have a3 : (((k + 5 : Nat) : Int)) = (k : Int) + 5 := by omega
    rw [a3] at a2
    have u1 : sb (upB B k) := by rcases upB01 B k with e | e <;> rw [e] <;> exact ⟨by decide, by decide⟩
    have u2' : sb (upB B (k + 5)) := by rcases upB01 B (k + 5) with e | e <;> rw [e] <;> exact ⟨by decide, by decide⟩
    have xo := xor_oi c hc k hk
    rw [EvU_iff (fun _ => false) 1]
    simp (maxDischargeDepth := 9) [EvS, stI, enI, caI, s_push, s_iload, s_aload, s_istore, s_astore, s_iinc, s_bin, s_div, s_i2l, s_lcmp, s_dup, s_dup2, s_pop, s_tab, s_look, s_get, s_put, s_iald, s_lald, s_aald, s_iast, s_last, s_aast, s_len, s_newa, s_new, s_thr, s_min, s_copy, s_obj, s_call, s_iret, s_aret, s_vret, go, ldI, lget_lput, nl_I, nl_R, lv_args, wsum, va_rf, hnd, cvr, cat_i, cat_r, cat_l, oi_of, oi_add, oi_sub, oA_ap, oA_u2, pi_lt, pi_le, pi_eq, pi_eq0, pi_lt0, pi_le0, pi_gt0, pi_ge0, pi_cl, sb_lit, fv4, isB01, nlt0, EvU_0, wO_ne, wL_ne, wC_ne, wN_ne, pO_ne, pU_ne, CN, LN, -Prod.exists, pi_ti, Op.lookupswitch.offset, EvU_at d148_0, EvU_at d148_1, EvU_at d148_2, EvU_at d148_3, EvU_at d148_4, EvU_at d148_5, EvU_at d148_6, EvU_at d148_9, EvU_at d148_10, EvU_at d148_13, EvU_at d148_15, EvU_at d148_18, EvU_at d148_19, EvU_at d148_20, EvU_at d148_23, EvU_at d148_24, EvU_at d148_25, EvU_at d148_26, EvU_at d148_27, EvU_at d148_30, EvU_at d148_33, EvU_at d148_34, EvU_at d148_35, EvU_at d148_36, EvU_at d148_37, EvU_at d148_38, EvU_at d148_41, EvU_at d148_42, EvU_at d148_43, EvU_at d148_46, EvU_at d148_49, EvU_at d148_50, Z148, LyS hL, LyG hL, hA, g, g0, g2, g3, q0]
    rw [EvU_iff (fun p => p == 4) 60, turnF]
    by_cases cc : upB B k = upB B (k + 5)
    · simp (maxDischargeDepth := 9) [EvS, stI, enI, caI, s_push, s_iload, s_aload, s_istore, s_astore, s_iinc, s_bin, s_div, s_i2l, s_lcmp, s_dup, s_dup2, s_pop, s_tab, s_look, s_get, s_put, s_iald, s_lald, s_aald, s_iast, s_last, s_aast, s_len, s_newa, s_new, s_thr, s_min, s_copy, s_obj, s_call, s_iret, s_aret, s_vret, go, ldI, lget_lput, nl_I, nl_R, lv_args, wsum, va_rf, hnd, cvr, cat_i, cat_r, cat_l, oi_of, oi_add, oi_sub, oA_ap, oA_u2, pi_lt, pi_le, pi_eq, pi_eq0, pi_lt0, pi_le0, pi_gt0, pi_ge0, pi_cl, sb_lit, fv4, isB01, nlt0, EvU_0, wO_ne, wL_ne, wC_ne, wN_ne, pO_ne, pU_ne, CN, LN, -Prod.exists, pi_ti, Op.lookupswitch.offset, EvU_at d148_0, EvU_at d148_1, EvU_at d148_2, EvU_at d148_3, EvU_at d148_4, EvU_at d148_5, EvU_at d148_6, EvU_at d148_9, EvU_at d148_10, EvU_at d148_13, EvU_at d148_15, EvU_at d148_18, EvU_at d148_19, EvU_at d148_20, EvU_at d148_23, EvU_at d148_24, EvU_at d148_25, EvU_at d148_26, EvU_at d148_27, EvU_at d148_30, EvU_at d148_33, EvU_at d148_34, EvU_at d148_35, EvU_at d148_36, EvU_at d148_37, EvU_at d148_38, EvU_at d148_41, EvU_at d148_42, EvU_at d148_43, EvU_at d148_46, EvU_at d148_49, EvU_at d148_50, Z148, Z143, LyS hL, LyG hL, hA, g, g0, g2, g3, q0, q1, q2, x0, hm, a1, a2, u1, u2', cc]
      refine ih (k + 1) c _ (by omega) hc ?_ ?_ ?_ ?_
      · simp (maxDischargeDepth := 9) [lget_lput, nl_I, nl_R, g]
      · simp (maxDischargeDepth := 9) [lget_lput, nl_I, nl_R, g, g0]
      · simp (maxDischargeDepth := 9) [lget_lput, nl_I, nl_R, g]
      · simp (maxDischargeDepth := 9) [lget_lput, nl_I, nl_R, g]
    · simp (maxDischargeDepth := 9) [EvS, stI, enI, caI, s_push, s_iload, s_aload, s_istore, s_astore, s_iinc, s_bin, s_div, s_i2l, s_lcmp, s_dup, s_dup2, s_pop, s_tab, s_look, s_get, s_put, s_iald, s_lald, s_aald, s_iast, s_last, s_aast, s_len, s_newa, s_new, s_thr, s_min, s_copy, s_obj, s_call, s_iret, s_aret, s_vret, go, ldI, lget_lput, nl_I, nl_R, lv_args, wsum, va_rf, hnd, cvr, cat_i, cat_r, cat_l, oi_of, oi_add, oi_sub, oA_ap, oA_u2, pi_lt, pi_le, pi_eq, pi_eq0, pi_lt0, pi_le0, pi_gt0, pi_ge0, pi_cl, sb_lit, fv4, isB01, nlt0, EvU_0, wO_ne, wL_ne, wC_ne, wN_ne, pO_ne, pU_ne, CN, LN, -Prod.exists, pi_ti, Op.lookupswitch.offset, EvU_at d148_0, EvU_at d148_1, EvU_at d148_2, EvU_at d148_3, EvU_at d148_4, EvU_at d148_5, EvU_at d148_6, EvU_at d148_9, EvU_at d148_10, EvU_at d148_13, EvU_at d148_15, EvU_at d148_18, EvU_at d148_19, EvU_at d148_20, EvU_at d148_23, EvU_at d148_24, EvU_at d148_25, EvU_at d148_26, EvU_at d148_27, EvU_at d148_30, EvU_at d148_33, EvU_at d148_34, EvU_at d148_35, EvU_at d148_36, EvU_at d148_37, EvU_at d148_38, EvU_at d148_41, EvU_at d148_42, EvU_at d148_43, EvU_at d148_46, EvU_at d148_49, EvU_at d148_50, Z148, Z143, LyS hL, LyG hL, hA, g, g0, g2, g3, q0, q1, q2, x0, hm, a1, a2, u1, u2', cc, xo]
      refine ih (k + 1) (c ^^^ 2 ^ k) _ (by omega) (xor_lt c hc k hk) ?_ ?_ ?_ ?_
      · simp (maxDischargeDepth := 9) [lget_lput, nl_I, nl_R, g]
      · simp (maxDischargeDepth := 9) [lget_lput, nl_I, nl_R, g, g0]
      · simp (maxDischargeDepth := 9) [lget_lput, nl_I, nl_R, g]
        try exact xo
      · simp (maxDischargeDepth := 9) [lget_lput, nl_I, nl_R, g]
set_option maxRecDepth 20000 in
theorem r_bits (hA : ∀ k j, sb (A k j)) (hL : Lay sh gr) (h : RW A B) {c : Int} (c0 : 0 ≤ c) (c1 : c < B 2 9) : Ev (148, 0, [(0, .ref 199), (1, .int (oi c))], [], (sh, oA A, gl, gr), sl) r ↔ r = (.inl (some (.int (oi (if B 2 9 = 32 then ((turnF B 5 0 c.toNat : Nat) : Int) else c)))), (sh, oA A, gl, gr), sl) := by
  have s3 := h.M.m
  have x0 := h.R.m
  have q6 : sb (B 2 9) := ⟨by omega, by omega⟩
  by_cases cc : B 2 9 = 32
  · obtain ⟨d, rfl⟩ : ∃ d : Nat, c = (d : Int) := ⟨c.toNat, by omega⟩
    rw [if_pos cc, Int.toNat_natCast, EvU_iff (fun p => p == 4) 20]
    simp [EvS, stI, enI, caI, s_push, s_iload, s_aload, s_istore, s_astore, s_iinc, s_bin, s_div, s_i2l, s_lcmp, s_dup, s_dup2, s_pop, s_tab, s_look, s_get, s_put, s_iald, s_lald, s_aald, s_iast, s_last, s_aast, s_len, s_newa, s_new, s_thr, s_min, s_copy, s_obj, s_call, s_iret, s_aret, s_vret, go, ldI, lget, lput, lv_args, wsum, va_rf, hnd, cvr, cat_i, cat_r, cat_l, oi_of, oi_add, oi_sub, oA_ap, oA_u2, pi_lt, pi_le, pi_eq, pi_eq0, pi_lt0, pi_le0, pi_gt0, pi_ge0, pi_cl, sb_lit, fv4, isB01, nlt0, EvU_0, wO_ne, wL_ne, wC_ne, wN_ne, pO_ne, pU_ne, CN, LN, -Prod.exists, pi_ti, Op.lookupswitch.offset, EvU_at d148_0, EvU_at d148_1, EvU_at d148_2, EvU_at d148_3, EvU_at d148_4, EvU_at d148_5, EvU_at d148_6, EvU_at d148_9, EvU_at d148_10, EvU_at d148_13, EvU_at d148_15, EvU_at d148_18, EvU_at d148_19, EvU_at d148_20, EvU_at d148_23, EvU_at d148_24, EvU_at d148_25, EvU_at d148_26, EvU_at d148_27, EvU_at d148_30, EvU_at d148_33, EvU_at d148_34, EvU_at d148_35, EvU_at d148_36, EvU_at d148_37, EvU_at d148_38, EvU_at d148_41, EvU_at d148_42, EvU_at d148_43, EvU_at d148_46, EvU_at d148_49, EvU_at d148_50, Z148]
    refine l_bits hA hL h cc 5 0 d _ rfl (by omega) ?_ ?_ ?_ ?_
    · simp [nl, cat_i, cat_r]
    · simp [lget, cat_i, cat_r]
    · simp [lget, cat_i, cat_r]
    · simp [lget, cat_i, cat_r]
  · rw [if_neg cc, EvU_iff (fun _ => false) 20]
    simp [EvS, stI, enI, caI, s_push, s_iload, s_aload, s_istore, s_astore, s_iinc, s_bin, s_div, s_i2l, s_lcmp, s_dup, s_dup2, s_pop, s_tab, s_look, s_get, s_put, s_iald, s_lald, s_aald, s_iast, s_last, s_aast, s_len, s_newa, s_new, s_thr, s_min, s_copy, s_obj, s_call, s_iret, s_aret, s_vret, go, ldI, lget, lput, lv_args, wsum, va_rf, hnd, cvr, cat_i, cat_r, cat_l, oi_of, oi_add, oi_sub, oA_ap, oA_u2, pi_lt, pi_le, pi_eq, pi_eq0, pi_lt0, pi_le0, pi_gt0, pi_ge0, pi_cl, sb_lit, fv4, isB01, nlt0, EvU_0, wO_ne, wL_ne, wC_ne, wN_ne, pO_ne, pU_ne, CN, LN, -Prod.exists, pi_ti, Op.lookupswitch.offset, EvU_at d148_0, EvU_at d148_1, EvU_at d148_2, EvU_at d148_3, EvU_at d148_4, EvU_at d148_5, EvU_at d148_6, EvU_at d148_9, EvU_at d148_10, EvU_at d148_13, EvU_at d148_15, EvU_at d148_18, EvU_at d148_19, EvU_at d148_20, EvU_at d148_23, EvU_at d148_24, EvU_at d148_25, EvU_at d148_26, EvU_at d148_27, EvU_at d148_30, EvU_at d148_33, EvU_at d148_34, EvU_at d148_35, EvU_at d148_36, EvU_at d148_37, EvU_at d148_38, EvU_at d148_41, EvU_at d148_42, EvU_at d148_43, EvU_at d148_46, EvU_at d148_49, EvU_at d148_50, Z148, LyS hL, LyG hL, hA, x0, q6, cc]
end
