/-! step, and small methods that change cells -/
section
variable {sh : List (Nat × Nat)} {A : Nat → Nat → Int} {gl : Nat → Nat → Int64} {gr : Nat → Nat → Option Nat} {sl : Nat} {r : Out}
/-- the slots that step, as bits -/
def movedF (A : Nat → Nat → Int) : Nat → Nat → Nat → Nat
  | 0, _, c => c
  | n + 1, i, c => movedF A n (i + 1) (if stepB A i = 1 then c ||| 2 ^ (A 5 i).toNat else c)
theorem WayOk.pos (hW : WayOk A) : PosOk A := ⟨hW.1, hW.2.1, hW.2.2.2.2.2.1⟩
theorem PlaceOk.pin (hP : PlaceOk A) : PinOk A := fun i hi => ⟨(hP i hi).2.2.1, (hP i hi).1, (hP i hi).2.1⟩
theorem movedF_lt (hW : WayOk A) : ∀ n i c : Nat, (i : Int) + n ≤ A 2 10 → c < 64 → movedF A n i c < 64 := by
  intro n
  induction n with
  | zero =>
    intro i c _ hc
    exact hc
  | succ n ih =>
    intro i c hn hc
    obtain ⟨o0, o1, -, -⟩ := hW.2.2.2.2.1 i (by omega)
    unfold movedF
    refine ih (i + 1) _ (by omega) ?_
    split
    · exact or_lt c hc _ (by omega)
    · exact hc
set_option maxRecDepth 20000 in
theorem l_step (hA : ∀ k j, sb (A k j)) (hL : Lay sh gr) (hW : WayOk A) (hN : NotchOk A) (hP : PlaceOk A) (hz : 0 ≤ A 2 11 ∧ A 2 11 < 5) : ∀ (n i c : Nat) (ls : Lc), (i : Int) + n = A 2 10 → c < 64 → nl ls = true → lget ls 0 = some (.ref 2) → lget ls 1 = some (.int (oi (c : Int))) → lget ls 2 = some (.int (oi (i : Int))) →
    (Ev (74, 4, ls, [], (sh, oA A, gl, gr), sl) r ↔ r = (.inl (some (.int (oi ((movedF A n i c : Nat) : Int)))), (sh, oA (moveF 1 (movedF A n i c) A), gl, gr), sl)) := by
  have w4 := hW.2.2.2.1
  intro n
  induction n with
  | zero =>
    intro i c ls hn hc g g0 g1 g2
    have e0 : sb (i : Int) := ⟨by omega, by omega⟩
    have e1 : A 2 10 ≤ (i : Int) := by omega
    have cm := fun (sl : Nat) (r : Out) => m_move (gl := gl) (sl := sl) (r := r) hA hL hW.pos hP (b := 1) (Or.inl rfl) hc
    rw [EvU_iff (fun _ => false) 20]
    simp (maxDischargeDepth := 9) [EvS, stI, enI, caI, s_push, s_iload, s_aload, s_istore, s_astore, s_iinc, s_bin, s_div, s_i2l, s_lcmp, s_dup, s_dup2, s_pop, s_tab, s_look, s_get, s_put, s_iald, s_lald, s_aald, s_iast, s_last, s_aast, s_len, s_newa, s_new, s_thr, s_min, s_copy, s_obj, s_call, s_iret, s_aret, s_vret, go, ldI, lget_lput, nl_I, nl_R, lv_args, wsum, va_rf, hnd, cvr, cat_i, cat_r, cat_l, oi_of, oi_add, oi_sub, oA_ap, oA_u2, pi_lt, pi_le, pi_eq, pi_eq0, pi_lt0, pi_le0, pi_gt0, pi_ge0, pi_cl, sb_lit, fv4, isB01, nlt0, EvU_0, wO_ne, wL_ne, wC_ne, wN_ne, pO_ne, pU_ne, CN, LN, -Prod.exists, pi_ti, Op.lookupswitch.offset, EvU_at d74_0, EvU_at d74_1, EvU_at d74_2, EvU_at d74_3, EvU_at d74_4, EvU_at d74_5, EvU_at d74_6, EvU_at d74_9, EvU_at d74_12, EvU_at d74_13, EvU_at d74_14, EvU_at d74_17, EvU_at d74_20, EvU_at d74_21, EvU_at d74_22, EvU_at d74_23, EvU_at d74_26, EvU_at d74_27, EvU_at d74_28, EvU_at d74_29, EvU_at d74_30, EvU_at d74_31, EvU_at d74_34, EvU_at d74_37, EvU_at d74_38, EvU_at d74_39, EvU_at d74_40, EvU_at d74_43, EvU_at d74_44, Z74, Z78, LyS hL, LyG hL, hA, g, g0, g1, g2, e0, e1, movedF, cm]
  | succ n ih =>
    intro i c ls hn hc g g0 g1 g2
    have hi : (i : Int) < A 2 10 := by omega
    obtain ⟨o0, o1, -, -⟩ := hW.2.2.2.2.1 i hi
    have e0 : sb (i : Int) := ⟨by omega, by omega⟩
    have e1 : ¬ A 2 10 ≤ (i : Int) := by omega
    have e2 : ¬ 6 ≤ i := by omega
    have hx := or_oi c hc (A 5 i).toNat (by omega)
    rw [show (((A 5 i).toNat : Nat) : Int) = A 5 i by omega] at hx
    have cs := fun (sl : Nat) (r : Out) => m_doesStep (gl := gl) (sl := sl) (r := r) hA hL hW hN hP.pin hz hi
    rw [EvU_iff (fun _ => false) 1]
    simp (maxDischargeDepth := 9) [EvS, stI, enI, caI, s_push, s_iload, s_aload, s_istore, s_astore, s_iinc, s_bin, s_div, s_i2l, s_lcmp, s_dup, s_dup2, s_pop, s_tab, s_look, s_get, s_put, s_iald, s_lald, s_aald, s_iast, s_last, s_aast, s_len, s_newa, s_new, s_thr, s_min, s_copy, s_obj, s_call, s_iret, s_aret, s_vret, go, ldI, lget_lput, nl_I, nl_R, lv_args, wsum, va_rf, hnd, cvr, cat_i, cat_r, cat_l, oi_of, oi_add, oi_sub, oA_ap, oA_u2, pi_lt, pi_le, pi_eq, pi_eq0, pi_lt0, pi_le0, pi_gt0, pi_ge0, pi_cl, sb_lit, fv4, isB01, nlt0, EvU_0, wO_ne, wL_ne, wC_ne, wN_ne, pO_ne, pU_ne, CN, LN, -Prod.exists, pi_ti, Op.lookupswitch.offset, EvU_at d74_0, EvU_at d74_1, EvU_at d74_2, EvU_at d74_3, EvU_at d74_4, EvU_at d74_5, EvU_at d74_6, EvU_at d74_9, EvU_at d74_12, EvU_at d74_13, EvU_at d74_14, EvU_at d74_17, EvU_at d74_20, EvU_at d74_21, EvU_at d74_22, EvU_at d74_23, EvU_at d74_26, EvU_at d74_27, EvU_at d74_28, EvU_at d74_29, EvU_at d74_30, EvU_at d74_31, EvU_at d74_34, EvU_at d74_37, EvU_at d74_38, EvU_at d74_39, EvU_at d74_40, EvU_at d74_43, EvU_at d74_44, Z74, LyS hL, LyG hL, hA, g, g0, g1, g2, e0]
    rw [EvU_iff (fun p => p == 4) 60]
    rcases stepB01 (A := A) i with u1 | u1
    · simp (maxDischargeDepth := 9) [EvS, stI, enI, caI, s_push, s_iload, s_aload, s_istore, s_astore, s_iinc, s_bin, s_div, s_i2l, s_lcmp, s_dup, s_dup2, s_pop, s_tab, s_look, s_get, s_put, s_iald, s_lald, s_aald, s_iast, s_last, s_aast, s_len, s_newa, s_new, s_thr, s_min, s_copy, s_obj, s_call, s_iret, s_aret, s_vret, go, ldI, lget_lput, nl_I, nl_R, lv_args, wsum, va_rf, hnd, cvr, cat_i, cat_r, cat_l, oi_of, oi_add, oi_sub, oA_ap, oA_u2, pi_lt, pi_le, pi_eq, pi_eq0, pi_lt0, pi_le0, pi_gt0, pi_ge0, pi_cl, sb_lit, fv4, isB01, nlt0, EvU_0, wO_ne, wL_ne, wC_ne, wN_ne, pO_ne, pU_ne, CN, LN, -Prod.exists, pi_ti, Op.lookupswitch.offset, EvU_at d74_0, EvU_at d74_1, EvU_at d74_2, EvU_at d74_3, EvU_at d74_4, EvU_at d74_5, EvU_at d74_6, EvU_at d74_9, EvU_at d74_12, EvU_at d74_13, EvU_at d74_14, EvU_at d74_17, EvU_at d74_20, EvU_at d74_21, EvU_at d74_22, EvU_at d74_23, EvU_at d74_26, EvU_at d74_27, EvU_at d74_28, EvU_at d74_29, EvU_at d74_30, EvU_at d74_31, EvU_at d74_34, EvU_at d74_37, EvU_at d74_38, EvU_at d74_39, EvU_at d74_40, EvU_at d74_43, EvU_at d74_44, Z74, Z75, LyS hL, LyG hL, hA, g, g0, g1, g2, e0, e1, e2, cs, u1, movedF]
      refine ih (i + 1) c _ ?_ hc ?_ ?_ ?_ ?_
      · omega
      · simp (maxDischargeDepth := 9) [lget_lput, nl_I, nl_R, g]
      · simp (maxDischargeDepth := 9) [lget_lput, nl_I, nl_R, g, g0]
      · simp (maxDischargeDepth := 9) [lget_lput, nl_I, nl_R, g, g1]
      · simp (maxDischargeDepth := 9) [lget_lput, nl_I, nl_R, g]
    · simp (maxDischargeDepth := 9) [EvS, stI, enI, caI, s_push, s_iload, s_aload, s_istore, s_astore, s_iinc, s_bin, s_div, s_i2l, s_lcmp, s_dup, s_dup2, s_pop, s_tab, s_look, s_get, s_put, s_iald, s_lald, s_aald, s_iast, s_last, s_aast, s_len, s_newa, s_new, s_thr, s_min, s_copy, s_obj, s_call, s_iret, s_aret, s_vret, go, ldI, lget_lput, nl_I, nl_R, lv_args, wsum, va_rf, hnd, cvr, cat_i, cat_r, cat_l, oi_of, oi_add, oi_sub, oA_ap, oA_u2, pi_lt, pi_le, pi_eq, pi_eq0, pi_lt0, pi_le0, pi_gt0, pi_ge0, pi_cl, sb_lit, fv4, isB01, nlt0, EvU_0, wO_ne, wL_ne, wC_ne, wN_ne, pO_ne, pU_ne, CN, LN, -Prod.exists, pi_ti, Op.lookupswitch.offset, EvU_at d74_0, EvU_at d74_1, EvU_at d74_2, EvU_at d74_3, EvU_at d74_4, EvU_at d74_5, EvU_at d74_6, EvU_at d74_9, EvU_at d74_12, EvU_at d74_13, EvU_at d74_14, EvU_at d74_17, EvU_at d74_20, EvU_at d74_21, EvU_at d74_22, EvU_at d74_23, EvU_at d74_26, EvU_at d74_27, EvU_at d74_28, EvU_at d74_29, EvU_at d74_30, EvU_at d74_31, EvU_at d74_34, EvU_at d74_37, EvU_at d74_38, EvU_at d74_39, EvU_at d74_40, EvU_at d74_43, EvU_at d74_44, Z74, Z75, LyS hL, LyG hL, hA, g, g0, g1, g2, e0, e1, e2, cs, u1, movedF]
      refine ih (i + 1) (c ||| 2 ^ (A 5 i).toNat) _ ?_ (or_lt c hc _ (by omega)) ?_ ?_ ?_ ?_
      · omega
      · simp (maxDischargeDepth := 9) [lget_lput, nl_I, nl_R, g]
      · simp (maxDischargeDepth := 9) [lget_lput, nl_I, nl_R, g, g0]
      · simp (maxDischargeDepth := 9) [lget_lput, nl_I, nl_R, g]
        exact hx
      · simp (maxDischargeDepth := 9) [lget_lput, nl_I, nl_R, g]
/-- the bits of one step from here -/
def bitsF (A : Nat → Nat → Int) : Nat := movedF A (A 2 10).toNat 0 0
set_option maxRecDepth 20000 in
theorem m_step (hA : ∀ k j, sb (A k j)) (hL : Lay sh gr) (hW : WayOk A) (hN : NotchOk A) (hP : PlaceOk A) (hz : 0 ≤ A 2 11 ∧ A 2 11 < 5) : Ev (74, 0, [(0, .ref 2)], [], (sh, oA A, gl, gr), sl) r ↔ r = (.inl (some (.int (oi ((bitsF A : Nat) : Int)))), (sh, oA (moveF 1 (bitsF A) A), gl, gr), sl) := by
  have w3 := hW.2.2.1
  rw [EvU_iff (fun p => p == 4) 10]
  simp [EvS, stI, enI, caI, s_push, s_iload, s_aload, s_istore, s_astore, s_iinc, s_bin, s_div, s_i2l, s_lcmp, s_dup, s_dup2, s_pop, s_tab, s_look, s_get, s_put, s_iald, s_lald, s_aald, s_iast, s_last, s_aast, s_len, s_newa, s_new, s_thr, s_min, s_copy, s_obj, s_call, s_iret, s_aret, s_vret, go, ldI, lget, lput, lv_args, wsum, va_rf, hnd, cvr, cat_i, cat_r, cat_l, oi_of, oi_add, oi_sub, oA_ap, oA_u2, pi_lt, pi_le, pi_eq, pi_eq0, pi_lt0, pi_le0, pi_gt0, pi_ge0, pi_cl, sb_lit, fv4, isB01, nlt0, EvU_0, wO_ne, wL_ne, wC_ne, wN_ne, pO_ne, pU_ne, CN, LN, -Prod.exists, pi_ti, Op.lookupswitch.offset, EvU_at d74_0, EvU_at d74_1, EvU_at d74_2, EvU_at d74_3, EvU_at d74_4, EvU_at d74_5, EvU_at d74_6, EvU_at d74_9, EvU_at d74_12, EvU_at d74_13, EvU_at d74_14, EvU_at d74_17, EvU_at d74_20, EvU_at d74_21, EvU_at d74_22, EvU_at d74_23, EvU_at d74_26, EvU_at d74_27, EvU_at d74_28, EvU_at d74_29, EvU_at d74_30, EvU_at d74_31, EvU_at d74_34, EvU_at d74_37, EvU_at d74_38, EvU_at d74_39, EvU_at d74_40, EvU_at d74_43, EvU_at d74_44, Z74, LyS hL]
  refine l_step hA hL hW hN hP hz (A 2 10).toNat 0 0 _ ?_ (by omega) ?_ ?_ ?_ ?_
  · omega
  · simp [nl, cat_i, cat_r]
  · simp [lget, cat_i, cat_r]
  · simp [lget, cat_i, cat_r]
  · simp [lget, cat_i, cat_r]
set_option maxRecDepth 20000 in
theorem m_stepBack (hA : ∀ k j, sb (A k j)) (hL : Lay sh gr) (hQ : PosOk A) (hP : PlaceOk A) {c : Nat} (hc : c < 64) : Ev (91, 0, [(0, .ref 2), (1, .int (oi (c : Int)))], [], (sh, oA A, gl, gr), sl) r ↔ r = (.inl none, (sh, oA (moveF (-1) c A), gl, gr), sl) := by
  have cm := fun (sl : Nat) (r : Out) => m_move (gl := gl) (sl := sl) (r := r) hA hL hQ hP (b := -1) (Or.inr rfl) hc
  rw [EvU_iff (fun _ => false) 10]
  simp [EvS, stI, enI, caI, s_push, s_iload, s_aload, s_istore, s_astore, s_iinc, s_bin, s_div, s_i2l, s_lcmp, s_dup, s_dup2, s_pop, s_tab, s_look, s_get, s_put, s_iald, s_lald, s_aald, s_iast, s_last, s_aast, s_len, s_newa, s_new, s_thr, s_min, s_copy, s_obj, s_call, s_iret, s_aret, s_vret, go, ldI, lget, lput, lv_args, wsum, va_rf, hnd, cvr, cat_i, cat_r, cat_l, oi_of, oi_add, oi_sub, oA_ap, oA_u2, pi_lt, pi_le, pi_eq, pi_eq0, pi_lt0, pi_le0, pi_gt0, pi_ge0, pi_cl, sb_lit, fv4, isB01, nlt0, EvU_0, wO_ne, wL_ne, wC_ne, wN_ne, pO_ne, pU_ne, CN, LN, -Prod.exists, pi_ti, Op.lookupswitch.offset, EvU_at d91_0, EvU_at d91_1, EvU_at d91_2, EvU_at d91_3, EvU_at d91_6, Z91, Z78, LyS hL, cm]
set_option maxRecDepth 20000 in
theorem m_lead (hA : ∀ k j, sb (A k j)) (hL : Lay sh gr) {w : Nat} {a b : Int} (hw : w < 8) (a0 : 0 ≤ a) (ha : a < 32) (b0 : 0 ≤ b) (hb : b < 32) (h1 : 0 ≤ A (wC w) b.toNat ∧ A (wC w) b.toNat < 32) (h2 : 0 ≤ A (wL w) a.toNat ∧ A (wL w) a.toNat < 32) : Ev (35, 0, [(0, .ref (wO w)), (1, .int (oi a)), (2, .int (oi b))], [], (sh, oA A, gl, gr), sl) r ↔
    r = (.inl (some (.int (oi (A (wC w) b.toNat)))), (sh, oA (u2 (u2 (u2 (u2 A (wL w) (A (wC w) b.toNat).toNat (A (wL w) a.toNat)) (wC w) (A (wL w) a.toNat).toNat (A (wC w) b.toNat)) (wL w) a.toNat b) (wC w) b.toNat a), gl, gr), sl) := by
  have e0 : sb a := ⟨by omega, by omega⟩
  have e1 : ¬ 32 ≤ a.toNat := by omega
  have e2 : sb b := ⟨by omega, by omega⟩
  have e3 : ¬ 32 ≤ b.toNat := by omega
  have e4 : ¬ a < 0 := by omega
  have e5 : ¬ b < 0 := by omega
  have j1 := fun (sl : Nat) (r : Out) => m_wjoin (gl := gl) (sl := sl) (r := r) hA hL hw h1.1 h1.2 h2.1 h2.2
  have hA' := sb_u2 (sb_u2 hA (hA (wL w) a.toNat) (wL w) (A (wC w) b.toNat).toNat) (hA (wC w) b.toNat) (wC w) (A (wL w) a.toNat).toNat
  have j2 := fun (sl : Nat) (r : Out) => m_wjoin (gl := gl) (sl := sl) (r := r) hA' hL hw a0 ha b0 hb
  rw [EvU_iff (fun _ => false) 40]
  simp [EvS, stI, enI, caI, s_push, s_iload, s_aload, s_istore, s_astore, s_iinc, s_bin, s_div, s_i2l, s_lcmp, s_dup, s_dup2, s_pop, s_tab, s_look, s_get, s_put, s_iald, s_lald, s_aald, s_iast, s_last, s_aast, s_len, s_newa, s_new, s_thr, s_min, s_copy, s_obj, s_call, s_iret, s_aret, s_vret, go, ldI, lget, lput, lv_args, wsum, va_rf, hnd, cvr, cat_i, cat_r, cat_l, oi_of, oi_add, oi_sub, oA_ap, oA_u2, pi_lt, pi_le, pi_eq, pi_eq0, pi_lt0, pi_le0, pi_gt0, pi_ge0, pi_cl, sb_lit, fv4, isB01, nlt0, EvU_0, wO_ne, wL_ne, wC_ne, wN_ne, pO_ne, pU_ne, CN, LN, -Prod.exists, pi_ti, Op.lookupswitch.offset, EvU_at d35_0, EvU_at d35_1, EvU_at d35_4, EvU_at d35_5, EvU_at d35_6, EvU_at d35_7, EvU_at d35_8, EvU_at d35_11, EvU_at d35_12, EvU_at d35_13, EvU_at d35_15, EvU_at d35_16, EvU_at d35_17, EvU_at d35_19, EvU_at d35_22, EvU_at d35_23, EvU_at d35_24, EvU_at d35_25, EvU_at d35_28, EvU_at d35_29, Z35, Z36, LyW hL hw, hA, e0, e1, e2, e3, e4, e5, j1, j2]
set_option maxRecDepth 20000 in
theorem m_split (hA : ∀ k j, sb (A k j)) (hL : Lay sh gr) {q : Nat} (hq : q = 9 ∨ q = 11) {a : Int} (a0 : 0 ≤ a) (ha : a < 32) (h1 : 0 ≤ A (q + 1) a.toNat ∧ A (q + 1) a.toNat < 32) : Ev (54, 0, [(0, .ref q), (1, .int (oi a))], [], (sh, oA A, gl, gr), sl) r ↔
    r = (.inl (some (.int (oi (A (q + 1) a.toNat)))), (sh, oA (u2 (u2 (u2 A (q + 1) a.toNat a) (q + 1) (A (q + 1) a.toNat).toNat (A (q + 1) a.toNat)) q 1 (A q 1 - 1)), gl, gr), sl) := by
  rw [EvU_iff (fun _ => false) 40]
  have e0 : sb a := ⟨by omega, by omega⟩
  have e1 : ¬ 32 ≤ a.toNat := by omega
  have e4 : ¬ a < 0 := by omega
  have e2 : ¬ A (q + 1) a.toNat < 0 := by omega
  have e3 : ¬ 32 ≤ (A (q + 1) a.toNat).toNat := by omega
  rcases hq with rfl | rfl
  · have e6 : u2 (u2 A 10 a.toNat a) 10 (A 10 a.toNat).toNat (A 10 a.toNat) 9 1 = A 9 1 := by simp [u2]
    simp [EvS, stI, enI, caI, s_push, s_iload, s_aload, s_istore, s_astore, s_iinc, s_bin, s_div, s_i2l, s_lcmp, s_dup, s_dup2, s_pop, s_tab, s_look, s_get, s_put, s_iald, s_lald, s_aald, s_iast, s_last, s_aast, s_len, s_newa, s_new, s_thr, s_min, s_copy, s_obj, s_call, s_iret, s_aret, s_vret, go, ldI, lget, lput, lv_args, wsum, va_rf, hnd, cvr, cat_i, cat_r, cat_l, oi_of, oi_add, oi_sub, oA_ap, oA_u2, pi_lt, pi_le, pi_eq, pi_eq0, pi_lt0, pi_le0, pi_gt0, pi_ge0, pi_cl, sb_lit, fv4, isB01, nlt0, EvU_0, wO_ne, wL_ne, wC_ne, wN_ne, pO_ne, pU_ne, CN, LN, -Prod.exists, pi_ti, Op.lookupswitch.offset, EvU_at d54_0, EvU_at d54_1, EvU_at d54_4, EvU_at d54_5, EvU_at d54_6, EvU_at d54_7, EvU_at d54_8, EvU_at d54_11, EvU_at d54_12, EvU_at d54_13, EvU_at d54_14, EvU_at d54_15, EvU_at d54_18, EvU_at d54_19, EvU_at d54_20, EvU_at d54_21, EvU_at d54_22, EvU_at d54_23, EvU_at d54_26, EvU_at d54_27, EvU_at d54_28, EvU_at d54_31, EvU_at d54_32, Z54, LyS hL, LyG hL, hA, e0, e1, e2, e3, e4, e6]
  · have e6 : u2 (u2 A 12 a.toNat a) 12 (A 12 a.toNat).toNat (A 12 a.toNat) 11 1 = A 11 1 := by simp [u2]
    simp [EvS, stI, enI, caI, s_push, s_iload, s_aload, s_istore, s_astore, s_iinc, s_bin, s_div, s_i2l, s_lcmp, s_dup, s_dup2, s_pop, s_tab, s_look, s_get, s_put, s_iald, s_lald, s_aald, s_iast, s_last, s_aast, s_len, s_newa, s_new, s_thr, s_min, s_copy, s_obj, s_call, s_iret, s_aret, s_vret, go, ldI, lget, lput, lv_args, wsum, va_rf, hnd, cvr, cat_i, cat_r, cat_l, oi_of, oi_add, oi_sub, oA_ap, oA_u2, pi_lt, pi_le, pi_eq, pi_eq0, pi_lt0, pi_le0, pi_gt0, pi_ge0, pi_cl, sb_lit, fv4, isB01, nlt0, EvU_0, wO_ne, wL_ne, wC_ne, wN_ne, pO_ne, pU_ne, CN, LN, -Prod.exists, pi_ti, Op.lookupswitch.offset, EvU_at d54_0, EvU_at d54_1, EvU_at d54_4, EvU_at d54_5, EvU_at d54_6, EvU_at d54_7, EvU_at d54_8, EvU_at d54_11, EvU_at d54_12, EvU_at d54_13, EvU_at d54_14, EvU_at d54_15, EvU_at d54_18, EvU_at d54_19, EvU_at d54_20, EvU_at d54_21, EvU_at d54_22, EvU_at d54_23, EvU_at d54_26, EvU_at d54_27, EvU_at d54_28, EvU_at d54_31, EvU_at d54_32, Z54, LyS hL, LyG hL, hA, e0, e1, e2, e3, e4, e6]
end
