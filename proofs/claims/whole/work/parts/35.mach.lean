/-! Machine.clear, standAs -/
section
variable {sh : List (Nat × Nat)} {A : Nat → Nat → Int} {gl : Nat → Nat → Int64} {gr : Nat → Nat → Option Nat} {sl : Nat} {r : Out}
def clrP : Nat → Nat → (Nat → Nat → Int) → Nat → Nat → Int
  | 0, _, A => A
  | n + 1, k, A => clrP n (k + 1) (u2 (fillR A (pU k) 0 61 (fun _ => 0)) (pO k) 1 0)
def clrW : Nat → Nat → (Nat → Nat → Int) → Nat → Nat → Int
  | 0, _, A => A
  | n + 1, w, A => clrW n (w + 1) (u2 (wclr A w 0) (wO w) 3 0)
/-- what is left after the loops -/
def clrM (A : Nat → Nat → Int) (m : Int) : Nat → Nat → Int :=
  u2 (u2 (u2 (u2 (u2 (fillR (fillR (u2 (fillR (u2 (fillR (fillR (fillR (fillR A 4 0 6 (fun _ => -1)) 7 0 27 (fun _ => -1)) 8 0 27 (fun _ => -1)) 10 0 32 (fun j => (j : Int))) 9 1 0) 12 0 32 (fun j => (j : Int))) 11 1 0) 14 0 6 (fun _ => 0)) 15 0 12 (fun _ => 0)) 2 9 m) 2 10 0) 2 11 0) 2 12 0) 2 13 0
set_option maxRecDepth 20000 in
theorem l_clrP (hL : Lay sh gr) {m : Int} : ∀ (n k : Nat) (A : Nat → Nat → Int) (ls : Lc), k + n = 12 → nl ls = true → lget ls 0 = some (.ref 2) → lget ls 1 = some (.int (oi m)) → lget ls 2 = some (.int (oi (k : Int))) →
    (Ev (10, 25, ls, [], (sh, oA A, gl, gr), sl) r ↔ r = (.inl none, (sh, oA (clrM (clrP n k A) m), gl, gr), sl)) := by
  intro n
  induction n with
  | zero =>
    intro k A ls hn g g0 g1 g2
    have e0 : sb (k : Int) := ⟨by omega, by omega⟩
    have e1 : (12 : Int) ≤ (k : Int) := by omega
    have s4 : sh[4]? = some (100, 6) := by simp [LyS hL]
    have s7 : sh[7]? = some (100, 27) := by simp [LyS hL]
    have s8 : sh[8]? = some (100, 27) := by simp [LyS hL]
    have c4 := fun (A : Nat → Nat → Int) (sl : Nat) (r : Out) => m_fill (gl := gl) (gr := gr) (A := A) (sl := sl) (r := r) s4 (by omega) (by omega) (-1)
    have c7 := fun (A : Nat → Nat → Int) (sl : Nat) (r : Out) => m_fill (gl := gl) (gr := gr) (A := A) (sl := sl) (r := r) s7 (by omega) (by omega) (-1)
    have c8 := fun (A : Nat → Nat → Int) (sl : Nat) (r : Out) => m_fill (gl := gl) (gr := gr) (A := A) (sl := sl) (r := r) s8 (by omega) (by omega) (-1)
    have c9 := fun (A : Nat → Nat → Int) (sl : Nat) (r : Out) => m_pclear (gl := gl) (A := A) (sl := sl) (r := r) hL (Or.inl rfl : (9 : Nat) = 9 ∨ 9 = 11)
    have c11 := fun (A : Nat → Nat → Int) (sl : Nat) (r : Out) => m_pclear (gl := gl) (A := A) (sl := sl) (r := r) hL (Or.inr rfl : (11 : Nat) = 9 ∨ 11 = 11)
    have c13 := fun (A : Nat → Nat → Int) (sl : Nat) (r : Out) => m_standClear (gl := gl) (A := A) (sl := sl) (r := r) (St_m hL)
    rw [EvU_iff (fun _ => false) 60]
    simp (maxDischargeDepth := 9) [EvS, stI, enI, caI, s_push, s_iload, s_aload, s_istore, s_astore, s_iinc, s_bin, s_div, s_i2l, s_lcmp, s_dup, s_dup2, s_pop, s_tab, s_look, s_get, s_put, s_iald, s_lald, s_aald, s_iast, s_last, s_aast, s_len, s_newa, s_new, s_thr, s_min, s_copy, s_obj, s_call, s_iret, s_aret, s_vret, go, ldI, lget_lput, nl_I, nl_R, lv_args, wsum, va_rf, hnd, cvr, cat_i, cat_r, cat_l, oi_of, oi_add, oi_sub, oA_ap, oA_u2, pi_lt, pi_le, pi_eq, pi_eq0, pi_lt0, pi_le0, pi_gt0, pi_ge0, pi_cl, sb_lit, fv4, isB01, nlt0, EvU_0, wO_ne, wL_ne, wC_ne, wN_ne, pO_ne, pU_ne, CN, LN, -Prod.exists, pi_ti, Op.lookupswitch.offset, EvU_at d10_0, EvU_at d10_1, EvU_at d10_2, EvU_at d10_3, EvU_at d10_5, EvU_at d10_8, EvU_at d10_9, EvU_at d10_12, EvU_at d10_13, EvU_at d10_14, EvU_at d10_17, EvU_at d10_20, EvU_at d10_23, EvU_at d10_24, EvU_at d10_25, EvU_at d10_26, EvU_at d10_28, EvU_at d10_31, EvU_at d10_32, EvU_at d10_35, EvU_at d10_36, EvU_at d10_37, EvU_at d10_38, EvU_at d10_41, EvU_at d10_44, EvU_at d10_47, EvU_at d10_48, EvU_at d10_51, EvU_at d10_52, EvU_at d10_55, EvU_at d10_56, EvU_at d10_59, EvU_at d10_60, EvU_at d10_63, EvU_at d10_64, EvU_at d10_67, EvU_at d10_68, EvU_at d10_71, EvU_at d10_72, EvU_at d10_75, EvU_at d10_78, EvU_at d10_79, EvU_at d10_82, EvU_at d10_85, EvU_at d10_86, EvU_at d10_89, EvU_at d10_92, EvU_at d10_93, EvU_at d10_94, EvU_at d10_97, EvU_at d10_98, EvU_at d10_99, EvU_at d10_102, EvU_at d10_103, EvU_at d10_104, EvU_at d10_107, EvU_at d10_108, EvU_at d10_109, EvU_at d10_112, EvU_at d10_113, EvU_at d10_114, EvU_at d10_117, Z10, Z13, Z14, Z15, LyS hL, LyG hL, g, g0, g1, g2, e0, e1, c4, c7, c8, c9, c11, c13, clrP, clrM]
  | succ n ih =>
    intro k A ls hn g g0 g1 g2
    have hk : k < 12 := by omega
    have e0 : sb (k : Int) := ⟨by omega, by omega⟩
    have e1 : ¬ (12 : Int) ≤ (k : Int) := by omega
    have e2 : ¬ 12 ≤ k := by omega
    have cc := fun (sl : Nat) (r : Out) => m_cut (gl := gl) (A := A) (sl := sl) (r := r) hL hk 0
    rw [EvU_iff (fun _ => false) 1]
    simp (maxDischargeDepth := 9) [EvS, stI, enI, caI, s_push, s_iload, s_aload, s_istore, s_astore, s_iinc, s_bin, s_div, s_i2l, s_lcmp, s_dup, s_dup2, s_pop, s_tab, s_look, s_get, s_put, s_iald, s_lald, s_aald, s_iast, s_last, s_aast, s_len, s_newa, s_new, s_thr, s_min, s_copy, s_obj, s_call, s_iret, s_aret, s_vret, go, ldI, lget_lput, nl_I, nl_R, lv_args, wsum, va_rf, hnd, cvr, cat_i, cat_r, cat_l, oi_of, oi_add, oi_sub, oA_ap, oA_u2, pi_lt, pi_le, pi_eq, pi_eq0, pi_lt0, pi_le0, pi_gt0, pi_ge0, pi_cl, sb_lit, fv4, isB01, nlt0, EvU_0, wO_ne, wL_ne, wC_ne, wN_ne, pO_ne, pU_ne, CN, LN, -Prod.exists, pi_ti, Op.lookupswitch.offset, EvU_at d10_0, EvU_at d10_1, EvU_at d10_2, EvU_at d10_3, EvU_at d10_5, EvU_at d10_8, EvU_at d10_9, EvU_at d10_12, EvU_at d10_13, EvU_at d10_14, EvU_at d10_17, EvU_at d10_20, EvU_at d10_23, EvU_at d10_24, EvU_at d10_25, EvU_at d10_26, EvU_at d10_28, EvU_at d10_31, EvU_at d10_32, EvU_at d10_35, EvU_at d10_36, EvU_at d10_37, EvU_at d10_38, EvU_at d10_41, EvU_at d10_44, EvU_at d10_47, EvU_at d10_48, EvU_at d10_51, EvU_at d10_52, EvU_at d10_55, EvU_at d10_56, EvU_at d10_59, EvU_at d10_60, EvU_at d10_63, EvU_at d10_64, EvU_at d10_67, EvU_at d10_68, EvU_at d10_71, EvU_at d10_72, EvU_at d10_75, EvU_at d10_78, EvU_at d10_79, EvU_at d10_82, EvU_at d10_85, EvU_at d10_86, EvU_at d10_89, EvU_at d10_92, EvU_at d10_93, EvU_at d10_94, EvU_at d10_97, EvU_at d10_98, EvU_at d10_99, EvU_at d10_102, EvU_at d10_103, EvU_at d10_104, EvU_at d10_107, EvU_at d10_108, EvU_at d10_109, EvU_at d10_112, EvU_at d10_113, EvU_at d10_114, EvU_at d10_117, Z10, LyS hL, LyG hL, g, g0, g1, g2, e0]
    rw [EvU_iff (fun p => p == 25) 60]
    simp (maxDischargeDepth := 9) [EvS, stI, enI, caI, s_push, s_iload, s_aload, s_istore, s_astore, s_iinc, s_bin, s_div, s_i2l, s_lcmp, s_dup, s_dup2, s_pop, s_tab, s_look, s_get, s_put, s_iald, s_lald, s_aald, s_iast, s_last, s_aast, s_len, s_newa, s_new, s_thr, s_min, s_copy, s_obj, s_call, s_iret, s_aret, s_vret, go, ldI, lget_lput, nl_I, nl_R, lv_args, wsum, va_rf, hnd, cvr, cat_i, cat_r, cat_l, oi_of, oi_add, oi_sub, oA_ap, oA_u2, pi_lt, pi_le, pi_eq, pi_eq0, pi_lt0, pi_le0, pi_gt0, pi_ge0, pi_cl, sb_lit, fv4, isB01, nlt0, EvU_0, wO_ne, wL_ne, wC_ne, wN_ne, pO_ne, pU_ne, CN, LN, -Prod.exists, pi_ti, Op.lookupswitch.offset, EvU_at d10_0, EvU_at d10_1, EvU_at d10_2, EvU_at d10_3, EvU_at d10_5, EvU_at d10_8, EvU_at d10_9, EvU_at d10_12, EvU_at d10_13, EvU_at d10_14, EvU_at d10_17, EvU_at d10_20, EvU_at d10_23, EvU_at d10_24, EvU_at d10_25, EvU_at d10_26, EvU_at d10_28, EvU_at d10_31, EvU_at d10_32, EvU_at d10_35, EvU_at d10_36, EvU_at d10_37, EvU_at d10_38, EvU_at d10_41, EvU_at d10_44, EvU_at d10_47, EvU_at d10_48, EvU_at d10_51, EvU_at d10_52, EvU_at d10_55, EvU_at d10_56, EvU_at d10_59, EvU_at d10_60, EvU_at d10_63, EvU_at d10_64, EvU_at d10_67, EvU_at d10_68, EvU_at d10_71, EvU_at d10_72, EvU_at d10_75, EvU_at d10_78, EvU_at d10_79, EvU_at d10_82, EvU_at d10_85, EvU_at d10_86, EvU_at d10_89, EvU_at d10_92, EvU_at d10_93, EvU_at d10_94, EvU_at d10_97, EvU_at d10_98, EvU_at d10_99, EvU_at d10_102, EvU_at d10_103, EvU_at d10_104, EvU_at d10_107, EvU_at d10_108, EvU_at d10_109, EvU_at d10_112, EvU_at d10_113, EvU_at d10_114, EvU_at d10_117, Z10, Z12, LyS hL, LyG hL, LyP hL hk, g, g0, g1, g2, e0, e1, e2, cc, clrP]
    refine ih (k + 1) _ _ ?_ ?_ ?_ ?_ ?_
    · omega
    · simp (maxDischargeDepth := 9) [lget_lput, nl_I, nl_R, g]
    · simp (maxDischargeDepth := 9) [lget_lput, nl_I, nl_R, g, g0]
    · simp (maxDischargeDepth := 9) [lget_lput, nl_I, nl_R, g, g1]
    · simp (maxDischargeDepth := 9) [lget_lput, nl_I, nl_R, g]
set_option maxRecDepth 20000 in
theorem l_clrW (hL : Lay sh gr) {m : Int} : ∀ (n k : Nat) (A : Nat → Nat → Int) (ls : Lc), k + n = 8 → nl ls = true → lget ls 0 = some (.ref 2) → lget ls 1 = some (.int (oi m)) → lget ls 2 = some (.int (oi (k : Int))) →
    (Ev (10, 2, ls, [], (sh, oA A, gl, gr), sl) r ↔ r = (.inl none, (sh, oA (clrM (clrP 12 0 (clrW n k A)) m), gl, gr), sl)) := by
  intro n
  induction n with
  | zero =>
    intro k A ls hn g g0 g1 g2
    have e0 : sb (k : Int) := ⟨by omega, by omega⟩
    have e1 : (8 : Int) ≤ (k : Int) := by omega
    rw [EvU_iff (fun p => p == 25) 10]
    simp (maxDischargeDepth := 9) [EvS, stI, enI, caI, s_push, s_iload, s_aload, s_istore, s_astore, s_iinc, s_bin, s_div, s_i2l, s_lcmp, s_dup, s_dup2, s_pop, s_tab, s_look, s_get, s_put, s_iald, s_lald, s_aald, s_iast, s_last, s_aast, s_len, s_newa, s_new, s_thr, s_min, s_copy, s_obj, s_call, s_iret, s_aret, s_vret, go, ldI, lget_lput, nl_I, nl_R, lv_args, wsum, va_rf, hnd, cvr, cat_i, cat_r, cat_l, oi_of, oi_add, oi_sub, oA_ap, oA_u2, pi_lt, pi_le, pi_eq, pi_eq0, pi_lt0, pi_le0, pi_gt0, pi_ge0, pi_cl, sb_lit, fv4, isB01, nlt0, EvU_0, wO_ne, wL_ne, wC_ne, wN_ne, pO_ne, pU_ne, CN, LN, -Prod.exists, pi_ti, Op.lookupswitch.offset, EvU_at d10_0, EvU_at d10_1, EvU_at d10_2, EvU_at d10_3, EvU_at d10_5, EvU_at d10_8, EvU_at d10_9, EvU_at d10_12, EvU_at d10_13, EvU_at d10_14, EvU_at d10_17, EvU_at d10_20, EvU_at d10_23, EvU_at d10_24, EvU_at d10_25, EvU_at d10_26, EvU_at d10_28, EvU_at d10_31, EvU_at d10_32, EvU_at d10_35, EvU_at d10_36, EvU_at d10_37, EvU_at d10_38, EvU_at d10_41, EvU_at d10_44, EvU_at d10_47, EvU_at d10_48, EvU_at d10_51, EvU_at d10_52, EvU_at d10_55, EvU_at d10_56, EvU_at d10_59, EvU_at d10_60, EvU_at d10_63, EvU_at d10_64, EvU_at d10_67, EvU_at d10_68, EvU_at d10_71, EvU_at d10_72, EvU_at d10_75, EvU_at d10_78, EvU_at d10_79, EvU_at d10_82, EvU_at d10_85, EvU_at d10_86, EvU_at d10_89, EvU_at d10_92, EvU_at d10_93, EvU_at d10_94, EvU_at d10_97, EvU_at d10_98, EvU_at d10_99, EvU_at d10_102, EvU_at d10_103, EvU_at d10_104, EvU_at d10_107, EvU_at d10_108, EvU_at d10_109, EvU_at d10_112, EvU_at d10_113, EvU_at d10_114, EvU_at d10_117, Z10, LyS hL, LyG hL, g, g0, g1, g2, e0, e1]
    refine l_clrP hL 12 0 A _ rfl ?_ ?_ ?_ ?_
    · simp (maxDischargeDepth := 9) [lget_lput, nl_I, nl_R, g]
    · simp (maxDischargeDepth := 9) [lget_lput, nl_I, nl_R, g, g0]
    · simp (maxDischargeDepth := 9) [lget_lput, nl_I, nl_R, g, g1]
    · simp (maxDischargeDepth := 9) [lget_lput, nl_I, nl_R, g]
  | succ n ih =>
    intro k A ls hn g g0 g1 g2
    have hk : k < 8 := by omega
    have e0 : sb (k : Int) := ⟨by omega, by omega⟩
    have e1 : ¬ (8 : Int) ≤ (k : Int) := by omega
    have e2 : ¬ 8 ≤ k := by omega
    have cc := fun (sl : Nat) (r : Out) => m_wclear (gl := gl) (A := A) (sl := sl) (r := r) hL hk
    rw [EvU_iff (fun _ => false) 1]
    simp (maxDischargeDepth := 9) [EvS, stI, enI, caI, s_push, s_iload, s_aload, s_istore, s_astore, s_iinc, s_bin, s_div, s_i2l, s_lcmp, s_dup, s_dup2, s_pop, s_tab, s_look, s_get, s_put, s_iald, s_lald, s_aald, s_iast, s_last, s_aast, s_len, s_newa, s_new, s_thr, s_min, s_copy, s_obj, s_call, s_iret, s_aret, s_vret, go, ldI, lget_lput, nl_I, nl_R, lv_args, wsum, va_rf, hnd, cvr, cat_i, cat_r, cat_l, oi_of, oi_add, oi_sub, oA_ap, oA_u2, pi_lt, pi_le, pi_eq, pi_eq0, pi_lt0, pi_le0, pi_gt0, pi_ge0, pi_cl, sb_lit, fv4, isB01, nlt0, EvU_0, wO_ne, wL_ne, wC_ne, wN_ne, pO_ne, pU_ne, CN, LN, -Prod.exists, pi_ti, Op.lookupswitch.offset, EvU_at d10_0, EvU_at d10_1, EvU_at d10_2, EvU_at d10_3, EvU_at d10_5, EvU_at d10_8, EvU_at d10_9, EvU_at d10_12, EvU_at d10_13, EvU_at d10_14, EvU_at d10_17, EvU_at d10_20, EvU_at d10_23, EvU_at d10_24, EvU_at d10_25, EvU_at d10_26, EvU_at d10_28, EvU_at d10_31, EvU_at d10_32, EvU_at d10_35, EvU_at d10_36, EvU_at d10_37, EvU_at d10_38, EvU_at d10_41, EvU_at d10_44, EvU_at d10_47, EvU_at d10_48, EvU_at d10_51, EvU_at d10_52, EvU_at d10_55, EvU_at d10_56, EvU_at d10_59, EvU_at d10_60, EvU_at d10_63, EvU_at d10_64, EvU_at d10_67, EvU_at d10_68, EvU_at d10_71, EvU_at d10_72, EvU_at d10_75, EvU_at d10_78, EvU_at d10_79, EvU_at d10_82, EvU_at d10_85, EvU_at d10_86, EvU_at d10_89, EvU_at d10_92, EvU_at d10_93, EvU_at d10_94, EvU_at d10_97, EvU_at d10_98, EvU_at d10_99, EvU_at d10_102, EvU_at d10_103, EvU_at d10_104, EvU_at d10_107, EvU_at d10_108, EvU_at d10_109, EvU_at d10_112, EvU_at d10_113, EvU_at d10_114, EvU_at d10_117, Z10, LyS hL, LyG hL, g, g0, g1, g2, e0]
    rw [EvU_iff (fun p => p == 2) 60]
    simp (maxDischargeDepth := 9) [EvS, stI, enI, caI, s_push, s_iload, s_aload, s_istore, s_astore, s_iinc, s_bin, s_div, s_i2l, s_lcmp, s_dup, s_dup2, s_pop, s_tab, s_look, s_get, s_put, s_iald, s_lald, s_aald, s_iast, s_last, s_aast, s_len, s_newa, s_new, s_thr, s_min, s_copy, s_obj, s_call, s_iret, s_aret, s_vret, go, ldI, lget_lput, nl_I, nl_R, lv_args, wsum, va_rf, hnd, cvr, cat_i, cat_r, cat_l, oi_of, oi_add, oi_sub, oA_ap, oA_u2, pi_lt, pi_le, pi_eq, pi_eq0, pi_lt0, pi_le0, pi_gt0, pi_ge0, pi_cl, sb_lit, fv4, isB01, nlt0, EvU_0, wO_ne, wL_ne, wC_ne, wN_ne, pO_ne, pU_ne, CN, LN, -Prod.exists, pi_ti, Op.lookupswitch.offset, EvU_at d10_0, EvU_at d10_1, EvU_at d10_2, EvU_at d10_3, EvU_at d10_5, EvU_at d10_8, EvU_at d10_9, EvU_at d10_12, EvU_at d10_13, EvU_at d10_14, EvU_at d10_17, EvU_at d10_20, EvU_at d10_23, EvU_at d10_24, EvU_at d10_25, EvU_at d10_26, EvU_at d10_28, EvU_at d10_31, EvU_at d10_32, EvU_at d10_35, EvU_at d10_36, EvU_at d10_37, EvU_at d10_38, EvU_at d10_41, EvU_at d10_44, EvU_at d10_47, EvU_at d10_48, EvU_at d10_51, EvU_at d10_52, EvU_at d10_55, EvU_at d10_56, EvU_at d10_59, EvU_at d10_60, EvU_at d10_63, EvU_at d10_64, EvU_at d10_67, EvU_at d10_68, EvU_at d10_71, EvU_at d10_72, EvU_at d10_75, EvU_at d10_78, EvU_at d10_79, EvU_at d10_82, EvU_at d10_85, EvU_at d10_86, EvU_at d10_89, EvU_at d10_92, EvU_at d10_93, EvU_at d10_94, EvU_at d10_97, EvU_at d10_98, EvU_at d10_99, EvU_at d10_102, EvU_at d10_103, EvU_at d10_104, EvU_at d10_107, EvU_at d10_108, EvU_at d10_109, EvU_at d10_112, EvU_at d10_113, EvU_at d10_114, EvU_at d10_117, Z10, Z11, LyS hL, LyG hL, LyW hL hk, g, g0, g1, g2, e0, e1, e2, cc]
    refine ih (k + 1) _ _ ?_ ?_ ?_ ?_ ?_
    · omega
    · simp (maxDischargeDepth := 9) [lget_lput, nl_I, nl_R, g]
    · simp (maxDischargeDepth := 9) [lget_lput, nl_I, nl_R, g, g0]
    · simp (maxDischargeDepth := 9) [lget_lput, nl_I, nl_R, g, g1]
    · simp (maxDischargeDepth := 9) [lget_lput, nl_I, nl_R, g]
def clrF (A : Nat → Nat → Int) (m : Int) : Nat → Nat → Int := clrM (clrP 12 0 (clrW 8 0 A)) m
set_option maxRecDepth 20000 in
theorem m_mclear (hL : Lay sh gr) (m : Int) : Ev (10, 0, [(0, .ref 2), (1, .int (oi m))], [], (sh, oA A, gl, gr), sl) r ↔ r = (.inl none, (sh, oA (clrF A m), gl, gr), sl) := by
  rw [EvU_iff (fun p => p == 2) 10]
  simp [EvS, stI, enI, caI, s_push, s_iload, s_aload, s_istore, s_astore, s_iinc, s_bin, s_div, s_i2l, s_lcmp, s_dup, s_dup2, s_pop, s_tab, s_look, s_get, s_put, s_iald, s_lald, s_aald, s_iast, s_last, s_aast, s_len, s_newa, s_new, s_thr, s_min, s_copy, s_obj, s_call, s_iret, s_aret, s_vret, go, ldI, lget, lput, lv_args, wsum, va_rf, hnd, cvr, cat_i, cat_r, cat_l, oi_of, oi_add, oi_sub, oA_ap, oA_u2, pi_lt, pi_le, pi_eq, pi_eq0, pi_lt0, pi_le0, pi_gt0, pi_ge0, pi_cl, sb_lit, fv4, isB01, nlt0, EvU_0, wO_ne, wL_ne, wC_ne, wN_ne, pO_ne, pU_ne, CN, LN, -Prod.exists, pi_ti, Op.lookupswitch.offset, EvU_at d10_0, EvU_at d10_1, EvU_at d10_2, EvU_at d10_3, EvU_at d10_5, EvU_at d10_8, EvU_at d10_9, EvU_at d10_12, EvU_at d10_13, EvU_at d10_14, EvU_at d10_17, EvU_at d10_20, EvU_at d10_23, EvU_at d10_24, EvU_at d10_25, EvU_at d10_26, EvU_at d10_28, EvU_at d10_31, EvU_at d10_32, EvU_at d10_35, EvU_at d10_36, EvU_at d10_37, EvU_at d10_38, EvU_at d10_41, EvU_at d10_44, EvU_at d10_47, EvU_at d10_48, EvU_at d10_51, EvU_at d10_52, EvU_at d10_55, EvU_at d10_56, EvU_at d10_59, EvU_at d10_60, EvU_at d10_63, EvU_at d10_64, EvU_at d10_67, EvU_at d10_68, EvU_at d10_71, EvU_at d10_72, EvU_at d10_75, EvU_at d10_78, EvU_at d10_79, EvU_at d10_82, EvU_at d10_85, EvU_at d10_86, EvU_at d10_89, EvU_at d10_92, EvU_at d10_93, EvU_at d10_94, EvU_at d10_97, EvU_at d10_98, EvU_at d10_99, EvU_at d10_102, EvU_at d10_103, EvU_at d10_104, EvU_at d10_107, EvU_at d10_108, EvU_at d10_109, EvU_at d10_112, EvU_at d10_113, EvU_at d10_114, EvU_at d10_117, Z10]
  refine l_clrW hL 8 0 A _ rfl ?_ ?_ ?_ ?_
  · simp [nl, cat_i, cat_r]
  · simp [lget, cat_i, cat_r]
  · simp [lget, cat_i, cat_r]
  · simp [lget, cat_i, cat_r]
end
