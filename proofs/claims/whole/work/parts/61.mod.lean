/-! the reference's calls -/
section
variable {sh : List (Nat × Nat)} {A B : Nat → Nat → Int} {gl : Nat → Nat → Int64} {gr : Nat → Nat → Option Nat} {sl : Nat} {r : Out}
def rpF (m : Int) (ln bg : Nat → Int) (j : Nat) : Int := if j < 6 then bg j % m else if ln (j - 6) = 0 then 0 else bg j % ln (j - 6)
set_option maxRecDepth 20000 in
theorem l_rp1 (hL : Lay sh gr) {i : Nat} (hi : i < 20) {m : Int} (hm : 0 < m ∧ m ≤ 32) {ln bg : Nat → Int} (hl : ∀ j, j < 12 → 0 ≤ ln j ∧ ln j ≤ 61) (hb : ∀ j, j < 18 → 0 ≤ bg j) {out : Out} : ∀ (n k : Nat) (A : Nat → Nat → Int) (ls : Lc), k + n = 18 → (∀ k j, sb (A k j)) → A 199 1 = m → (∀ j, j < 12 → A 205 j = ln j) → (∀ j, j < 18 → A 213 (18 * i + j) = bg j) → nl ls = true → lget ls 0 = some (.ref 199) → lget ls 1 = some (.int (oi (i : Int))) → lget ls 2 = some (.int (oi (k : Int))) →
    (∀ ls : Lc, nl ls = true → lget ls 0 = some (.ref 199) → lget ls 1 = some (.int (oi (i : Int))) → lget ls 2 = some (.int (oi (-1))) → lget ls 3 = some (.int (oi 0)) → (Ev (163, 109, ls, [], (sh, oA (fillR A 208 k 18 (rpF m ln bg)), gl, gr), sl) r ↔ r = out)) →
    (Ev (163, 43, ls, [], (sh, oA A, gl, gr), sl) r ↔ r = out) := by
  have q0 : sb (i : Int) := ⟨by omega, by omega⟩
  intro n
  induction n with
  | zero =>
    intro k A ls hn hA h1 h2 h3 g g0 g1 g2 ho
    obtain rfl : k = 18 := by omega
    rw [fillR_0] at ho
    have e0 : sb ((18 : Nat) : Int) := ⟨by omega, by omega⟩
    have e1 : (18 : Int) ≤ ((18 : Nat) : Int) := by omega
    rw [EvU_iff (fun p => p == 109) 40]
    simp (maxDischargeDepth := 9) [EvS, stI, enI, caI, s_push, s_iload, s_aload, s_istore, s_astore, s_iinc, s_bin, s_div, s_i2l, s_lcmp, s_dup, s_dup2, s_pop, s_tab, s_look, s_get, s_put, s_iald, s_lald, s_aald, s_iast, s_last, s_aast, s_len, s_newa, s_new, s_thr, s_min, s_copy, s_obj, s_call, s_iret, s_aret, s_vret, go, ldI, lget_lput, nl_I, nl_R, lv_args, wsum, va_rf, hnd, cvr, cat_i, cat_r, cat_l, oi_of, oi_add, oi_sub, oA_ap, oA_u2, pi_lt, pi_le, pi_eq, pi_eq0, pi_lt0, pi_le0, pi_gt0, pi_ge0, pi_cl, sb_lit, fv4, isB01, nlt0, EvU_0, wO_ne, wL_ne, wC_ne, wN_ne, pO_ne, pU_ne, CN, LN, -Prod.exists, pi_ti, Op.lookupswitch.offset, EvU_at d163_0, EvU_at d163_1, EvU_at d163_2, EvU_at d163_3, EvU_at d163_6, EvU_at d163_7, EvU_at d163_10, EvU_at d163_13, EvU_at d163_14, EvU_at d163_15, EvU_at d163_18, EvU_at d163_19, EvU_at d163_20, EvU_at d163_23, EvU_at d163_24, EvU_at d163_27, EvU_at d163_28, EvU_at d163_29, EvU_at d163_32, EvU_at d163_35, EvU_at d163_36, EvU_at d163_37, EvU_at d163_38, EvU_at d163_41, EvU_at d163_42, EvU_at d163_43, EvU_at d163_44, EvU_at d163_46, EvU_at d163_49, EvU_at d163_50, EvU_at d163_52, EvU_at d163_55, EvU_at d163_56, EvU_at d163_59, EvU_at d163_62, EvU_at d163_63, EvU_at d163_66, EvU_at d163_67, EvU_at d163_69, EvU_at d163_70, EvU_at d163_71, EvU_at d163_72, EvU_at d163_73, EvU_at d163_76, EvU_at d163_77, EvU_at d163_78, EvU_at d163_81, EvU_at d163_82, EvU_at d163_85, EvU_at d163_86, EvU_at d163_89, EvU_at d163_91, EvU_at d163_92, EvU_at d163_93, EvU_at d163_94, EvU_at d163_95, EvU_at d163_96, EvU_at d163_97, EvU_at d163_98, EvU_at d163_99, EvU_at d163_102, EvU_at d163_105, EvU_at d163_106, EvU_at d163_107, EvU_at d163_108, EvU_at d163_109, EvU_at d163_110, EvU_at d163_111, EvU_at d163_114, EvU_at d163_115, EvU_at d163_116, EvU_at d163_119, EvU_at d163_120, EvU_at d163_121, EvU_at d163_124, EvU_at d163_125, EvU_at d163_128, EvU_at d163_129, EvU_at d163_130, EvU_at d163_133, EvU_at d163_135, EvU_at d163_136, EvU_at d163_137, EvU_at d163_138, EvU_at d163_139, EvU_at d163_140, EvU_at d163_143, EvU_at d163_144, EvU_at d163_147, EvU_at d163_149, EvU_at d163_150, EvU_at d163_151, EvU_at d163_152, EvU_at d163_153, EvU_at d163_154, EvU_at d163_157, EvU_at d163_158, EvU_at d163_161, EvU_at d163_162, EvU_at d163_163, EvU_at d163_166, EvU_at d163_169, EvU_at d163_170, EvU_at d163_173, EvU_at d163_174, Z163, LyS hL, LyG hL, g, g0, g1, g2, e0, e1]
    refine ho _ ?_ ?_ ?_ ?_ ?_
    · simp (maxDischargeDepth := 9) [lget_lput, nl_I, nl_R, g]
    · simp (maxDischargeDepth := 9) [lget_lput, nl_I, nl_R, g, g0]
    · simp (maxDischargeDepth := 9) [lget_lput, nl_I, nl_R, g, g1]
    · simp (maxDischargeDepth := 9) [lget_lput, nl_I, nl_R, g]
    · simp (maxDischargeDepth := 9) [lget_lput, nl_I, nl_R, g]
  | succ n ih =>
    intro k A ls hn hA h1 h2 h3 g g0 g1 g2 ho
    have hk : k < 18 := by omega
    have e0 : sb (k : Int) := ⟨by omega, by omega⟩
    have e1 : ¬ (18 : Int) ≤ (k : Int) := by omega
    have e2 : ¬ 18 ≤ k := by omega
    have i0 : sb (18 * (i : Int) + (k : Int)) := ⟨by omega, by omega⟩
    have i1 : ¬ 18 * (i : Int) + (k : Int) < 0 := by omega
    have i2 : (18 * (i : Int) + (k : Int)).toNat = 18 * i + k := by omega
    have i3 : ¬ 360 ≤ 18 * i + k := by omega
    have b1 := h3 k hk
    have b2 := hb k hk
    have b3 : sb (bg k) := b1 ▸ hA _ _
    have q2 : sb m := ⟨by omega, by omega⟩
    have q3 : ¬ m = 0 := by omega
    rw [← fillR_s A (rpF m ln bg) hk] at ho
    have fin : ∀ (v : Int) (ls : Lc), sb v → v = rpF m ln bg k → nl ls = true → lget ls 0 = some (.ref 199) → lget ls 1 = some (.int (oi (i : Int))) → lget ls 2 = some (.int (oi ((k : Int) + 1))) → (Ev (163, 43, ls, [], (sh, oA (u2 A 208 k v), gl, gr), sl) r ↔ r = out) := by
      intro v ls hv ev g g0 g1 g2
      subst ev
      refine ih (k + 1) _ ls (by omega) (sb_u2 hA hv _ _) ?_ ?_ ?_ g g0 g1 g2 ho
      · rw [uk_ne (by omega)]
        exact h1
      · intro j hj
        rw [uk_ne (by omega)]
        exact h2 j hj
      · intro j hj
        rw [uk_ne (by omega)]
        exact h3 j hj
    rw [EvU_iff (fun _ => false) 1]
    simp (maxDischargeDepth := 9) [EvS, stI, enI, caI, s_push, s_iload, s_aload, s_istore, s_astore, s_iinc, s_bin, s_div, s_i2l, s_lcmp, s_dup, s_dup2, s_pop, s_tab, s_look, s_get, s_put, s_iald, s_lald, s_aald, s_iast, s_last, s_aast, s_len, s_newa, s_new, s_thr, s_min, s_copy, s_obj, s_call, s_iret, s_aret, s_vret, go, ldI, lget_lput, nl_I, nl_R, lv_args, wsum, va_rf, hnd, cvr, cat_i, cat_r, cat_l, oi_of, oi_add, oi_sub, oA_ap, oA_u2, pi_lt, pi_le, pi_eq, pi_eq0, pi_lt0, pi_le0, pi_gt0, pi_ge0, pi_cl, sb_lit, fv4, isB01, nlt0, EvU_0, wO_ne, wL_ne, wC_ne, wN_ne, pO_ne, pU_ne, CN, LN, -Prod.exists, pi_ti, Op.lookupswitch.offset, EvU_at d163_0, EvU_at d163_1, EvU_at d163_2, EvU_at d163_3, EvU_at d163_6, EvU_at d163_7, EvU_at d163_10, EvU_at d163_13, EvU_at d163_14, EvU_at d163_15, EvU_at d163_18, EvU_at d163_19, EvU_at d163_20, EvU_at d163_23, EvU_at d163_24, EvU_at d163_27, EvU_at d163_28, EvU_at d163_29, EvU_at d163_32, EvU_at d163_35, EvU_at d163_36, EvU_at d163_37, EvU_at d163_38, EvU_at d163_41, EvU_at d163_42, EvU_at d163_43, EvU_at d163_44, EvU_at d163_46, EvU_at d163_49, EvU_at d163_50, EvU_at d163_52, EvU_at d163_55, EvU_at d163_56, EvU_at d163_59, EvU_at d163_62, EvU_at d163_63, EvU_at d163_66, EvU_at d163_67, EvU_at d163_69, EvU_at d163_70, EvU_at d163_71, EvU_at d163_72, EvU_at d163_73, EvU_at d163_76, EvU_at d163_77, EvU_at d163_78, EvU_at d163_81, EvU_at d163_82, EvU_at d163_85, EvU_at d163_86, EvU_at d163_89, EvU_at d163_91, EvU_at d163_92, EvU_at d163_93, EvU_at d163_94, EvU_at d163_95, EvU_at d163_96, EvU_at d163_97, EvU_at d163_98, EvU_at d163_99, EvU_at d163_102, EvU_at d163_105, EvU_at d163_106, EvU_at d163_107, EvU_at d163_108, EvU_at d163_109, EvU_at d163_110, EvU_at d163_111, EvU_at d163_114, EvU_at d163_115, EvU_at d163_116, EvU_at d163_119, EvU_at d163_120, EvU_at d163_121, EvU_at d163_124, EvU_at d163_125, EvU_at d163_128, EvU_at d163_129, EvU_at d163_130, EvU_at d163_133, EvU_at d163_135, EvU_at d163_136, EvU_at d163_137, EvU_at d163_138, EvU_at d163_139, EvU_at d163_140, EvU_at d163_143, EvU_at d163_144, EvU_at d163_147, EvU_at d163_149, EvU_at d163_150, EvU_at d163_151, EvU_at d163_152, EvU_at d163_153, EvU_at d163_154, EvU_at d163_157, EvU_at d163_158, EvU_at d163_161, EvU_at d163_162, EvU_at d163_163, EvU_at d163_166, EvU_at d163_169, EvU_at d163_170, EvU_at d163_173, EvU_at d163_174, Z163, LyS hL, LyG hL, g, g0, g1, g2]
    rw [EvU_iff (fun p => p == 43) 60]
    by_cases c6 : k < 6
    · have c7 : ¬ (6 : Int) ≤ (k : Int) := by omega
      have c8 : ¬ 6 ≤ k := by omega
      have r1 := rem_oi b2 hm.1 b3 q2
      have r2 := Int.emod_nonneg (bg k) (show m ≠ 0 by omega)
      have r3 := Int.emod_lt_of_pos (bg k) hm.1
      simp (maxDischargeDepth := 9) [EvS, stI, enI, caI, s_push, s_iload, s_aload, s_istore, s_astore, s_iinc, s_bin, s_div, s_i2l, s_lcmp, s_dup, s_dup2, s_pop, s_tab, s_look, s_get, s_put, s_iald, s_lald, s_aald, s_iast, s_last, s_aast, s_len, s_newa, s_new, s_thr, s_min, s_copy, s_obj, s_call, s_iret, s_aret, s_vret, go, ldI, lget_lput, nl_I, nl_R, lv_args, wsum, va_rf, hnd, cvr, cat_i, cat_r, cat_l, oi_of, oi_add, oi_sub, oA_ap, oA_u2, pi_lt, pi_le, pi_eq, pi_eq0, pi_lt0, pi_le0, pi_gt0, pi_ge0, pi_cl, sb_lit, fv4, isB01, nlt0, EvU_0, wO_ne, wL_ne, wC_ne, wN_ne, pO_ne, pU_ne, CN, LN, -Prod.exists, pi_ti, Op.lookupswitch.offset, EvU_at d163_0, EvU_at d163_1, EvU_at d163_2, EvU_at d163_3, EvU_at d163_6, EvU_at d163_7, EvU_at d163_10, EvU_at d163_13, EvU_at d163_14, EvU_at d163_15, EvU_at d163_18, EvU_at d163_19, EvU_at d163_20, EvU_at d163_23, EvU_at d163_24, EvU_at d163_27, EvU_at d163_28, EvU_at d163_29, EvU_at d163_32, EvU_at d163_35, EvU_at d163_36, EvU_at d163_37, EvU_at d163_38, EvU_at d163_41, EvU_at d163_42, EvU_at d163_43, EvU_at d163_44, EvU_at d163_46, EvU_at d163_49, EvU_at d163_50, EvU_at d163_52, EvU_at d163_55, EvU_at d163_56, EvU_at d163_59, EvU_at d163_62, EvU_at d163_63, EvU_at d163_66, EvU_at d163_67, EvU_at d163_69, EvU_at d163_70, EvU_at d163_71, EvU_at d163_72, EvU_at d163_73, EvU_at d163_76, EvU_at d163_77, EvU_at d163_78, EvU_at d163_81, EvU_at d163_82, EvU_at d163_85, EvU_at d163_86, EvU_at d163_89, EvU_at d163_91, EvU_at d163_92, EvU_at d163_93, EvU_at d163_94, EvU_at d163_95, EvU_at d163_96, EvU_at d163_97, EvU_at d163_98, EvU_at d163_99, EvU_at d163_102, EvU_at d163_105, EvU_at d163_106, EvU_at d163_107, EvU_at d163_108, EvU_at d163_109, EvU_at d163_110, EvU_at d163_111, EvU_at d163_114, EvU_at d163_115, EvU_at d163_116, EvU_at d163_119, EvU_at d163_120, EvU_at d163_121, EvU_at d163_124, EvU_at d163_125, EvU_at d163_128, EvU_at d163_129, EvU_at d163_130, EvU_at d163_133, EvU_at d163_135, EvU_at d163_136, EvU_at d163_137, EvU_at d163_138, EvU_at d163_139, EvU_at d163_140, EvU_at d163_143, EvU_at d163_144, EvU_at d163_147, EvU_at d163_149, EvU_at d163_150, EvU_at d163_151, EvU_at d163_152, EvU_at d163_153, EvU_at d163_154, EvU_at d163_157, EvU_at d163_158, EvU_at d163_161, EvU_at d163_162, EvU_at d163_163, EvU_at d163_166, EvU_at d163_169, EvU_at d163_170, EvU_at d163_173, EvU_at d163_174, Z163, LyS hL, LyG hL, oi_mul, g, g0, g1, g2, e0, e1, e2, i0, i1, i2, i3, b1, q2, q3, h1, c7, c8, r1]
      refine fin _ _ ⟨by omega, by omega⟩ (by unfold rpF; rw [if_pos c6]) ?_ ?_ ?_ ?_
      · simp (maxDischargeDepth := 9) [lget_lput, nl_I, nl_R, g]
      · simp (maxDischargeDepth := 9) [lget_lput, nl_I, nl_R, g, g0]
      · simp (maxDischargeDepth := 9) [lget_lput, nl_I, nl_R, g, g1]
      · simp (maxDischargeDepth := 9) [lget_lput, nl_I, nl_R, g]
    · have c7 : (6 : Int) ≤ (k : Int) := by omega
      have c8 : 6 ≤ k := by omega
      have j0 : sb ((k : Int) - 6) := ⟨by omega, by omega⟩
      have j1 : ¬ (k : Int) - 6 < 0 := by omega
      have j2 : ((k : Int) - 6).toNat = k - 6 := by omega
      have j3 : ¬ 12 ≤ k - 6 := by omega
      have l1 := h2 (k - 6) (by omega)
      have l2 := hl (k - 6) (by omega)
      have l3 : sb (ln (k - 6)) := ⟨by omega, by omega⟩
      by_cases d : ln (k - 6) = 0
      · simp (maxDischargeDepth := 9) [EvS, stI, enI, caI, s_push, s_iload, s_aload, s_istore, s_astore, s_iinc, s_bin, s_div, s_i2l, s_lcmp, s_dup, s_dup2, s_pop, s_tab, s_look, s_get, s_put, s_iald, s_lald, s_aald, s_iast, s_last, s_aast, s_len, s_newa, s_new, s_thr, s_min, s_copy, s_obj, s_call, s_iret, s_aret, s_vret, go, ldI, lget_lput, nl_I, nl_R, lv_args, wsum, va_rf, hnd, cvr, cat_i, cat_r, cat_l, oi_of, oi_add, oi_sub, oA_ap, oA_u2, pi_lt, pi_le, pi_eq, pi_eq0, pi_lt0, pi_le0, pi_gt0, pi_ge0, pi_cl, sb_lit, fv4, isB01, nlt0, EvU_0, wO_ne, wL_ne, wC_ne, wN_ne, pO_ne, pU_ne, CN, LN, -Prod.exists, pi_ti, Op.lookupswitch.offset, EvU_at d163_0, EvU_at d163_1, EvU_at d163_2, EvU_at d163_3, EvU_at d163_6, EvU_at d163_7, EvU_at d163_10, EvU_at d163_13, EvU_at d163_14, EvU_at d163_15, EvU_at d163_18, EvU_at d163_19, EvU_at d163_20, EvU_at d163_23, EvU_at d163_24, EvU_at d163_27, EvU_at d163_28, EvU_at d163_29, EvU_at d163_32, EvU_at d163_35, EvU_at d163_36, EvU_at d163_37, EvU_at d163_38, EvU_at d163_41, EvU_at d163_42, EvU_at d163_43, EvU_at d163_44, EvU_at d163_46, EvU_at d163_49, EvU_at d163_50, EvU_at d163_52, EvU_at d163_55, EvU_at d163_56, EvU_at d163_59, EvU_at d163_62, EvU_at d163_63, EvU_at d163_66, EvU_at d163_67, EvU_at d163_69, EvU_at d163_70, EvU_at d163_71, EvU_at d163_72, EvU_at d163_73, EvU_at d163_76, EvU_at d163_77, EvU_at d163_78, EvU_at d163_81, EvU_at d163_82, EvU_at d163_85, EvU_at d163_86, EvU_at d163_89, EvU_at d163_91, EvU_at d163_92, EvU_at d163_93, EvU_at d163_94, EvU_at d163_95, EvU_at d163_96, EvU_at d163_97, EvU_at d163_98, EvU_at d163_99, EvU_at d163_102, EvU_at d163_105, EvU_at d163_106, EvU_at d163_107, EvU_at d163_108, EvU_at d163_109, EvU_at d163_110, EvU_at d163_111, EvU_at d163_114, EvU_at d163_115, EvU_at d163_116, EvU_at d163_119, EvU_at d163_120, EvU_at d163_121, EvU_at d163_124, EvU_at d163_125, EvU_at d163_128, EvU_at d163_129, EvU_at d163_130, EvU_at d163_133, EvU_at d163_135, EvU_at d163_136, EvU_at d163_137, EvU_at d163_138, EvU_at d163_139, EvU_at d163_140, EvU_at d163_143, EvU_at d163_144, EvU_at d163_147, EvU_at d163_149, EvU_at d163_150, EvU_at d163_151, EvU_at d163_152, EvU_at d163_153, EvU_at d163_154, EvU_at d163_157, EvU_at d163_158, EvU_at d163_161, EvU_at d163_162, EvU_at d163_163, EvU_at d163_166, EvU_at d163_169, EvU_at d163_170, EvU_at d163_173, EvU_at d163_174, Z163, LyS hL, LyG hL, oi_mul, g, g0, g1, g2, e0, e1, e2, i0, i1, i2, i3, j0, j1, j2, j3, b1, l1, l3, c7, c8, d]
        refine fin _ _ ⟨by omega, by omega⟩ (by unfold rpF; rw [if_neg c6, if_pos d]) ?_ ?_ ?_ ?_
        · simp (maxDischargeDepth := 9) [lget_lput, nl_I, nl_R, g]
        · simp (maxDischargeDepth := 9) [lget_lput, nl_I, nl_R, g, g0]
        · simp (maxDischargeDepth := 9) [lget_lput, nl_I, nl_R, g, g1]
        · simp (maxDischargeDepth := 9) [lget_lput, nl_I, nl_R, g]
      · have r1 := rem_oi b2 (show 0 < ln (k - 6) by omega) b3 l3
        have r2 := Int.emod_nonneg (bg k) d
        have r3 := Int.emod_lt_of_pos (bg k) (show 0 < ln (k - 6) by omega)
        simp (maxDischargeDepth := 9) [EvS, stI, enI, caI, s_push, s_iload, s_aload, s_istore, s_astore, s_iinc, s_bin, s_div, s_i2l, s_lcmp, s_dup, s_dup2, s_pop, s_tab, s_look, s_get, s_put, s_iald, s_lald, s_aald, s_iast, s_last, s_aast, s_len, s_newa, s_new, s_thr, s_min, s_copy, s_obj, s_call, s_iret, s_aret, s_vret, go, ldI, lget_lput, nl_I, nl_R, lv_args, wsum, va_rf, hnd, cvr, cat_i, cat_r, cat_l, oi_of, oi_add, oi_sub, oA_ap, oA_u2, pi_lt, pi_le, pi_eq, pi_eq0, pi_lt0, pi_le0, pi_gt0, pi_ge0, pi_cl, sb_lit, fv4, isB01, nlt0, EvU_0, wO_ne, wL_ne, wC_ne, wN_ne, pO_ne, pU_ne, CN, LN, -Prod.exists, pi_ti, Op.lookupswitch.offset, EvU_at d163_0, EvU_at d163_1, EvU_at d163_2, EvU_at d163_3, EvU_at d163_6, EvU_at d163_7, EvU_at d163_10, EvU_at d163_13, EvU_at d163_14, EvU_at d163_15, EvU_at d163_18, EvU_at d163_19, EvU_at d163_20, EvU_at d163_23, EvU_at d163_24, EvU_at d163_27, EvU_at d163_28, EvU_at d163_29, EvU_at d163_32, EvU_at d163_35, EvU_at d163_36, EvU_at d163_37, EvU_at d163_38, EvU_at d163_41, EvU_at d163_42, EvU_at d163_43, EvU_at d163_44, EvU_at d163_46, EvU_at d163_49, EvU_at d163_50, EvU_at d163_52, EvU_at d163_55, EvU_at d163_56, EvU_at d163_59, EvU_at d163_62, EvU_at d163_63, EvU_at d163_66, EvU_at d163_67, EvU_at d163_69, EvU_at d163_70, EvU_at d163_71, EvU_at d163_72, EvU_at d163_73, EvU_at d163_76, EvU_at d163_77, EvU_at d163_78, EvU_at d163_81, EvU_at d163_82, EvU_at d163_85, EvU_at d163_86, EvU_at d163_89, EvU_at d163_91, EvU_at d163_92, EvU_at d163_93, EvU_at d163_94, EvU_at d163_95, EvU_at d163_96, EvU_at d163_97, EvU_at d163_98, EvU_at d163_99, EvU_at d163_102, EvU_at d163_105, EvU_at d163_106, EvU_at d163_107, EvU_at d163_108, EvU_at d163_109, EvU_at d163_110, EvU_at d163_111, EvU_at d163_114, EvU_at d163_115, EvU_at d163_116, EvU_at d163_119, EvU_at d163_120, EvU_at d163_121, EvU_at d163_124, EvU_at d163_125, EvU_at d163_128, EvU_at d163_129, EvU_at d163_130, EvU_at d163_133, EvU_at d163_135, EvU_at d163_136, EvU_at d163_137, EvU_at d163_138, EvU_at d163_139, EvU_at d163_140, EvU_at d163_143, EvU_at d163_144, EvU_at d163_147, EvU_at d163_149, EvU_at d163_150, EvU_at d163_151, EvU_at d163_152, EvU_at d163_153, EvU_at d163_154, EvU_at d163_157, EvU_at d163_158, EvU_at d163_161, EvU_at d163_162, EvU_at d163_163, EvU_at d163_166, EvU_at d163_169, EvU_at d163_170, EvU_at d163_173, EvU_at d163_174, Z163, LyS hL, LyG hL, oi_mul, g, g0, g1, g2, e0, e1, e2, i0, i1, i2, i3, j0, j1, j2, j3, b1, l1, l3, c7, c8, d, r1]
        refine fin _ _ ⟨by omega, by omega⟩ (by unfold rpF; rw [if_neg c6, if_neg d]) ?_ ?_ ?_ ?_
        · simp (maxDischargeDepth := 9) [lget_lput, nl_I, nl_R, g]
        · simp (maxDischargeDepth := 9) [lget_lput, nl_I, nl_R, g, g0]
        · simp (maxDischargeDepth := 9) [lget_lput, nl_I, nl_R, g, g1]
        · simp (maxDischargeDepth := 9) [lget_lput, nl_I, nl_R, g]
/-- the reference stands as message i began -/
def asR (A B : Nat → Nat → Int) (i : Nat) : Nat → Nat → Int := fillR (asideR A) 208 0 18 (rpF (B 2 9) (fun j => B (pO j) 1) (fun j => A 213 (18 * i + j)))
theorem asR_ne (A B : Nat → Nat → Int) (i : Nat) {a : Nat} (h1 : a ≠ 208) (b : Nat) : asR A B i a b = asideR A a b := by
  unfold asR fillR
  rw [if_neg h1]
theorem asR_pos (h : RL A B) {i : Nat} (hi : (i : Int) < B 74 1) {s : Nat} (hs : s < 6) : asR A B i 208 s = B (gP i) s := by
  have b := (h.O.G.bg i hi).1 s hs
  unfold asR fillR rpF
  rw [if_pos rfl, if_pos (by omega), if_pos hs]
  show A 213 (18 * i + s) % B 2 9 = B (gP i) s
  rw [h.G.bp i hi s hs]
  exact Int.emod_eq_of_lt b.1 b.2
theorem asR_pl (h : RL A B) {i : Nat} (hi : (i : Int) < B 74 1) {k : Nat} (hk : k < 12) : asR A B i 208 (6 + k) = if 0 < B (pO k) 1 then B (gQ i) k % B (pO k) 1 else 0 := by
  have l := h.O.M.len k hk
  unfold asR fillR rpF
  rw [if_pos rfl, if_pos (by omega), if_neg (by omega), show 6 + k - 6 = k by omega]
  show (if B (pO k) 1 = 0 then 0 else A 213 (18 * i + (6 + k)) % B (pO k) 1) = _
  rw [h.G.bq i hi k hk]
  by_cases c : 0 < B (pO k) 1
  · rw [if_pos c, if_neg (by omega)]
  · rw [if_neg c, if_pos (by omega)]
theorem RW.as (h : RL A B) {i : Nat} (hi : (i : Int) < B 74 1) : RW (asR A B i) (asF (keepF B) i) := by
  have w := RW.aside h
  have hi' : (i : Int) < keepF B 74 1 := by rw [keepF_ne B (by omega)]; exact hi
  have ho := h.O.keep.as hi'
  have ms := h.O.G.ms
  refine ⟨(w.R.cg (fun b hb => asR_ne A B i (by omega) b) (fun a b _ _ => asR_ne A B i (by omega) b)).cgB (fun a b h0 h1 h2 => asF_ne _ i h1 h2 b), ⟨fun s hs => ?_, fun k hk => ?_⟩, ho.M, ho.P⟩
  · rw [asR_pos h hi hs, asF_c, if_neg (by omega), if_pos ⟨rfl, hs⟩, keepF_ne B (by unfold gP; omega)]
  · rw [asR_pl h hi hk, asF_c, if_pos (show (15 : Nat) = 15 ∧ k < 12 from ⟨rfl, hk⟩), keepF_ne B (by unfold pO; omega), keepF_ne B (by unfold gQ; omega)]
theorem RX.as (h : RL A B) {i : Nat} (hi : (i : Int) < B 74 1) : RX i (asR A B i) (asF (keepF B) i) := by
  have ms := h.O.G.ms
  have e1 : ∀ b, asF (keepF B) i (gO i) b = B (gO i) b := fun b => by rw [asF_ne _ i (by unfold gO; omega) (by unfold gO; omega), keepF_ne B (by unfold gO; omega)]
  have e2 : ∀ b, asF (keepF B) i (gK i) b = B (gK i) b := fun b => by rw [asF_ne _ i (by unfold gK; omega) (by unfold gK; omega), keepF_ne B (by unfold gK; omega)]
  have e3 : ∀ b, asF (keepF B) i (gC i) b = B (gC i) b := fun b => by rw [asF_ne _ i (by unfold gC; omega) (by unfold gC; omega), keepF_ne B (by unfold gC; omega)]
  have e4 : asF (keepF B) i 2 9 = B 2 9 := by rw [asF_ne _ i (by omega) (by omega), keepF_ne B (by omega)]
  refine ⟨?_, ?_, fun j hj => ?_⟩
  · rw [asR_ne _ _ _ (by omega), asideR_ne _ (by omega) (by omega), e1]
    exact h.G.sg i hi
  · rw [e1]
    exact h.O.G.sg i hi
  · rw [e1] at hj
    have k1 := h.G.ky i hi j hj
    have k2 := h.O.G.ky i hi j hj
    rw [asR_ne _ _ _ (by omega), asideR_ne _ (by omega) (by omega), asR_ne _ _ _ (by omega), asideR_ne _ (by omega) (by omega), e2, e3, e4]
    exact ⟨k1.1, k1.2, k2.1, k2.2⟩
theorem sb_asR (h : RL A B) (hA : ∀ k j, sb (A k j)) {i : Nat} (hi : (i : Int) < B 74 1) : ∀ k j, sb (asR A B i k j) := by
  refine sb_fillR (sb_aside hA) _ _ _ (fun j hj => ?_)
  have hm := h.O.M.m
  show sb (if j < 6 then A 213 (18 * i + j) % B 2 9 else if B (pO (j - 6)) 1 = 0 then 0 else A 213 (18 * i + j) % B (pO (j - 6)) 1)
  split
  · have r2 := Int.emod_nonneg (A 213 (18 * i + j)) (show B 2 9 ≠ 0 by omega)
    have r3 := Int.emod_lt_of_pos (A 213 (18 * i + j)) (show 0 < B 2 9 by omega)
    exact ⟨by omega, by omega⟩
  · have l := h.O.M.len (j - 6) (by omega)
    split
    · exact ⟨by omega, by omega⟩
    · have r2 := Int.emod_nonneg (A 213 (18 * i + j)) (show B (pO (j - 6)) 1 ≠ 0 by assumption)
      have r3 := Int.emod_lt_of_pos (A 213 (18 * i + j)) (show 0 < B (pO (j - 6)) 1 by omega)
      exact ⟨by omega, by omega⟩
set_option maxRecDepth 20000 in
theorem q_replay (hA : ∀ k j, sb (A k j)) (hL : Lay sh gr) (h : RL A B) {x : Int} (hx : sb x) : Ev (163, 0, [(0, .ref 199), (1, .int (oi x))], [], (sh, oA A, gl, gr), sl) r ↔
    r = if ¬ (0 ≤ x ∧ x < B 74 1) then (.inl (some (.int (oi 0))), (sh, oA (u2 A 199 0 1), gl, gr), sl) else if ¬ (¬ (B 74 2 ≠ 0 ∧ x = B 74 1 - 1)) then (.inl (some (.int (oi 0))), (sh, oA (u2 A 199 0 2), gl, gr), sl) else (.inl (some (.int (oi (repF B x.toNat).1))), (sh, oA (bringR (othR x.toNat (B (gO x.toNat) 3).toNat 0 (asR A B x.toNat) (asF (keepF B) x.toNat)) A), gl, gr), sl) := by
  have xm := h.R.m
  have xo := h.G.op
  have xo2 : sb (B 74 2) := xo ▸ hA _ _
  have hm := h.O.m
  have xs := h.G.ms
  have o1 := h.O.G.ms
  have k3 : sb (B 74 1 - 1) := ⟨by omega, by omega⟩
  have n1 := fun (sl : Nat) (r : Out) => r_message (gl := gl) (sl := sl) (r := r) hA hL hx
  rw [xs] at n1
  by_cases c1 : 0 ≤ x ∧ x < B 74 1
  · rw [show b1 (0 ≤ x ∧ x < B 74 1) = 1 from if_pos c1] at n1
    rw [if_neg (fun e => e c1)]
    by_cases c2 : B 74 2 ≠ 0 ∧ x = B 74 1 - 1
    · rw [if_pos (fun e => e c2), EvU_iff (fun _ => false) 60]
      obtain ⟨c3, c4⟩ := c2
      subst c4
      simp [EvS, stI, enI, caI, s_push, s_iload, s_aload, s_istore, s_astore, s_iinc, s_bin, s_div, s_i2l, s_lcmp, s_dup, s_dup2, s_pop, s_tab, s_look, s_get, s_put, s_iald, s_lald, s_aald, s_iast, s_last, s_aast, s_len, s_newa, s_new, s_thr, s_min, s_copy, s_obj, s_call, s_iret, s_aret, s_vret, go, ldI, lget, lput, lv_args, wsum, va_rf, hnd, cvr, cat_i, cat_r, cat_l, oi_of, oi_add, oi_sub, oA_ap, oA_u2, pi_lt, pi_le, pi_eq, pi_eq0, pi_lt0, pi_le0, pi_gt0, pi_ge0, pi_cl, sb_lit, fv4, isB01, nlt0, EvU_0, wO_ne, wL_ne, wC_ne, wN_ne, pO_ne, pU_ne, CN, LN, -Prod.exists, pi_ti, Op.lookupswitch.offset, EvU_at d163_0, EvU_at d163_1, EvU_at d163_2, EvU_at d163_3, EvU_at d163_6, EvU_at d163_7, EvU_at d163_10, EvU_at d163_13, EvU_at d163_14, EvU_at d163_15, EvU_at d163_18, EvU_at d163_19, EvU_at d163_20, EvU_at d163_23, EvU_at d163_24, EvU_at d163_27, EvU_at d163_28, EvU_at d163_29, EvU_at d163_32, EvU_at d163_35, EvU_at d163_36, EvU_at d163_37, EvU_at d163_38, EvU_at d163_41, EvU_at d163_42, EvU_at d163_43, EvU_at d163_44, EvU_at d163_46, EvU_at d163_49, EvU_at d163_50, EvU_at d163_52, EvU_at d163_55, EvU_at d163_56, EvU_at d163_59, EvU_at d163_62, EvU_at d163_63, EvU_at d163_66, EvU_at d163_67, EvU_at d163_69, EvU_at d163_70, EvU_at d163_71, EvU_at d163_72, EvU_at d163_73, EvU_at d163_76, EvU_at d163_77, EvU_at d163_78, EvU_at d163_81, EvU_at d163_82, EvU_at d163_85, EvU_at d163_86, EvU_at d163_89, EvU_at d163_91, EvU_at d163_92, EvU_at d163_93, EvU_at d163_94, EvU_at d163_95, EvU_at d163_96, EvU_at d163_97, EvU_at d163_98, EvU_at d163_99, EvU_at d163_102, EvU_at d163_105, EvU_at d163_106, EvU_at d163_107, EvU_at d163_108, EvU_at d163_109, EvU_at d163_110, EvU_at d163_111, EvU_at d163_114, EvU_at d163_115, EvU_at d163_116, EvU_at d163_119, EvU_at d163_120, EvU_at d163_121, EvU_at d163_124, EvU_at d163_125, EvU_at d163_128, EvU_at d163_129, EvU_at d163_130, EvU_at d163_133, EvU_at d163_135, EvU_at d163_136, EvU_at d163_137, EvU_at d163_138, EvU_at d163_139, EvU_at d163_140, EvU_at d163_143, EvU_at d163_144, EvU_at d163_147, EvU_at d163_149, EvU_at d163_150, EvU_at d163_151, EvU_at d163_152, EvU_at d163_153, EvU_at d163_154, EvU_at d163_157, EvU_at d163_158, EvU_at d163_161, EvU_at d163_162, EvU_at d163_163, EvU_at d163_166, EvU_at d163_169, EvU_at d163_170, EvU_at d163_173, EvU_at d163_174, Z163, Z117, LyS hL, LyG hL, hA, xm, xo, xo2, r_go hL, Z162, n1, xs, hx, k3, c3]
    · rw [if_neg (fun e => e c2)]
      obtain ⟨i, rfl⟩ : ∃ n : Nat, x = (n : Int) := ⟨x.toNat, by omega⟩
      have hi : i < 20 := by omega
      have as := fun (sl : Nat) (r : Out) => r_aside (A := u2 A 199 0 0) (gl := gl) (sl := sl) (r := r) hL
      have as2 : fillR (u2 A 199 0 0) 209 0 18 (fun j => u2 A 199 0 0 208 j) = asideR A := by
        unfold asideR
        congr 1
      rw [as2] at as
      have e3 : asF (keepF B) i (gO i) 3 = B (gO i) 3 := by rw [asF_ne _ i (by unfold gO; omega) (by unfold gO; omega), keepF_ne B (by unfold gO; omega)]
      have o3 := h.O.G.sg i c1.2
      have bg := h.O.G.bg i c1.2
      have key2 := fun ls => l_rp2 (gl := gl) (sl := sl) (r := r) hL hi (B (gO i) 3).toNat 0 (asR A B i) (asF (keepF B) i) ls (by rw [e3]; omega) (sb_asR h hA c1.2) (RW.as h c1.2) (RX.as h c1.2)
      have e9 : ∀ j, asR A B i 209 j = asideR A 209 j := fun j => asR_ne A B i (by omega) j
      simp only [e9] at key2
      have hbg : ∀ j, j < 18 → 0 ≤ A 213 (18 * i + j) := by
        intro j hj
        by_cases cj : j < 6
        · rw [h.G.bp i c1.2 j cj]
          exact (bg.1 j cj).1
        · obtain ⟨j', rfl⟩ : ∃ j', j = 6 + j' := ⟨j - 6, by omega⟩
          rw [h.G.bq i c1.2 j' (by omega)]
          exact bg.2 j' (by omega)
      have key' := fun ls a b c d => l_rp1 (gl := gl) (sl := sl) (r := r) hL hi (m := B 2 9) (by omega) (ln := fun j => B (pO j) 1) (bg := fun j => A 213 (18 * i + j)) (fun j hj => h.O.M.len j hj) hbg 18 0 (asideR A) ls rfl (sb_aside hA) (by rw [asideR_ne _ (by omega) (by omega)]; exact xm) (fun j hj => by rw [asideR_ne _ (by omega) (by omega)]; exact h.R.len j hj) (fun j hj => asideR_ne _ (by omega) (by omega)) a b c d key2
      rw [EvU_iff (fun p => p == 43) 60]
      unfold repF bringR
      rw [Int.toNat_natCast]
      by_cases co : B 74 2 = 0
      · simp [EvS, stI, enI, caI, s_push, s_iload, s_aload, s_istore, s_astore, s_iinc, s_bin, s_div, s_i2l, s_lcmp, s_dup, s_dup2, s_pop, s_tab, s_look, s_get, s_put, s_iald, s_lald, s_aald, s_iast, s_last, s_aast, s_len, s_newa, s_new, s_thr, s_min, s_copy, s_obj, s_call, s_iret, s_aret, s_vret, go, ldI, lget, lput, lv_args, wsum, va_rf, hnd, cvr, cat_i, cat_r, cat_l, oi_of, oi_add, oi_sub, oA_ap, oA_u2, pi_lt, pi_le, pi_eq, pi_eq0, pi_lt0, pi_le0, pi_gt0, pi_ge0, pi_cl, sb_lit, fv4, isB01, nlt0, EvU_0, wO_ne, wL_ne, wC_ne, wN_ne, pO_ne, pU_ne, CN, LN, -Prod.exists, pi_ti, Op.lookupswitch.offset, EvU_at d163_0, EvU_at d163_1, EvU_at d163_2, EvU_at d163_3, EvU_at d163_6, EvU_at d163_7, EvU_at d163_10, EvU_at d163_13, EvU_at d163_14, EvU_at d163_15, EvU_at d163_18, EvU_at d163_19, EvU_at d163_20, EvU_at d163_23, EvU_at d163_24, EvU_at d163_27, EvU_at d163_28, EvU_at d163_29, EvU_at d163_32, EvU_at d163_35, EvU_at d163_36, EvU_at d163_37, EvU_at d163_38, EvU_at d163_41, EvU_at d163_42, EvU_at d163_43, EvU_at d163_44, EvU_at d163_46, EvU_at d163_49, EvU_at d163_50, EvU_at d163_52, EvU_at d163_55, EvU_at d163_56, EvU_at d163_59, EvU_at d163_62, EvU_at d163_63, EvU_at d163_66, EvU_at d163_67, EvU_at d163_69, EvU_at d163_70, EvU_at d163_71, EvU_at d163_72, EvU_at d163_73, EvU_at d163_76, EvU_at d163_77, EvU_at d163_78, EvU_at d163_81, EvU_at d163_82, EvU_at d163_85, EvU_at d163_86, EvU_at d163_89, EvU_at d163_91, EvU_at d163_92, EvU_at d163_93, EvU_at d163_94, EvU_at d163_95, EvU_at d163_96, EvU_at d163_97, EvU_at d163_98, EvU_at d163_99, EvU_at d163_102, EvU_at d163_105, EvU_at d163_106, EvU_at d163_107, EvU_at d163_108, EvU_at d163_109, EvU_at d163_110, EvU_at d163_111, EvU_at d163_114, EvU_at d163_115, EvU_at d163_116, EvU_at d163_119, EvU_at d163_120, EvU_at d163_121, EvU_at d163_124, EvU_at d163_125, EvU_at d163_128, EvU_at d163_129, EvU_at d163_130, EvU_at d163_133, EvU_at d163_135, EvU_at d163_136, EvU_at d163_137, EvU_at d163_138, EvU_at d163_139, EvU_at d163_140, EvU_at d163_143, EvU_at d163_144, EvU_at d163_147, EvU_at d163_149, EvU_at d163_150, EvU_at d163_151, EvU_at d163_152, EvU_at d163_153, EvU_at d163_154, EvU_at d163_157, EvU_at d163_158, EvU_at d163_161, EvU_at d163_162, EvU_at d163_163, EvU_at d163_166, EvU_at d163_169, EvU_at d163_170, EvU_at d163_173, EvU_at d163_174, Z163, Z117, LyS hL, LyG hL, hA, xm, xo, xo2, r_go hL, Z162, n1, xs, hx, Z155, co, as]
        refine key' _ ?_ ?_ ?_ ?_
        · simp [nl, cat_i, cat_r]
        · simp [lget, cat_i, cat_r]
        · simp [lget, cat_i, cat_r]
        · simp [lget, cat_i, cat_r]
      · have d : ¬ (i : Int) = B 74 1 - 1 := fun e => c2 ⟨co, e⟩
        simp [EvS, stI, enI, caI, s_push, s_iload, s_aload, s_istore, s_astore, s_iinc, s_bin, s_div, s_i2l, s_lcmp, s_dup, s_dup2, s_pop, s_tab, s_look, s_get, s_put, s_iald, s_lald, s_aald, s_iast, s_last, s_aast, s_len, s_newa, s_new, s_thr, s_min, s_copy, s_obj, s_call, s_iret, s_aret, s_vret, go, ldI, lget, lput, lv_args, wsum, va_rf, hnd, cvr, cat_i, cat_r, cat_l, oi_of, oi_add, oi_sub, oA_ap, oA_u2, pi_lt, pi_le, pi_eq, pi_eq0, pi_lt0, pi_le0, pi_gt0, pi_ge0, pi_cl, sb_lit, fv4, isB01, nlt0, EvU_0, wO_ne, wL_ne, wC_ne, wN_ne, pO_ne, pU_ne, CN, LN, -Prod.exists, pi_ti, Op.lookupswitch.offset, EvU_at d163_0, EvU_at d163_1, EvU_at d163_2, EvU_at d163_3, EvU_at d163_6, EvU_at d163_7, EvU_at d163_10, EvU_at d163_13, EvU_at d163_14, EvU_at d163_15, EvU_at d163_18, EvU_at d163_19, EvU_at d163_20, EvU_at d163_23, EvU_at d163_24, EvU_at d163_27, EvU_at d163_28, EvU_at d163_29, EvU_at d163_32, EvU_at d163_35, EvU_at d163_36, EvU_at d163_37, EvU_at d163_38, EvU_at d163_41, EvU_at d163_42, EvU_at d163_43, EvU_at d163_44, EvU_at d163_46, EvU_at d163_49, EvU_at d163_50, EvU_at d163_52, EvU_at d163_55, EvU_at d163_56, EvU_at d163_59, EvU_at d163_62, EvU_at d163_63, EvU_at d163_66, EvU_at d163_67, EvU_at d163_69, EvU_at d163_70, EvU_at d163_71, EvU_at d163_72, EvU_at d163_73, EvU_at d163_76, EvU_at d163_77, EvU_at d163_78, EvU_at d163_81, EvU_at d163_82, EvU_at d163_85, EvU_at d163_86, EvU_at d163_89, EvU_at d163_91, EvU_at d163_92, EvU_at d163_93, EvU_at d163_94, EvU_at d163_95, EvU_at d163_96, EvU_at d163_97, EvU_at d163_98, EvU_at d163_99, EvU_at d163_102, EvU_at d163_105, EvU_at d163_106, EvU_at d163_107, EvU_at d163_108, EvU_at d163_109, EvU_at d163_110, EvU_at d163_111, EvU_at d163_114, EvU_at d163_115, EvU_at d163_116, EvU_at d163_119, EvU_at d163_120, EvU_at d163_121, EvU_at d163_124, EvU_at d163_125, EvU_at d163_128, EvU_at d163_129, EvU_at d163_130, EvU_at d163_133, EvU_at d163_135, EvU_at d163_136, EvU_at d163_137, EvU_at d163_138, EvU_at d163_139, EvU_at d163_140, EvU_at d163_143, EvU_at d163_144, EvU_at d163_147, EvU_at d163_149, EvU_at d163_150, EvU_at d163_151, EvU_at d163_152, EvU_at d163_153, EvU_at d163_154, EvU_at d163_157, EvU_at d163_158, EvU_at d163_161, EvU_at d163_162, EvU_at d163_163, EvU_at d163_166, EvU_at d163_169, EvU_at d163_170, EvU_at d163_173, EvU_at d163_174, Z163, Z117, LyS hL, LyG hL, hA, xm, xo, xo2, r_go hL, Z162, n1, xs, hx, Z155, co, d, k3, as]
        refine key' _ ?_ ?_ ?_ ?_
        · simp [nl, cat_i, cat_r]
        · simp [lget, cat_i, cat_r]
        · simp [lget, cat_i, cat_r]
        · simp [lget, cat_i, cat_r]
  · rw [show b1 (0 ≤ x ∧ x < B 74 1) = 0 from if_neg c1] at n1
    rw [if_pos c1, EvU_iff (fun _ => false) 60]
    by_cases co : B 74 2 = 0
    · simp [EvS, stI, enI, caI, s_push, s_iload, s_aload, s_istore, s_astore, s_iinc, s_bin, s_div, s_i2l, s_lcmp, s_dup, s_dup2, s_pop, s_tab, s_look, s_get, s_put, s_iald, s_lald, s_aald, s_iast, s_last, s_aast, s_len, s_newa, s_new, s_thr, s_min, s_copy, s_obj, s_call, s_iret, s_aret, s_vret, go, ldI, lget, lput, lv_args, wsum, va_rf, hnd, cvr, cat_i, cat_r, cat_l, oi_of, oi_add, oi_sub, oA_ap, oA_u2, pi_lt, pi_le, pi_eq, pi_eq0, pi_lt0, pi_le0, pi_gt0, pi_ge0, pi_cl, sb_lit, fv4, isB01, nlt0, EvU_0, wO_ne, wL_ne, wC_ne, wN_ne, pO_ne, pU_ne, CN, LN, -Prod.exists, pi_ti, Op.lookupswitch.offset, EvU_at d163_0, EvU_at d163_1, EvU_at d163_2, EvU_at d163_3, EvU_at d163_6, EvU_at d163_7, EvU_at d163_10, EvU_at d163_13, EvU_at d163_14, EvU_at d163_15, EvU_at d163_18, EvU_at d163_19, EvU_at d163_20, EvU_at d163_23, EvU_at d163_24, EvU_at d163_27, EvU_at d163_28, EvU_at d163_29, EvU_at d163_32, EvU_at d163_35, EvU_at d163_36, EvU_at d163_37, EvU_at d163_38, EvU_at d163_41, EvU_at d163_42, EvU_at d163_43, EvU_at d163_44, EvU_at d163_46, EvU_at d163_49, EvU_at d163_50, EvU_at d163_52, EvU_at d163_55, EvU_at d163_56, EvU_at d163_59, EvU_at d163_62, EvU_at d163_63, EvU_at d163_66, EvU_at d163_67, EvU_at d163_69, EvU_at d163_70, EvU_at d163_71, EvU_at d163_72, EvU_at d163_73, EvU_at d163_76, EvU_at d163_77, EvU_at d163_78, EvU_at d163_81, EvU_at d163_82, EvU_at d163_85, EvU_at d163_86, EvU_at d163_89, EvU_at d163_91, EvU_at d163_92, EvU_at d163_93, EvU_at d163_94, EvU_at d163_95, EvU_at d163_96, EvU_at d163_97, EvU_at d163_98, EvU_at d163_99, EvU_at d163_102, EvU_at d163_105, EvU_at d163_106, EvU_at d163_107, EvU_at d163_108, EvU_at d163_109, EvU_at d163_110, EvU_at d163_111, EvU_at d163_114, EvU_at d163_115, EvU_at d163_116, EvU_at d163_119, EvU_at d163_120, EvU_at d163_121, EvU_at d163_124, EvU_at d163_125, EvU_at d163_128, EvU_at d163_129, EvU_at d163_130, EvU_at d163_133, EvU_at d163_135, EvU_at d163_136, EvU_at d163_137, EvU_at d163_138, EvU_at d163_139, EvU_at d163_140, EvU_at d163_143, EvU_at d163_144, EvU_at d163_147, EvU_at d163_149, EvU_at d163_150, EvU_at d163_151, EvU_at d163_152, EvU_at d163_153, EvU_at d163_154, EvU_at d163_157, EvU_at d163_158, EvU_at d163_161, EvU_at d163_162, EvU_at d163_163, EvU_at d163_166, EvU_at d163_169, EvU_at d163_170, EvU_at d163_173, EvU_at d163_174, Z163, Z117, LyS hL, LyG hL, hA, xm, xo, xo2, r_go hL, Z162, n1, xs, hx, co]
    · by_cases d : x = B 74 1 - 1
      · have d2 : sb (B 74 1 - 1) := k3
        subst d
        simp [EvS, stI, enI, caI, s_push, s_iload, s_aload, s_istore, s_astore, s_iinc, s_bin, s_div, s_i2l, s_lcmp, s_dup, s_dup2, s_pop, s_tab, s_look, s_get, s_put, s_iald, s_lald, s_aald, s_iast, s_last, s_aast, s_len, s_newa, s_new, s_thr, s_min, s_copy, s_obj, s_call, s_iret, s_aret, s_vret, go, ldI, lget, lput, lv_args, wsum, va_rf, hnd, cvr, cat_i, cat_r, cat_l, oi_of, oi_add, oi_sub, oA_ap, oA_u2, pi_lt, pi_le, pi_eq, pi_eq0, pi_lt0, pi_le0, pi_gt0, pi_ge0, pi_cl, sb_lit, fv4, isB01, nlt0, EvU_0, wO_ne, wL_ne, wC_ne, wN_ne, pO_ne, pU_ne, CN, LN, -Prod.exists, pi_ti, Op.lookupswitch.offset, EvU_at d163_0, EvU_at d163_1, EvU_at d163_2, EvU_at d163_3, EvU_at d163_6, EvU_at d163_7, EvU_at d163_10, EvU_at d163_13, EvU_at d163_14, EvU_at d163_15, EvU_at d163_18, EvU_at d163_19, EvU_at d163_20, EvU_at d163_23, EvU_at d163_24, EvU_at d163_27, EvU_at d163_28, EvU_at d163_29, EvU_at d163_32, EvU_at d163_35, EvU_at d163_36, EvU_at d163_37, EvU_at d163_38, EvU_at d163_41, EvU_at d163_42, EvU_at d163_43, EvU_at d163_44, EvU_at d163_46, EvU_at d163_49, EvU_at d163_50, EvU_at d163_52, EvU_at d163_55, EvU_at d163_56, EvU_at d163_59, EvU_at d163_62, EvU_at d163_63, EvU_at d163_66, EvU_at d163_67, EvU_at d163_69, EvU_at d163_70, EvU_at d163_71, EvU_at d163_72, EvU_at d163_73, EvU_at d163_76, EvU_at d163_77, EvU_at d163_78, EvU_at d163_81, EvU_at d163_82, EvU_at d163_85, EvU_at d163_86, EvU_at d163_89, EvU_at d163_91, EvU_at d163_92, EvU_at d163_93, EvU_at d163_94, EvU_at d163_95, EvU_at d163_96, EvU_at d163_97, EvU_at d163_98, EvU_at d163_99, EvU_at d163_102, EvU_at d163_105, EvU_at d163_106, EvU_at d163_107, EvU_at d163_108, EvU_at d163_109, EvU_at d163_110, EvU_at d163_111, EvU_at d163_114, EvU_at d163_115, EvU_at d163_116, EvU_at d163_119, EvU_at d163_120, EvU_at d163_121, EvU_at d163_124, EvU_at d163_125, EvU_at d163_128, EvU_at d163_129, EvU_at d163_130, EvU_at d163_133, EvU_at d163_135, EvU_at d163_136, EvU_at d163_137, EvU_at d163_138, EvU_at d163_139, EvU_at d163_140, EvU_at d163_143, EvU_at d163_144, EvU_at d163_147, EvU_at d163_149, EvU_at d163_150, EvU_at d163_151, EvU_at d163_152, EvU_at d163_153, EvU_at d163_154, EvU_at d163_157, EvU_at d163_158, EvU_at d163_161, EvU_at d163_162, EvU_at d163_163, EvU_at d163_166, EvU_at d163_169, EvU_at d163_170, EvU_at d163_173, EvU_at d163_174, Z163, Z117, LyS hL, LyG hL, hA, xm, xo, xo2, r_go hL, Z162, n1, xs, hx, co, k3]
      · simp [EvS, stI, enI, caI, s_push, s_iload, s_aload, s_istore, s_astore, s_iinc, s_bin, s_div, s_i2l, s_lcmp, s_dup, s_dup2, s_pop, s_tab, s_look, s_get, s_put, s_iald, s_lald, s_aald, s_iast, s_last, s_aast, s_len, s_newa, s_new, s_thr, s_min, s_copy, s_obj, s_call, s_iret, s_aret, s_vret, go, ldI, lget, lput, lv_args, wsum, va_rf, hnd, cvr, cat_i, cat_r, cat_l, oi_of, oi_add, oi_sub, oA_ap, oA_u2, pi_lt, pi_le, pi_eq, pi_eq0, pi_lt0, pi_le0, pi_gt0, pi_ge0, pi_cl, sb_lit, fv4, isB01, nlt0, EvU_0, wO_ne, wL_ne, wC_ne, wN_ne, pO_ne, pU_ne, CN, LN, -Prod.exists, pi_ti, Op.lookupswitch.offset, EvU_at d163_0, EvU_at d163_1, EvU_at d163_2, EvU_at d163_3, EvU_at d163_6, EvU_at d163_7, EvU_at d163_10, EvU_at d163_13, EvU_at d163_14, EvU_at d163_15, EvU_at d163_18, EvU_at d163_19, EvU_at d163_20, EvU_at d163_23, EvU_at d163_24, EvU_at d163_27, EvU_at d163_28, EvU_at d163_29, EvU_at d163_32, EvU_at d163_35, EvU_at d163_36, EvU_at d163_37, EvU_at d163_38, EvU_at d163_41, EvU_at d163_42, EvU_at d163_43, EvU_at d163_44, EvU_at d163_46, EvU_at d163_49, EvU_at d163_50, EvU_at d163_52, EvU_at d163_55, EvU_at d163_56, EvU_at d163_59, EvU_at d163_62, EvU_at d163_63, EvU_at d163_66, EvU_at d163_67, EvU_at d163_69, EvU_at d163_70, EvU_at d163_71, EvU_at d163_72, EvU_at d163_73, EvU_at d163_76, EvU_at d163_77, EvU_at d163_78, EvU_at d163_81, EvU_at d163_82, EvU_at d163_85, EvU_at d163_86, EvU_at d163_89, EvU_at d163_91, EvU_at d163_92, EvU_at d163_93, EvU_at d163_94, EvU_at d163_95, EvU_at d163_96, EvU_at d163_97, EvU_at d163_98, EvU_at d163_99, EvU_at d163_102, EvU_at d163_105, EvU_at d163_106, EvU_at d163_107, EvU_at d163_108, EvU_at d163_109, EvU_at d163_110, EvU_at d163_111, EvU_at d163_114, EvU_at d163_115, EvU_at d163_116, EvU_at d163_119, EvU_at d163_120, EvU_at d163_121, EvU_at d163_124, EvU_at d163_125, EvU_at d163_128, EvU_at d163_129, EvU_at d163_130, EvU_at d163_133, EvU_at d163_135, EvU_at d163_136, EvU_at d163_137, EvU_at d163_138, EvU_at d163_139, EvU_at d163_140, EvU_at d163_143, EvU_at d163_144, EvU_at d163_147, EvU_at d163_149, EvU_at d163_150, EvU_at d163_151, EvU_at d163_152, EvU_at d163_153, EvU_at d163_154, EvU_at d163_157, EvU_at d163_158, EvU_at d163_161, EvU_at d163_162, EvU_at d163_163, EvU_at d163_166, EvU_at d163_169, EvU_at d163_170, EvU_at d163_173, EvU_at d163_174, Z163, Z117, LyS hL, LyG hL, hA, xm, xo, xo2, r_go hL, Z162, n1, xs, hx, co, d, k3]
end
