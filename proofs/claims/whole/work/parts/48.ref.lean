/-! the reference: bars; the image of a sign -/
section
variable {sh : List (Nat × Nat)} {A B : Nat → Nat → Int} {gl : Nat → Nat → Int64} {gr : Nat → Nat → Option Nat} {sl : Nat} {r : Out}
def barN (B : Nat → Nat → Int) : Nat → Nat → Nat → Nat
  | 0, _, t => t
  | n + 1, b, t => barN B n (b + 1) (if lugB B (B 7 b) = 1 ∨ lugB B (B 8 b) = 1 then t + 1 else t)
theorem barN_le : ∀ (n b t : Nat), barN B n b t ≤ t + n := by
  intro n
  induction n with
  | zero => exact fun b t => Nat.le_refl _
  | succ n ih =>
    intro b t
    rw [barN]
    have := ih (b + 1) (if lugB B (B 7 b) = 1 ∨ lugB B (B 8 b) = 1 then t + 1 else t)
    split at this <;> rename_i c <;> simp only [c, if_true, if_false] <;> omega
/-- counted round, and counted on -/
theorem bars_mod {m : Int} (hm : B 2 9 = m) (h0 : 0 < m) : ∀ (n b t : Nat), barsF B n b ((t : Int) % m) = ((barN B n b t : Nat) : Int) % m := by
  intro n
  induction n with
  | zero => exact fun b t => rfl
  | succ n ih =>
    intro b t
    rw [barsF, barN]
    by_cases c : lugB B (B 7 b) = 1 ∨ lugB B (B 8 b) = 1
    · rw [if_pos c, if_pos c, ← ih]
      congr 1
      have e1 := Int.emod_nonneg (t : Int) (show m ≠ 0 by omega)
      have e2 := Int.emod_lt_of_pos (t : Int) h0
      rw [hm, ← rd_mod (a := (t : Int) % m + 1) h0 (by omega) (by omega), Int.add_emod_right]
      rw [Int.emod_add_emod]
      rfl
    · rw [if_neg c, if_neg c, ih]
set_option maxRecDepth 20000 in
theorem l_rbars (hA : ∀ k j, sb (A k j)) (hL : Lay sh gr) (h : RW A B) {c : Int} (c0 : 0 ≤ c) (c1 : c < B 2 9) : ∀ (n b t : Nat) (ls : Lc), b + n = 27 → t ≤ b → nl ls = true → lget ls 0 = some (.ref 199) → lget ls 1 = some (.int (oi c)) → lget ls 2 = some (.int (oi (t : Int))) → lget ls 3 = some (.int (oi (b : Int))) →
    (Ev (149, 4, ls, [], (sh, oA A, gl, gr), sl) r ↔ r = (.inl (some (.int (oi ((((barN B n b t : Nat) : Int) - c + 2 * B 2 9) % B 2 9)))), (sh, oA A, gl, gr), sl)) := by
  have x0 := h.R.m
  have s3 := h.M.m
  have q6 : sb (B 2 9) := ⟨by omega, by omega⟩
  have q7 : ¬ B 2 9 = 0 := by omega
  intro n
  induction n with
  | zero =>
    intro b t ls hn ht g g0 g1 g2 g3
    obtain rfl : b = 27 := by omega
    have e0 : sb ((27 : Nat) : Int) := ⟨by omega, by omega⟩
    have e1 : (27 : Int) ≤ ((27 : Nat) : Int) := by omega
    have e2 := rem_oi (a := (t : Int) - c + 2 * B 2 9) (b := B 2 9) (by omega) (by omega) ⟨by omega, by omega⟩ q6
    rw [barN, EvU_iff (fun _ => false) 30]
    simp (maxDischargeDepth := 9) [EvS, stI, enI, caI, s_push, s_iload, s_aload, s_istore, s_astore, s_iinc, s_bin, s_div, s_i2l, s_lcmp, s_dup, s_dup2, s_pop, s_tab, s_look, s_get, s_put, s_iald, s_lald, s_aald, s_iast, s_last, s_aast, s_len, s_newa, s_new, s_thr, s_min, s_copy, s_obj, s_call, s_iret, s_aret, s_vret, go, ldI, lget_lput, nl_I, nl_R, lv_args, wsum, va_rf, hnd, cvr, cat_i, cat_r, cat_l, oi_of, oi_add, oi_sub, oA_ap, oA_u2, pi_lt, pi_le, pi_eq, pi_eq0, pi_lt0, pi_le0, pi_gt0, pi_ge0, pi_cl, sb_lit, fv4, isB01, nlt0, EvU_0, wO_ne, wL_ne, wC_ne, wN_ne, pO_ne, pU_ne, CN, LN, -Prod.exists, pi_ti, Op.lookupswitch.offset, EvU_at d149_0, EvU_at d149_1, EvU_at d149_2, EvU_at d149_3, EvU_at d149_4, EvU_at d149_5, EvU_at d149_7, EvU_at d149_10, EvU_at d149_11, EvU_at d149_14, EvU_at d149_15, EvU_at d149_16, EvU_at d149_17, EvU_at d149_18, EvU_at d149_19, EvU_at d149_22, EvU_at d149_23, EvU_at d149_24, EvU_at d149_27, EvU_at d149_28, EvU_at d149_29, EvU_at d149_30, EvU_at d149_31, EvU_at d149_34, EvU_at d149_37, EvU_at d149_38, EvU_at d149_41, EvU_at d149_42, EvU_at d149_44, EvU_at d149_45, EvU_at d149_48, EvU_at d149_49, EvU_at d149_50, EvU_at d149_51, EvU_at d149_52, EvU_at d149_53, EvU_at d149_54, EvU_at d149_55, EvU_at d149_58, EvU_at d149_59, EvU_at d149_60, EvU_at d149_63, EvU_at d149_64, EvU_at d149_65, EvU_at d149_66, EvU_at d149_67, EvU_at d149_68, EvU_at d149_69, EvU_at d149_72, EvU_at d149_75, EvU_at d149_76, EvU_at d149_79, EvU_at d149_80, EvU_at d149_82, EvU_at d149_84, EvU_at d149_87, EvU_at d149_89, EvU_at d149_92, EvU_at d149_93, EvU_at d149_94, EvU_at d149_95, EvU_at d149_98, EvU_at d149_99, EvU_at d149_100, EvU_at d149_103, EvU_at d149_106, EvU_at d149_107, EvU_at d149_108, EvU_at d149_109, EvU_at d149_110, EvU_at d149_111, EvU_at d149_114, EvU_at d149_115, EvU_at d149_116, EvU_at d149_117, EvU_at d149_120, EvU_at d149_121, Z149, LyS hL, LyG hL, hA, oi_mul, g, g0, g1, g2, g3, e0, e1, e2, x0, q6, q7]
  | succ n ih =>
    intro b t ls hn ht g g0 g1 g2 g3
    have hb : b < 27 := by omega
    have q0 : sb (b : Int) := ⟨by omega, by omega⟩
    have q1 : ¬ (27 : Int) ≤ (b : Int) := by omega
    have q2 : ¬ 27 ≤ b := by omega
    have q3 : sb (2 * (b : Int)) := ⟨by omega, by omega⟩
    have q4 : ¬ 2 * (b : Int) < 0 := by omega
    have q5 : (2 * (b : Int)).toNat = 2 * b := by omega
    have q8 : ¬ 54 ≤ 2 * b := by omega
    have q9 : sb (2 * (b : Int) + 1) := ⟨by omega, by omega⟩
    have q10 : ¬ 2 * (b : Int) + 1 < 0 := by omega
    have q11 : (2 * (b : Int) + 1).toNat = 2 * b + 1 := by omega
    have q12 : ¬ 54 ≤ 2 * b + 1 := by omega
    obtain ⟨x1, x2⟩ := h.R.lug b hb
    have s1 := h.M.lug b hb
    rw [EvU_iff (fun _ => false) 1]
    simp (maxDischargeDepth := 9) [EvS, stI, enI, caI, s_push, s_iload, s_aload, s_istore, s_astore, s_iinc, s_bin, s_div, s_i2l, s_lcmp, s_dup, s_dup2, s_pop, s_tab, s_look, s_get, s_put, s_iald, s_lald, s_aald, s_iast, s_last, s_aast, s_len, s_newa, s_new, s_thr, s_min, s_copy, s_obj, s_call, s_iret, s_aret, s_vret, go, ldI, lget_lput, nl_I, nl_R, lv_args, wsum, va_rf, hnd, cvr, cat_i, cat_r, cat_l, oi_of, oi_add, oi_sub, oA_ap, oA_u2, pi_lt, pi_le, pi_eq, pi_eq0, pi_lt0, pi_le0, pi_gt0, pi_ge0, pi_cl, sb_lit, fv4, isB01, nlt0, EvU_0, wO_ne, wL_ne, wC_ne, wN_ne, pO_ne, pU_ne, CN, LN, -Prod.exists, pi_ti, Op.lookupswitch.offset, EvU_at d149_0, EvU_at d149_1, EvU_at d149_2, EvU_at d149_3, EvU_at d149_4, EvU_at d149_5, EvU_at d149_7, EvU_at d149_10, EvU_at d149_11, EvU_at d149_14, EvU_at d149_15, EvU_at d149_16, EvU_at d149_17, EvU_at d149_18, EvU_at d149_19, EvU_at d149_22, EvU_at d149_23, EvU_at d149_24, EvU_at d149_27, EvU_at d149_28, EvU_at d149_29, EvU_at d149_30, EvU_at d149_31, EvU_at d149_34, EvU_at d149_37, EvU_at d149_38, EvU_at d149_41, EvU_at d149_42, EvU_at d149_44, EvU_at d149_45, EvU_at d149_48, EvU_at d149_49, EvU_at d149_50, EvU_at d149_51, EvU_at d149_52, EvU_at d149_53, EvU_at d149_54, EvU_at d149_55, EvU_at d149_58, EvU_at d149_59, EvU_at d149_60, EvU_at d149_63, EvU_at d149_64, EvU_at d149_65, EvU_at d149_66, EvU_at d149_67, EvU_at d149_68, EvU_at d149_69, EvU_at d149_72, EvU_at d149_75, EvU_at d149_76, EvU_at d149_79, EvU_at d149_80, EvU_at d149_82, EvU_at d149_84, EvU_at d149_87, EvU_at d149_89, EvU_at d149_92, EvU_at d149_93, EvU_at d149_94, EvU_at d149_95, EvU_at d149_98, EvU_at d149_99, EvU_at d149_100, EvU_at d149_103, EvU_at d149_106, EvU_at d149_107, EvU_at d149_108, EvU_at d149_109, EvU_at d149_110, EvU_at d149_111, EvU_at d149_114, EvU_at d149_115, EvU_at d149_116, EvU_at d149_117, EvU_at d149_120, EvU_at d149_121, Z149, LyS hL, LyG hL, hA, g, g0, g1, g2, g3, q0]
    rw [EvU_iff (fun p => p == 4) 80, barN]
    have fin : ∀ v : Nat, v = t ∨ v = t + 1 → ∀ x y : Int, (Ev (149, 4, lput (lput (lput (lput ls 4 (.int (oi x))) 5 (.int (oi y))) 2 (.int (oi (v : Int)))) 3 (.int (oi ((b : Int) + 1))), [], (sh, oA A, gl, gr), sl) r ↔ r = (.inl (some (.int (oi ((((barN B n (b + 1) v : Nat) : Int) - c + 2 * B 2 9) % B 2 9)))), (sh, oA A, gl, gr), sl)) := by
      intro v hv x y
      refine ih (b + 1) v _ (by omega) (by omega) ?_ ?_ ?_ ?_ ?_
      · simp (maxDischargeDepth := 9) [lget_lput, nl_I, nl_R, g]
      · simp (maxDischargeDepth := 9) [lget_lput, nl_I, nl_R, g, g0]
      · simp (maxDischargeDepth := 9) [lget_lput, nl_I, nl_R, g, g1]
      · simp (maxDischargeDepth := 9) [lget_lput, nl_I, nl_R, g]
      · simp (maxDischargeDepth := 9) [lget_lput, nl_I, nl_R, g]
    have f0 := fin t (Or.inl rfl)
    have f1 := fin (t + 1) (Or.inr rfl)
    rw [show ((t + 1 : Nat) : Int) = (t : Int) + 1 from rfl] at f1
    by_cases n1 : B 7 b = -1
    · skip
      by_cases n2 : B 8 b = -1
      · simp (maxDischargeDepth := 9) [EvS, stI, enI, caI, s_push, s_iload, s_aload, s_istore, s_astore, s_iinc, s_bin, s_div, s_i2l, s_lcmp, s_dup, s_dup2, s_pop, s_tab, s_look, s_get, s_put, s_iald, s_lald, s_aald, s_iast, s_last, s_aast, s_len, s_newa, s_new, s_thr, s_min, s_copy, s_obj, s_call, s_iret, s_aret, s_vret, go, ldI, lget_lput, nl_I, nl_R, lv_args, wsum, va_rf, hnd, cvr, cat_i, cat_r, cat_l, oi_of, oi_add, oi_sub, oA_ap, oA_u2, pi_lt, pi_le, pi_eq, pi_eq0, pi_lt0, pi_le0, pi_gt0, pi_ge0, pi_cl, sb_lit, fv4, isB01, nlt0, EvU_0, wO_ne, wL_ne, wC_ne, wN_ne, pO_ne, pU_ne, CN, LN, -Prod.exists, pi_ti, Op.lookupswitch.offset, EvU_at d149_0, EvU_at d149_1, EvU_at d149_2, EvU_at d149_3, EvU_at d149_4, EvU_at d149_5, EvU_at d149_7, EvU_at d149_10, EvU_at d149_11, EvU_at d149_14, EvU_at d149_15, EvU_at d149_16, EvU_at d149_17, EvU_at d149_18, EvU_at d149_19, EvU_at d149_22, EvU_at d149_23, EvU_at d149_24, EvU_at d149_27, EvU_at d149_28, EvU_at d149_29, EvU_at d149_30, EvU_at d149_31, EvU_at d149_34, EvU_at d149_37, EvU_at d149_38, EvU_at d149_41, EvU_at d149_42, EvU_at d149_44, EvU_at d149_45, EvU_at d149_48, EvU_at d149_49, EvU_at d149_50, EvU_at d149_51, EvU_at d149_52, EvU_at d149_53, EvU_at d149_54, EvU_at d149_55, EvU_at d149_58, EvU_at d149_59, EvU_at d149_60, EvU_at d149_63, EvU_at d149_64, EvU_at d149_65, EvU_at d149_66, EvU_at d149_67, EvU_at d149_68, EvU_at d149_69, EvU_at d149_72, EvU_at d149_75, EvU_at d149_76, EvU_at d149_79, EvU_at d149_80, EvU_at d149_82, EvU_at d149_84, EvU_at d149_87, EvU_at d149_89, EvU_at d149_92, EvU_at d149_93, EvU_at d149_94, EvU_at d149_95, EvU_at d149_98, EvU_at d149_99, EvU_at d149_100, EvU_at d149_103, EvU_at d149_106, EvU_at d149_107, EvU_at d149_108, EvU_at d149_109, EvU_at d149_110, EvU_at d149_111, EvU_at d149_114, EvU_at d149_115, EvU_at d149_116, EvU_at d149_117, EvU_at d149_120, EvU_at d149_121, Z149, Z143, LyS hL, LyG hL, hA, oi_mul, g, g0, g1, g2, g3, q0, q1, q2, q3, q4, q5, q8, q9, q10, q11, q12, x1, x2, lugB, n1, n2, f0]
      · obtain ⟨k2, h2⟩ : ∃ k : Nat, B 8 b = (k : Int) := ⟨(B 8 b).toNat, by omega⟩
        have a2 := fun (sl : Nat) (r : Out) => r_active (gl := gl) (sl := sl) (r := r) hA hL h (k := k2) (by omega)
        have z2 : ¬ (k2 : Int) = -1 := by omega
        have y2 : sb (k2 : Int) := ⟨by omega, by omega⟩
        rcases upB01 B k2 with w2 | w2
        · rw [w2] at a2
          simp (maxDischargeDepth := 9) [EvS, stI, enI, caI, s_push, s_iload, s_aload, s_istore, s_astore, s_iinc, s_bin, s_div, s_i2l, s_lcmp, s_dup, s_dup2, s_pop, s_tab, s_look, s_get, s_put, s_iald, s_lald, s_aald, s_iast, s_last, s_aast, s_len, s_newa, s_new, s_thr, s_min, s_copy, s_obj, s_call, s_iret, s_aret, s_vret, go, ldI, lget_lput, nl_I, nl_R, lv_args, wsum, va_rf, hnd, cvr, cat_i, cat_r, cat_l, oi_of, oi_add, oi_sub, oA_ap, oA_u2, pi_lt, pi_le, pi_eq, pi_eq0, pi_lt0, pi_le0, pi_gt0, pi_ge0, pi_cl, sb_lit, fv4, isB01, nlt0, EvU_0, wO_ne, wL_ne, wC_ne, wN_ne, pO_ne, pU_ne, CN, LN, -Prod.exists, pi_ti, Op.lookupswitch.offset, EvU_at d149_0, EvU_at d149_1, EvU_at d149_2, EvU_at d149_3, EvU_at d149_4, EvU_at d149_5, EvU_at d149_7, EvU_at d149_10, EvU_at d149_11, EvU_at d149_14, EvU_at d149_15, EvU_at d149_16, EvU_at d149_17, EvU_at d149_18, EvU_at d149_19, EvU_at d149_22, EvU_at d149_23, EvU_at d149_24, EvU_at d149_27, EvU_at d149_28, EvU_at d149_29, EvU_at d149_30, EvU_at d149_31, EvU_at d149_34, EvU_at d149_37, EvU_at d149_38, EvU_at d149_41, EvU_at d149_42, EvU_at d149_44, EvU_at d149_45, EvU_at d149_48, EvU_at d149_49, EvU_at d149_50, EvU_at d149_51, EvU_at d149_52, EvU_at d149_53, EvU_at d149_54, EvU_at d149_55, EvU_at d149_58, EvU_at d149_59, EvU_at d149_60, EvU_at d149_63, EvU_at d149_64, EvU_at d149_65, EvU_at d149_66, EvU_at d149_67, EvU_at d149_68, EvU_at d149_69, EvU_at d149_72, EvU_at d149_75, EvU_at d149_76, EvU_at d149_79, EvU_at d149_80, EvU_at d149_82, EvU_at d149_84, EvU_at d149_87, EvU_at d149_89, EvU_at d149_92, EvU_at d149_93, EvU_at d149_94, EvU_at d149_95, EvU_at d149_98, EvU_at d149_99, EvU_at d149_100, EvU_at d149_103, EvU_at d149_106, EvU_at d149_107, EvU_at d149_108, EvU_at d149_109, EvU_at d149_110, EvU_at d149_111, EvU_at d149_114, EvU_at d149_115, EvU_at d149_116, EvU_at d149_117, EvU_at d149_120, EvU_at d149_121, Z149, Z143, LyS hL, LyG hL, hA, oi_mul, g, g0, g1, g2, g3, q0, q1, q2, q3, q4, q5, q8, q9, q10, q11, q12, x1, x2, lugB, n1, h2, z2, y2, a2, w2, f0]
        · rw [w2] at a2
          simp (maxDischargeDepth := 9) [EvS, stI, enI, caI, s_push, s_iload, s_aload, s_istore, s_astore, s_iinc, s_bin, s_div, s_i2l, s_lcmp, s_dup, s_dup2, s_pop, s_tab, s_look, s_get, s_put, s_iald, s_lald, s_aald, s_iast, s_last, s_aast, s_len, s_newa, s_new, s_thr, s_min, s_copy, s_obj, s_call, s_iret, s_aret, s_vret, go, ldI, lget_lput, nl_I, nl_R, lv_args, wsum, va_rf, hnd, cvr, cat_i, cat_r, cat_l, oi_of, oi_add, oi_sub, oA_ap, oA_u2, pi_lt, pi_le, pi_eq, pi_eq0, pi_lt0, pi_le0, pi_gt0, pi_ge0, pi_cl, sb_lit, fv4, isB01, nlt0, EvU_0, wO_ne, wL_ne, wC_ne, wN_ne, pO_ne, pU_ne, CN, LN, -Prod.exists, pi_ti, Op.lookupswitch.offset, EvU_at d149_0, EvU_at d149_1, EvU_at d149_2, EvU_at d149_3, EvU_at d149_4, EvU_at d149_5, EvU_at d149_7, EvU_at d149_10, EvU_at d149_11, EvU_at d149_14, EvU_at d149_15, EvU_at d149_16, EvU_at d149_17, EvU_at d149_18, EvU_at d149_19, EvU_at d149_22, EvU_at d149_23, EvU_at d149_24, EvU_at d149_27, EvU_at d149_28, EvU_at d149_29, EvU_at d149_30, EvU_at d149_31, EvU_at d149_34, EvU_at d149_37, EvU_at d149_38, EvU_at d149_41, EvU_at d149_42, EvU_at d149_44, EvU_at d149_45, EvU_at d149_48, EvU_at d149_49, EvU_at d149_50, EvU_at d149_51, EvU_at d149_52, EvU_at d149_53, EvU_at d149_54, EvU_at d149_55, EvU_at d149_58, EvU_at d149_59, EvU_at d149_60, EvU_at d149_63, EvU_at d149_64, EvU_at d149_65, EvU_at d149_66, EvU_at d149_67, EvU_at d149_68, EvU_at d149_69, EvU_at d149_72, EvU_at d149_75, EvU_at d149_76, EvU_at d149_79, EvU_at d149_80, EvU_at d149_82, EvU_at d149_84, EvU_at d149_87, EvU_at d149_89, EvU_at d149_92, EvU_at d149_93, EvU_at d149_94, EvU_at d149_95, EvU_at d149_98, EvU_at d149_99, EvU_at d149_100, EvU_at d149_103, EvU_at d149_106, EvU_at d149_107, EvU_at d149_108, EvU_at d149_109, EvU_at d149_110, EvU_at d149_111, EvU_at d149_114, EvU_at d149_115, EvU_at d149_116, EvU_at d149_117, EvU_at d149_120, EvU_at d149_121, Z149, Z143, LyS hL, LyG hL, hA, oi_mul, g, g0, g1, g2, g3, q0, q1, q2, q3, q4, q5, q8, q9, q10, q11, q12, x1, x2, lugB, n1, h2, z2, y2, a2, w2, f1]
    · obtain ⟨k1, h1⟩ : ∃ k : Nat, B 7 b = (k : Int) := ⟨(B 7 b).toNat, by omega⟩
      have a1 := fun (sl : Nat) (r : Out) => r_active (gl := gl) (sl := sl) (r := r) hA hL h (k := k1) (by omega)
      have z1 : ¬ (k1 : Int) = -1 := by omega
      have y1 : sb (k1 : Int) := ⟨by omega, by omega⟩
      rcases upB01 B k1 with w1 | w1
      · rw [w1] at a1
        by_cases n2 : B 8 b = -1
        · simp (maxDischargeDepth := 9) [EvS, stI, enI, caI, s_push, s_iload, s_aload, s_istore, s_astore, s_iinc, s_bin, s_div, s_i2l, s_lcmp, s_dup, s_dup2, s_pop, s_tab, s_look, s_get, s_put, s_iald, s_lald, s_aald, s_iast, s_last, s_aast, s_len, s_newa, s_new, s_thr, s_min, s_copy, s_obj, s_call, s_iret, s_aret, s_vret, go, ldI, lget_lput, nl_I, nl_R, lv_args, wsum, va_rf, hnd, cvr, cat_i, cat_r, cat_l, oi_of, oi_add, oi_sub, oA_ap, oA_u2, pi_lt, pi_le, pi_eq, pi_eq0, pi_lt0, pi_le0, pi_gt0, pi_ge0, pi_cl, sb_lit, fv4, isB01, nlt0, EvU_0, wO_ne, wL_ne, wC_ne, wN_ne, pO_ne, pU_ne, CN, LN, -Prod.exists, pi_ti, Op.lookupswitch.offset, EvU_at d149_0, EvU_at d149_1, EvU_at d149_2, EvU_at d149_3, EvU_at d149_4, EvU_at d149_5, EvU_at d149_7, EvU_at d149_10, EvU_at d149_11, EvU_at d149_14, EvU_at d149_15, EvU_at d149_16, EvU_at d149_17, EvU_at d149_18, EvU_at d149_19, EvU_at d149_22, EvU_at d149_23, EvU_at d149_24, EvU_at d149_27, EvU_at d149_28, EvU_at d149_29, EvU_at d149_30, EvU_at d149_31, EvU_at d149_34, EvU_at d149_37, EvU_at d149_38, EvU_at d149_41, EvU_at d149_42, EvU_at d149_44, EvU_at d149_45, EvU_at d149_48, EvU_at d149_49, EvU_at d149_50, EvU_at d149_51, EvU_at d149_52, EvU_at d149_53, EvU_at d149_54, EvU_at d149_55, EvU_at d149_58, EvU_at d149_59, EvU_at d149_60, EvU_at d149_63, EvU_at d149_64, EvU_at d149_65, EvU_at d149_66, EvU_at d149_67, EvU_at d149_68, EvU_at d149_69, EvU_at d149_72, EvU_at d149_75, EvU_at d149_76, EvU_at d149_79, EvU_at d149_80, EvU_at d149_82, EvU_at d149_84, EvU_at d149_87, EvU_at d149_89, EvU_at d149_92, EvU_at d149_93, EvU_at d149_94, EvU_at d149_95, EvU_at d149_98, EvU_at d149_99, EvU_at d149_100, EvU_at d149_103, EvU_at d149_106, EvU_at d149_107, EvU_at d149_108, EvU_at d149_109, EvU_at d149_110, EvU_at d149_111, EvU_at d149_114, EvU_at d149_115, EvU_at d149_116, EvU_at d149_117, EvU_at d149_120, EvU_at d149_121, Z149, Z143, LyS hL, LyG hL, hA, oi_mul, g, g0, g1, g2, g3, q0, q1, q2, q3, q4, q5, q8, q9, q10, q11, q12, x1, x2, lugB, h1, z1, y1, a1, w1, n2, f0]
        · obtain ⟨k2, h2⟩ : ∃ k : Nat, B 8 b = (k : Int) := ⟨(B 8 b).toNat, by omega⟩
          have a2 := fun (sl : Nat) (r : Out) => r_active (gl := gl) (sl := sl) (r := r) hA hL h (k := k2) (by omega)
          have z2 : ¬ (k2 : Int) = -1 := by omega
          have y2 : sb (k2 : Int) := ⟨by omega, by omega⟩
          rcases upB01 B k2 with w2 | w2
          · rw [w2] at a2
            simp (maxDischargeDepth := 9) [EvS, stI, enI, caI, s_push, s_iload, s_aload, s_istore, s_astore, s_iinc, s_bin, s_div, s_i2l, s_lcmp, s_dup, s_dup2, s_pop, s_tab, s_look, s_get, s_put, s_iald, s_lald, s_aald, s_iast, s_last, s_aast, s_len, s_newa, s_new, s_thr, s_min, s_copy, s_obj, s_call, s_iret, s_aret, s_vret, go, ldI, lget_lput, nl_I, nl_R, lv_args, wsum, va_rf, hnd, cvr, cat_i, cat_r, cat_l, oi_of, oi_add, oi_sub, oA_ap, oA_u2, pi_lt, pi_le, pi_eq, pi_eq0, pi_lt0, pi_le0, pi_gt0, pi_ge0, pi_cl, sb_lit, fv4, isB01, nlt0, EvU_0, wO_ne, wL_ne, wC_ne, wN_ne, pO_ne, pU_ne, CN, LN, -Prod.exists, pi_ti, Op.lookupswitch.offset, EvU_at d149_0, EvU_at d149_1, EvU_at d149_2, EvU_at d149_3, EvU_at d149_4, EvU_at d149_5, EvU_at d149_7, EvU_at d149_10, EvU_at d149_11, EvU_at d149_14, EvU_at d149_15, EvU_at d149_16, EvU_at d149_17, EvU_at d149_18, EvU_at d149_19, EvU_at d149_22, EvU_at d149_23, EvU_at d149_24, EvU_at d149_27, EvU_at d149_28, EvU_at d149_29, EvU_at d149_30, EvU_at d149_31, EvU_at d149_34, EvU_at d149_37, EvU_at d149_38, EvU_at d149_41, EvU_at d149_42, EvU_at d149_44, EvU_at d149_45, EvU_at d149_48, EvU_at d149_49, EvU_at d149_50, EvU_at d149_51, EvU_at d149_52, EvU_at d149_53, EvU_at d149_54, EvU_at d149_55, EvU_at d149_58, EvU_at d149_59, EvU_at d149_60, EvU_at d149_63, EvU_at d149_64, EvU_at d149_65, EvU_at d149_66, EvU_at d149_67, EvU_at d149_68, EvU_at d149_69, EvU_at d149_72, EvU_at d149_75, EvU_at d149_76, EvU_at d149_79, EvU_at d149_80, EvU_at d149_82, EvU_at d149_84, EvU_at d149_87, EvU_at d149_89, EvU_at d149_92, EvU_at d149_93, EvU_at d149_94, EvU_at d149_95, EvU_at d149_98, EvU_at d149_99, EvU_at d149_100, EvU_at d149_103, EvU_at d149_106, EvU_at d149_107, EvU_at d149_108, EvU_at d149_109, EvU_at d149_110, EvU_at d149_111, EvU_at d149_114, EvU_at d149_115, EvU_at d149_116, EvU_at d149_117, EvU_at d149_120, EvU_at d149_121, Z149, Z143, LyS hL, LyG hL, hA, oi_mul, g, g0, g1, g2, g3, q0, q1, q2, q3, q4, q5, q8, q9, q10, q11, q12, x1, x2, lugB, h1, z1, y1, a1, w1, h2, z2, y2, a2, w2, f0]
          · rw [w2] at a2
            simp (maxDischargeDepth := 9) [EvS, stI, enI, caI, s_push, s_iload, s_aload, s_istore, s_astore, s_iinc, s_bin, s_div, s_i2l, s_lcmp, s_dup, s_dup2, s_pop, s_tab, s_look, s_get, s_put, s_iald, s_lald, s_aald, s_iast, s_last, s_aast, s_len, s_newa, s_new, s_thr, s_min, s_copy, s_obj, s_call, s_iret, s_aret, s_vret, go, ldI, lget_lput, nl_I, nl_R, lv_args, wsum, va_rf, hnd, cvr, cat_i, cat_r, cat_l, oi_of, oi_add, oi_sub, oA_ap, oA_u2, pi_lt, pi_le, pi_eq, pi_eq0, pi_lt0, pi_le0, pi_gt0, pi_ge0, pi_cl, sb_lit, fv4, isB01, nlt0, EvU_0, wO_ne, wL_ne, wC_ne, wN_ne, pO_ne, pU_ne, CN, LN, -Prod.exists, pi_ti, Op.lookupswitch.offset, EvU_at d149_0, EvU_at d149_1, EvU_at d149_2, EvU_at d149_3, EvU_at d149_4, EvU_at d149_5, EvU_at d149_7, EvU_at d149_10, EvU_at d149_11, EvU_at d149_14, EvU_at d149_15, EvU_at d149_16, EvU_at d149_17, EvU_at d149_18, EvU_at d149_19, EvU_at d149_22, EvU_at d149_23, EvU_at d149_24, EvU_at d149_27, EvU_at d149_28, EvU_at d149_29, EvU_at d149_30, EvU_at d149_31, EvU_at d149_34, EvU_at d149_37, EvU_at d149_38, EvU_at d149_41, EvU_at d149_42, EvU_at d149_44, EvU_at d149_45, EvU_at d149_48, EvU_at d149_49, EvU_at d149_50, EvU_at d149_51, EvU_at d149_52, EvU_at d149_53, EvU_at d149_54, EvU_at d149_55, EvU_at d149_58, EvU_at d149_59, EvU_at d149_60, EvU_at d149_63, EvU_at d149_64, EvU_at d149_65, EvU_at d149_66, EvU_at d149_67, EvU_at d149_68, EvU_at d149_69, EvU_at d149_72, EvU_at d149_75, EvU_at d149_76, EvU_at d149_79, EvU_at d149_80, EvU_at d149_82, EvU_at d149_84, EvU_at d149_87, EvU_at d149_89, EvU_at d149_92, EvU_at d149_93, EvU_at d149_94, EvU_at d149_95, EvU_at d149_98, EvU_at d149_99, EvU_at d149_100, EvU_at d149_103, EvU_at d149_106, EvU_at d149_107, EvU_at d149_108, EvU_at d149_109, EvU_at d149_110, EvU_at d149_111, EvU_at d149_114, EvU_at d149_115, EvU_at d149_116, EvU_at d149_117, EvU_at d149_120, EvU_at d149_121, Z149, Z143, LyS hL, LyG hL, hA, oi_mul, g, g0, g1, g2, g3, q0, q1, q2, q3, q4, q5, q8, q9, q10, q11, q12, x1, x2, lugB, h1, z1, y1, a1, w1, h2, z2, y2, a2, w2, f1]
      · rw [w1] at a1
        by_cases n2 : B 8 b = -1
        · simp (maxDischargeDepth := 9) [EvS, stI, enI, caI, s_push, s_iload, s_aload, s_istore, s_astore, s_iinc, s_bin, s_div, s_i2l, s_lcmp, s_dup, s_dup2, s_pop, s_tab, s_look, s_get, s_put, s_iald, s_lald, s_aald, s_iast, s_last, s_aast, s_len, s_newa, s_new, s_thr, s_min, s_copy, s_obj, s_call, s_iret, s_aret, s_vret, go, ldI, lget_lput, nl_I, nl_R, lv_args, wsum, va_rf, hnd, cvr, cat_i, cat_r, cat_l, oi_of, oi_add, oi_sub, oA_ap, oA_u2, pi_lt, pi_le, pi_eq, pi_eq0, pi_lt0, pi_le0, pi_gt0, pi_ge0, pi_cl, sb_lit, fv4, isB01, nlt0, EvU_0, wO_ne, wL_ne, wC_ne, wN_ne, pO_ne, pU_ne, CN, LN, -Prod.exists, pi_ti, Op.lookupswitch.offset, EvU_at d149_0, EvU_at d149_1, EvU_at d149_2, EvU_at d149_3, EvU_at d149_4, EvU_at d149_5, EvU_at d149_7, EvU_at d149_10, EvU_at d149_11, EvU_at d149_14, EvU_at d149_15, EvU_at d149_16, EvU_at d149_17, EvU_at d149_18, EvU_at d149_19, EvU_at d149_22, EvU_at d149_23, EvU_at d149_24, EvU_at d149_27, EvU_at d149_28, EvU_at d149_29, EvU_at d149_30, EvU_at d149_31, EvU_at d149_34, EvU_at d149_37, EvU_at d149_38, EvU_at d149_41, EvU_at d149_42, EvU_at d149_44, EvU_at d149_45, EvU_at d149_48, EvU_at d149_49, EvU_at d149_50, EvU_at d149_51, EvU_at d149_52, EvU_at d149_53, EvU_at d149_54, EvU_at d149_55, EvU_at d149_58, EvU_at d149_59, EvU_at d149_60, EvU_at d149_63, EvU_at d149_64, EvU_at d149_65, EvU_at d149_66, EvU_at d149_67, EvU_at d149_68, EvU_at d149_69, EvU_at d149_72, EvU_at d149_75, EvU_at d149_76, EvU_at d149_79, EvU_at d149_80, EvU_at d149_82, EvU_at d149_84, EvU_at d149_87, EvU_at d149_89, EvU_at d149_92, EvU_at d149_93, EvU_at d149_94, EvU_at d149_95, EvU_at d149_98, EvU_at d149_99, EvU_at d149_100, EvU_at d149_103, EvU_at d149_106, EvU_at d149_107, EvU_at d149_108, EvU_at d149_109, EvU_at d149_110, EvU_at d149_111, EvU_at d149_114, EvU_at d149_115, EvU_at d149_116, EvU_at d149_117, EvU_at d149_120, EvU_at d149_121, Z149, Z143, LyS hL, LyG hL, hA, oi_mul, g, g0, g1, g2, g3, q0, q1, q2, q3, q4, q5, q8, q9, q10, q11, q12, x1, x2, lugB, h1, z1, y1, a1, w1, n2, f1]
        · obtain ⟨k2, h2⟩ : ∃ k : Nat, B 8 b = (k : Int) := ⟨(B 8 b).toNat, by omega⟩
          have a2 := fun (sl : Nat) (r : Out) => r_active (gl := gl) (sl := sl) (r := r) hA hL h (k := k2) (by omega)
          have z2 : ¬ (k2 : Int) = -1 := by omega
          have y2 : sb (k2 : Int) := ⟨by omega, by omega⟩
          rcases upB01 B k2 with w2 | w2
          · rw [w2] at a2
            simp (maxDischargeDepth := 9) [EvS, stI, enI, caI, s_push, s_iload, s_aload, s_istore, s_astore, s_iinc, s_bin, s_div, s_i2l, s_lcmp, s_dup, s_dup2, s_pop, s_tab, s_look, s_get, s_put, s_iald, s_lald, s_aald, s_iast, s_last, s_aast, s_len, s_newa, s_new, s_thr, s_min, s_copy, s_obj, s_call, s_iret, s_aret, s_vret, go, ldI, lget_lput, nl_I, nl_R, lv_args, wsum, va_rf, hnd, cvr, cat_i, cat_r, cat_l, oi_of, oi_add, oi_sub, oA_ap, oA_u2, pi_lt, pi_le, pi_eq, pi_eq0, pi_lt0, pi_le0, pi_gt0, pi_ge0, pi_cl, sb_lit, fv4, isB01, nlt0, EvU_0, wO_ne, wL_ne, wC_ne, wN_ne, pO_ne, pU_ne, CN, LN, -Prod.exists, pi_ti, Op.lookupswitch.offset, EvU_at d149_0, EvU_at d149_1, EvU_at d149_2, EvU_at d149_3, EvU_at d149_4, EvU_at d149_5, EvU_at d149_7, EvU_at d149_10, EvU_at d149_11, EvU_at d149_14, EvU_at d149_15, EvU_at d149_16, EvU_at d149_17, EvU_at d149_18, EvU_at d149_19, EvU_at d149_22, EvU_at d149_23, EvU_at d149_24, EvU_at d149_27, EvU_at d149_28, EvU_at d149_29, EvU_at d149_30, EvU_at d149_31, EvU_at d149_34, EvU_at d149_37, EvU_at d149_38, EvU_at d149_41, EvU_at d149_42, EvU_at d149_44, EvU_at d149_45, EvU_at d149_48, EvU_at d149_49, EvU_at d149_50, EvU_at d149_51, EvU_at d149_52, EvU_at d149_53, EvU_at d149_54, EvU_at d149_55, EvU_at d149_58, EvU_at d149_59, EvU_at d149_60, EvU_at d149_63, EvU_at d149_64, EvU_at d149_65, EvU_at d149_66, EvU_at d149_67, EvU_at d149_68, EvU_at d149_69, EvU_at d149_72, EvU_at d149_75, EvU_at d149_76, EvU_at d149_79, EvU_at d149_80, EvU_at d149_82, EvU_at d149_84, EvU_at d149_87, EvU_at d149_89, EvU_at d149_92, EvU_at d149_93, EvU_at d149_94, EvU_at d149_95, EvU_at d149_98, EvU_at d149_99, EvU_at d149_100, EvU_at d149_103, EvU_at d149_106, EvU_at d149_107, EvU_at d149_108, EvU_at d149_109, EvU_at d149_110, EvU_at d149_111, EvU_at d149_114, EvU_at d149_115, EvU_at d149_116, EvU_at d149_117, EvU_at d149_120, EvU_at d149_121, Z149, Z143, LyS hL, LyG hL, hA, oi_mul, g, g0, g1, g2, g3, q0, q1, q2, q3, q4, q5, q8, q9, q10, q11, q12, x1, x2, lugB, h1, z1, y1, a1, w1, h2, z2, y2, a2, w2, f1]
          · rw [w2] at a2
            simp (maxDischargeDepth := 9) [EvS, stI, enI, caI, s_push, s_iload, s_aload, s_istore, s_astore, s_iinc, s_bin, s_div, s_i2l, s_lcmp, s_dup, s_dup2, s_pop, s_tab, s_look, s_get, s_put, s_iald, s_lald, s_aald, s_iast, s_last, s_aast, s_len, s_newa, s_new, s_thr, s_min, s_copy, s_obj, s_call, s_iret, s_aret, s_vret, go, ldI, lget_lput, nl_I, nl_R, lv_args, wsum, va_rf, hnd, cvr, cat_i, cat_r, cat_l, oi_of, oi_add, oi_sub, oA_ap, oA_u2, pi_lt, pi_le, pi_eq, pi_eq0, pi_lt0, pi_le0, pi_gt0, pi_ge0, pi_cl, sb_lit, fv4, isB01, nlt0, EvU_0, wO_ne, wL_ne, wC_ne, wN_ne, pO_ne, pU_ne, CN, LN, -Prod.exists, pi_ti, Op.lookupswitch.offset, EvU_at d149_0, EvU_at d149_1, EvU_at d149_2, EvU_at d149_3, EvU_at d149_4, EvU_at d149_5, EvU_at d149_7, EvU_at d149_10, EvU_at d149_11, EvU_at d149_14, EvU_at d149_15, EvU_at d149_16, EvU_at d149_17, EvU_at d149_18, EvU_at d149_19, EvU_at d149_22, EvU_at d149_23, EvU_at d149_24, EvU_at d149_27, EvU_at d149_28, EvU_at d149_29, EvU_at d149_30, EvU_at d149_31, EvU_at d149_34, EvU_at d149_37, EvU_at d149_38, EvU_at d149_41, EvU_at d149_42, EvU_at d149_44, EvU_at d149_45, EvU_at d149_48, EvU_at d149_49, EvU_at d149_50, EvU_at d149_51, EvU_at d149_52, EvU_at d149_53, EvU_at d149_54, EvU_at d149_55, EvU_at d149_58, EvU_at d149_59, EvU_at d149_60, EvU_at d149_63, EvU_at d149_64, EvU_at d149_65, EvU_at d149_66, EvU_at d149_67, EvU_at d149_68, EvU_at d149_69, EvU_at d149_72, EvU_at d149_75, EvU_at d149_76, EvU_at d149_79, EvU_at d149_80, EvU_at d149_82, EvU_at d149_84, EvU_at d149_87, EvU_at d149_89, EvU_at d149_92, EvU_at d149_93, EvU_at d149_94, EvU_at d149_95, EvU_at d149_98, EvU_at d149_99, EvU_at d149_100, EvU_at d149_103, EvU_at d149_106, EvU_at d149_107, EvU_at d149_108, EvU_at d149_109, EvU_at d149_110, EvU_at d149_111, EvU_at d149_114, EvU_at d149_115, EvU_at d149_116, EvU_at d149_117, EvU_at d149_120, EvU_at d149_121, Z149, Z143, LyS hL, LyG hL, hA, oi_mul, g, g0, g1, g2, g3, q0, q1, q2, q3, q4, q5, q8, q9, q10, q11, q12, x1, x2, lugB, h1, z1, y1, a1, w1, h2, z2, y2, a2, w2, f1]
set_option maxRecDepth 20000 in
theorem r_bars (hA : ∀ k j, sb (A k j)) (hL : Lay sh gr) (h : RW A B) {c : Int} (c0 : 0 ≤ c) (c1 : c < B 2 9) : Ev (149, 0, [(0, .ref 199), (1, .int (oi c))], [], (sh, oA A, gl, gr), sl) r ↔ r = (.inl (some (.int (oi (rd (barsF B 27 0 0 - c) (B 2 9))))), (sh, oA A, gl, gr), sl) := by
  have s3 := h.M.m
  have e0 := bars_mod (B := B) (m := B 2 9) rfl (by omega) 27 0 0
  rw [show ((0 : Nat) : Int) % B 2 9 = 0 from Int.zero_emod _] at e0
  have e1 := Int.emod_nonneg ((barN B 27 0 0 : Nat) : Int) (show B 2 9 ≠ 0 by omega)
  have e2 := Int.emod_lt_of_pos ((barN B 27 0 0 : Nat) : Int) (show 0 < B 2 9 by omega)
  have e3 : rd (barsF B 27 0 0 - c) (B 2 9) = (((barN B 27 0 0 : Nat) : Int) - c + 2 * B 2 9) % B 2 9 := by
    rw [e0, ← rd_mod (by omega) (by omega) (by omega), Int.add_emod_right, Int.emod_sub_emod, show ((barN B 27 0 0 : Nat) : Int) - c + 2 * B 2 9 = ((barN B 27 0 0 : Nat) : Int) - c + B 2 9 + B 2 9 by omega, Int.add_emod_right, Int.add_emod_right]
  have key := fun ls => l_rbars (gl := gl) (sl := sl) (r := r) hA hL h c0 c1 27 0 0 ls rfl (by omega)
  rw [← e3] at key
  rw [EvU_iff (fun p => p == 4) 20]
  simp [EvS, stI, enI, caI, s_push, s_iload, s_aload, s_istore, s_astore, s_iinc, s_bin, s_div, s_i2l, s_lcmp, s_dup, s_dup2, s_pop, s_tab, s_look, s_get, s_put, s_iald, s_lald, s_aald, s_iast, s_last, s_aast, s_len, s_newa, s_new, s_thr, s_min, s_copy, s_obj, s_call, s_iret, s_aret, s_vret, go, ldI, lget, lput, lv_args, wsum, va_rf, hnd, cvr, cat_i, cat_r, cat_l, oi_of, oi_add, oi_sub, oA_ap, oA_u2, pi_lt, pi_le, pi_eq, pi_eq0, pi_lt0, pi_le0, pi_gt0, pi_ge0, pi_cl, sb_lit, fv4, isB01, nlt0, EvU_0, wO_ne, wL_ne, wC_ne, wN_ne, pO_ne, pU_ne, CN, LN, -Prod.exists, pi_ti, Op.lookupswitch.offset, EvU_at d149_0, EvU_at d149_1, EvU_at d149_2, EvU_at d149_3, EvU_at d149_4, EvU_at d149_5, EvU_at d149_7, EvU_at d149_10, EvU_at d149_11, EvU_at d149_14, EvU_at d149_15, EvU_at d149_16, EvU_at d149_17, EvU_at d149_18, EvU_at d149_19, EvU_at d149_22, EvU_at d149_23, EvU_at d149_24, EvU_at d149_27, EvU_at d149_28, EvU_at d149_29, EvU_at d149_30, EvU_at d149_31, EvU_at d149_34, EvU_at d149_37, EvU_at d149_38, EvU_at d149_41, EvU_at d149_42, EvU_at d149_44, EvU_at d149_45, EvU_at d149_48, EvU_at d149_49, EvU_at d149_50, EvU_at d149_51, EvU_at d149_52, EvU_at d149_53, EvU_at d149_54, EvU_at d149_55, EvU_at d149_58, EvU_at d149_59, EvU_at d149_60, EvU_at d149_63, EvU_at d149_64, EvU_at d149_65, EvU_at d149_66, EvU_at d149_67, EvU_at d149_68, EvU_at d149_69, EvU_at d149_72, EvU_at d149_75, EvU_at d149_76, EvU_at d149_79, EvU_at d149_80, EvU_at d149_82, EvU_at d149_84, EvU_at d149_87, EvU_at d149_89, EvU_at d149_92, EvU_at d149_93, EvU_at d149_94, EvU_at d149_95, EvU_at d149_98, EvU_at d149_99, EvU_at d149_100, EvU_at d149_103, EvU_at d149_106, EvU_at d149_107, EvU_at d149_108, EvU_at d149_109, EvU_at d149_110, EvU_at d149_111, EvU_at d149_114, EvU_at d149_115, EvU_at d149_116, EvU_at d149_117, EvU_at d149_120, EvU_at d149_121, Z149]
  refine key _ ?_ ?_ ?_ ?_ ?_
  · simp [nl, cat_i, cat_r]
  · simp [lget, cat_i, cat_r]
  · simp [lget, cat_i, cat_r]
  · simp [lget, cat_i, cat_r]
  · simp [lget, cat_i, cat_r]
/-- slot by slot is the filled ones in their order -/
theorem intoF_l {k : Nat} (h : OrdAt B k) : ∀ (n i : Nat) (c : Int), i + n = (ordM k).length → intoF B n i c = ((ordM k).drop i).foldl (fun c s => passA B (B 4 s).toNat (wL (B 4 s).toNat) c (B 14 s) (B 2 9)) c := by
  intro n
  induction n with
  | zero =>
    intro i c hi
    rw [intoF, List.drop_of_length_le (by omega)]
    rfl
  | succ n ih =>
    intro i c hi
    have hl : i < (ordM k).length := by omega
    rw [intoF, ih (i + 1) _ (by omega), List.drop_eq_getElem_cons hl, List.foldl_cons]
    have e : B 5 i = ((ordM k)[i] : Nat) := by
      rw [h.2.2.2 i hl, List.getD_eq_getElem?_getD, List.getElem?_eq_getElem hl]
      rfl
    unfold oneIn
    rw [e, Int.toNat_natCast]
theorem fromF_l {k : Nat} (h : OrdAt B k) : ∀ (n : Nat) (c : Int), n ≤ (ordM k).length → fromF B n c = ((ordM k).take n).foldr (fun s c => passA B (B 4 s).toNat (wC (B 4 s).toNat) c (B 14 s) (B 2 9)) c := by
  intro n
  induction n with
  | zero =>
    intro c hi
    rw [fromF, List.take_zero]
    rfl
  | succ n ih =>
    intro c hi
    have hl : n < (ordM k).length := by omega
    rw [fromF, ih _ (by omega), List.take_succ_eq_append_getElem hl, List.foldr_append]
    have e : B 5 n = ((ordM k)[n] : Nat) := by
      rw [h.2.2.2 n hl, List.getD_eq_getElem?_getD, List.getElem?_eq_getElem hl]
      rfl
    unfold oneOut
    rw [e, Int.toNat_natCast]
    rfl
theorem slI_l (B : Nat → Nat → Int) (c : Int) : slI B 6 0 c = (List.range 6).foldl (fun c s => if B 4 s = -1 then c else passA B (B 4 s).toNat (wL (B 4 s).toNat) c (B 14 s) (B 2 9)) c := rfl
theorem slO_l (B : Nat → Nat → Int) (c : Int) : slO B 6 c = (List.range 6).foldr (fun s c => if B 4 s = -1 then c else passA B (B 4 s).toNat (wC (B 4 s).toNat) c (B 14 s) (B 2 9)) c := rfl
theorem foldl_skip {k : Nat} (h : OrdAt B k) (f : Int → Nat → Int) : ∀ (l : List Nat) (c : Int), (∀ s ∈ l, s < 6) → l.foldl (fun c s => if B 4 s = -1 then c else f c s) c = (l.filter (fun s => k.testBit s)).foldl f c := by
  intro l
  induction l with
  | nil => exact fun c _ => rfl
  | cons s l ih =>
    intro c hl
    have hs := h.2.1 s (hl s List.mem_cons_self)
    rw [List.foldl_cons, ih _ (fun x hx => hl x (List.mem_cons_of_mem _ hx)), List.filter_cons]
    by_cases c1 : B 4 s = -1
    · have : ¬ k.testBit s = true := fun e => (hs.mpr e) c1
      rw [if_pos c1, if_neg this]
    · rw [if_neg c1, if_pos (hs.mp c1), List.foldl_cons]
theorem foldr_skip {k : Nat} (h : OrdAt B k) (f : Nat → Int → Int) : ∀ (l : List Nat) (c : Int), (∀ s ∈ l, s < 6) → l.foldr (fun s c => if B 4 s = -1 then c else f s c) c = (l.filter (fun s => k.testBit s)).foldr f c := by
  intro l
  induction l with
  | nil => exact fun c _ => rfl
  | cons s l ih =>
    intro c hl
    have hs := h.2.1 s (hl s List.mem_cons_self)
    rw [List.foldr_cons, ih _ (fun x hx => hl x (List.mem_cons_of_mem _ hx)), List.filter_cons]
    by_cases c1 : B 4 s = -1
    · have : ¬ k.testBit s = true := fun e => (hs.mpr e) c1
      rw [if_pos c1, if_neg this]
    · rw [if_neg c1, if_pos (hs.mp c1), List.foldr_cons]
theorem slI_into (h : CM B) (c : Int) : slI B 6 0 c = intoF B (B 2 10).toNat 0 c := by
  obtain ⟨k, hk⟩ := h.ord
  have e : (B 2 10).toNat = (ordM k).length := by have := hk.2.2.1; omega
  rw [e, intoF_l hk _ 0 c (by omega), List.drop_zero, slI_l, foldl_skip hk _ _ _ (fun s hs => List.mem_range.mp hs)]
  rfl
theorem slO_from (h : CM B) (c : Int) : slO B 6 c = fromF B (B 2 10).toNat c := by
  obtain ⟨k, hk⟩ := h.ord
  have e : (B 2 10).toNat = (ordM k).length := by have := hk.2.2.1; omega
  rw [e, fromF_l hk _ c (by omega), List.take_length, slO_l, foldr_skip hk _ _ _ (fun s hs => List.mem_range.mp hs)]
  rfl
set_option maxRecDepth 20000 in
theorem r_image (hA : ∀ k j, sb (A k j)) (hL : Lay sh gr) (h : RW A B) (hp : ∀ c, 0 ≤ c → c < B 2 9 → 0 ≤ pathF B c ∧ pathF B c < B 2 9) {c : Int} (c0 : 0 ≤ c) (c1 : c < B 2 9) : Ev (144, 0, [(0, .ref 199), (1, .int (oi c))], [], (sh, oA A, gl, gr), sl) r ↔ r = (.inl (some (.int (oi (sendF B c)))), (sh, oA A, gl, gr), sl) := by
  have s3 := h.M.m
  have q0 : sb c := ⟨by omega, by omega⟩
  have q1 : ¬ c < 0 := by omega
  have q2 : ¬ 64 ≤ c.toNat := by omega
  have x1 := h.R.pp c.toNat (by omega)
  have s1 := h.M.pp c.toNat (by omega)
  have x2 := h.R.way
  have s2 := h.M.way
  have p1 := hp (B 10 c.toNat) s1.1 s1.2.1
  have x3 := h.R.pp (pathF B (B 10 c.toNat)).toNat (by omega)
  have q3 : sb (pathF B (B 10 c.toNat)) := ⟨by omega, by omega⟩
  have q4 : ¬ pathF B (B 10 c.toNat) < 0 := by omega
  have q5 : ¬ 64 ≤ (pathF B (B 10 c.toNat)).toNat := by omega
  have q6 : sb (B 2 12) := ⟨by omega, by omega⟩
  unfold sendF
  rw [EvU_iff (fun _ => false) 60]
  by_cases d0 : B 2 12 = 0
  · have t := fun (sl : Nat) (r : Out) => r_slots (gl := gl) (sl := sl) (r := r) hA hL h s1.1 s1.2.1
    rw [slI_into h.M, slO_from h.M] at t
    have e : pathF B (B 10 c.toNat) = if B 2 13 = 0 then intoF B (B 2 10).toNat 0 (B 10 c.toNat) else fromF B (B 2 10).toNat (B 12 (intoF B (B 2 10).toNat 0 (B 10 c.toNat)).toNat) := by
      unfold pathF
      rw [if_pos d0]
    rw [← e] at t
    simp [EvS, stI, enI, caI, s_push, s_iload, s_aload, s_istore, s_astore, s_iinc, s_bin, s_div, s_i2l, s_lcmp, s_dup, s_dup2, s_pop, s_tab, s_look, s_get, s_put, s_iald, s_lald, s_aald, s_iast, s_last, s_aast, s_len, s_newa, s_new, s_thr, s_min, s_copy, s_obj, s_call, s_iret, s_aret, s_vret, go, ldI, lget, lput, lv_args, wsum, va_rf, hnd, cvr, cat_i, cat_r, cat_l, oi_of, oi_add, oi_sub, oA_ap, oA_u2, pi_lt, pi_le, pi_eq, pi_eq0, pi_lt0, pi_le0, pi_gt0, pi_ge0, pi_cl, sb_lit, fv4, isB01, nlt0, EvU_0, wO_ne, wL_ne, wC_ne, wN_ne, pO_ne, pU_ne, CN, LN, -Prod.exists, pi_ti, Op.lookupswitch.offset, EvU_at d144_0, EvU_at d144_1, EvU_at d144_4, EvU_at d144_5, EvU_at d144_6, EvU_at d144_7, EvU_at d144_8, EvU_at d144_11, EvU_at d144_14, EvU_at d144_15, EvU_at d144_16, EvU_at d144_19, EvU_at d144_22, EvU_at d144_23, EvU_at d144_26, EvU_at d144_27, EvU_at d144_30, EvU_at d144_31, EvU_at d144_32, EvU_at d144_35, EvU_at d144_38, EvU_at d144_39, EvU_at d144_40, EvU_at d144_43, EvU_at d144_44, EvU_at d144_45, EvU_at d144_48, EvU_at d144_49, EvU_at d144_50, Z144, Z145, LyS hL, LyG hL, hA, q0, q1, q2, q3, q4, q5, q6, x1, x2, x3, d0, t]
  · by_cases d1 : B 2 12 = 1
    · have t := fun (sl : Nat) (r : Out) => r_bits (gl := gl) (sl := sl) (r := r) hA hL h s1.1 s1.2.1
      have e : pathF B (B 10 c.toNat) = if B 2 9 = 32 then ((turnF B 5 0 (B 10 c.toNat).toNat : Nat) : Int) else B 10 c.toNat := by
        unfold pathF
        rw [if_neg d0, if_pos d1]
      rw [← e] at t
      simp [EvS, stI, enI, caI, s_push, s_iload, s_aload, s_istore, s_astore, s_iinc, s_bin, s_div, s_i2l, s_lcmp, s_dup, s_dup2, s_pop, s_tab, s_look, s_get, s_put, s_iald, s_lald, s_aald, s_iast, s_last, s_aast, s_len, s_newa, s_new, s_thr, s_min, s_copy, s_obj, s_call, s_iret, s_aret, s_vret, go, ldI, lget, lput, lv_args, wsum, va_rf, hnd, cvr, cat_i, cat_r, cat_l, oi_of, oi_add, oi_sub, oA_ap, oA_u2, pi_lt, pi_le, pi_eq, pi_eq0, pi_lt0, pi_le0, pi_gt0, pi_ge0, pi_cl, sb_lit, fv4, isB01, nlt0, EvU_0, wO_ne, wL_ne, wC_ne, wN_ne, pO_ne, pU_ne, CN, LN, -Prod.exists, pi_ti, Op.lookupswitch.offset, EvU_at d144_0, EvU_at d144_1, EvU_at d144_4, EvU_at d144_5, EvU_at d144_6, EvU_at d144_7, EvU_at d144_8, EvU_at d144_11, EvU_at d144_14, EvU_at d144_15, EvU_at d144_16, EvU_at d144_19, EvU_at d144_22, EvU_at d144_23, EvU_at d144_26, EvU_at d144_27, EvU_at d144_30, EvU_at d144_31, EvU_at d144_32, EvU_at d144_35, EvU_at d144_38, EvU_at d144_39, EvU_at d144_40, EvU_at d144_43, EvU_at d144_44, EvU_at d144_45, EvU_at d144_48, EvU_at d144_49, EvU_at d144_50, Z144, Z148, LyS hL, LyG hL, hA, q0, q1, q2, q3, q4, q5, q6, x1, x2, x3, d0, d1, t]
    · have t := fun (sl : Nat) (r : Out) => r_bars (gl := gl) (sl := sl) (r := r) hA hL h s1.1 s1.2.1
      have e : pathF B (B 10 c.toNat) = rd (barsF B 27 0 0 - B 10 c.toNat) (B 2 9) := by
        unfold pathF
        rw [if_neg d0, if_neg d1]
      rw [← e] at t
      simp [EvS, stI, enI, caI, s_push, s_iload, s_aload, s_istore, s_astore, s_iinc, s_bin, s_div, s_i2l, s_lcmp, s_dup, s_dup2, s_pop, s_tab, s_look, s_get, s_put, s_iald, s_lald, s_aald, s_iast, s_last, s_aast, s_len, s_newa, s_new, s_thr, s_min, s_copy, s_obj, s_call, s_iret, s_aret, s_vret, go, ldI, lget, lput, lv_args, wsum, va_rf, hnd, cvr, cat_i, cat_r, cat_l, oi_of, oi_add, oi_sub, oA_ap, oA_u2, pi_lt, pi_le, pi_eq, pi_eq0, pi_lt0, pi_le0, pi_gt0, pi_ge0, pi_cl, sb_lit, fv4, isB01, nlt0, EvU_0, wO_ne, wL_ne, wC_ne, wN_ne, pO_ne, pU_ne, CN, LN, -Prod.exists, pi_ti, Op.lookupswitch.offset, EvU_at d144_0, EvU_at d144_1, EvU_at d144_4, EvU_at d144_5, EvU_at d144_6, EvU_at d144_7, EvU_at d144_8, EvU_at d144_11, EvU_at d144_14, EvU_at d144_15, EvU_at d144_16, EvU_at d144_19, EvU_at d144_22, EvU_at d144_23, EvU_at d144_26, EvU_at d144_27, EvU_at d144_30, EvU_at d144_31, EvU_at d144_32, EvU_at d144_35, EvU_at d144_38, EvU_at d144_39, EvU_at d144_40, EvU_at d144_43, EvU_at d144_44, EvU_at d144_45, EvU_at d144_48, EvU_at d144_49, EvU_at d144_50, Z144, Z149, LyS hL, LyG hL, hA, q0, q1, q2, q3, q4, q5, q6, x1, x2, x3, d0, d1, t]
end
