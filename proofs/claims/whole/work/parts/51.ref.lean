/-! the reference: a step's loops -/
section
variable {A A' B B' : Nat → Nat → Int}
theorem RMa.cg (h : RMa A B) (e9 : ∀ b, b = 1 ∨ b = 7 ∨ b = 11 ∨ b = 12 → A' 199 b = A 199 b) (e : ∀ a b, 200 ≤ a → a < 208 → A' a b = A a b) : RMa A' B := by
  refine ⟨?_, fun w hw j hj => ?_, fun w hw => ?_, fun w hw j hj => ?_, fun s hs => ?_, fun j hj => ?_, fun j hj => ?_, ?_, fun k hk => ?_, fun k hk j hj => ?_, fun b hb => ?_, ?_, ?_⟩
  · rw [e9 _ (by omega)]; exact h.m
  · rw [e _ _ (by omega) (by omega)]; exact h.wir w hw j hj
  · rw [e _ _ (by omega) (by omega)]; exact h.ring w hw
  · rw [e _ _ (by omega) (by omega)]; exact h.notch w hw j hj
  · rw [e _ _ (by omega) (by omega)]; exact h.slot s hs
  · rw [e _ _ (by omega) (by omega)]; exact h.pp j hj
  · rw [e _ _ (by omega) (by omega)]; exact h.pr j hj
  · rw [e9 _ (by omega)]; exact h.refl
  · rw [e _ _ (by omega) (by omega)]; exact h.len k hk
  · rw [e _ _ (by omega) (by omega)]; exact h.ups k hk j hj
  · rw [e _ _ (by omega) (by omega), e _ _ (by omega) (by omega)]; exact h.lug b hb
  · rw [e9 _ (by omega)]; exact h.rule
  · rw [e9 _ (by omega)]; exact h.way
theorem RMa.cgB (h : RMa A B) (e : ∀ a b, a < 72 → a ≠ 14 → a ≠ 15 → B' a b = B a b) : RMa A B' := by
  refine ⟨?_, fun w hw j hj => ?_, fun w hw => ?_, fun w hw j hj => ?_, fun s hs => ?_, fun j hj => ?_, fun j hj => ?_, ?_, fun k hk => ?_, fun k hk j hj => ?_, fun b hb => ?_, ?_, ?_⟩
  · rw [e _ _ (by omega) (by omega) (by omega)]; exact h.m
  · rw [e _ _ (by unfold wL; omega) (by unfold wL; omega) (by unfold wL; omega)]; exact h.wir w hw j hj
  · rw [e _ _ (by unfold wO; omega) (by unfold wO; omega) (by unfold wO; omega)]; exact h.ring w hw
  · rw [e _ _ (by unfold wN; omega) (by unfold wN; omega) (by unfold wN; omega)]; exact h.notch w hw j hj
  · rw [e _ _ (by omega) (by omega) (by omega)]; exact h.slot s hs
  · rw [e _ _ (by omega) (by omega) (by omega)]; exact h.pp j hj
  · rw [e _ _ (by omega) (by omega) (by omega)]; exact h.pr j hj
  · rw [e _ _ (by omega) (by omega) (by omega)]; exact h.refl
  · rw [e _ _ (by unfold pO; omega) (by unfold pO; omega) (by unfold pO; omega)]; exact h.len k hk
  · rw [e _ _ (by unfold pO; omega) (by unfold pO; omega) (by unfold pO; omega)] at hj
    rw [e _ _ (by unfold pU; omega) (by unfold pU; omega) (by unfold pU; omega)]; exact h.ups k hk j hj
  · rw [e _ _ (by omega) (by omega) (by omega), e _ _ (by omega) (by omega) (by omega)]; exact h.lug b hb
  · rw [e _ _ (by omega) (by omega) (by omega)]; exact h.rule
  · rw [e _ _ (by omega) (by omega) (by omega)]; exact h.way
theorem RP.cg (h : RP A B) (e : ∀ b, A' 208 b = A 208 b) : RP A' B := by
  refine ⟨fun s hs => ?_, fun k hk => ?_⟩
  · rw [e]; exact h.pos s hs
  · rw [e]; exact h.pl k hk
theorem RW.cg (h : RW A B) (e9 : ∀ b, b = 1 ∨ b = 7 ∨ b = 11 ∨ b = 12 → A' 199 b = A 199 b) (e : ∀ a b, 200 ≤ a → a < 209 → A' a b = A a b) : RW A' B := ⟨h.R.cg e9 (fun a b h1 h2 => e a b h1 (by omega)), h.P.cg (fun b => e _ _ (by omega) (by omega)), h.M, h.C⟩
end
section
variable {sh : List (Nat × Nat)} {A B : Nat → Nat → Int} {gl : Nat → Nat → Int64} {gr : Nat → Nat → Option Nat} {sl : Nat} {r : Out}
def sF3 (ln p : Nat → Int) (j : Nat) : Int := if 0 < ln (j - 6) then (p (j - 6) + 1) % ln (j - 6) else 0
def sF2 (mv p : Nat → Int) (m : Int) (j : Nat) : Int := if mv j = 1 then (p j + 1) % m else p j
set_option maxRecDepth 20000 in
theorem l_st3 (hL : Lay sh gr) {ln p : Nat → Int} (h0 : ∀ j, j < 12 → 0 ≤ ln j ∧ ln j ≤ 61 ∧ 0 ≤ p j ∧ p j ≤ 61) : ∀ (n k : Nat) (A : Nat → Nat → Int) (ls : Lc), k + n = 12 → (∀ k j, sb (A k j)) → (∀ j, j < 12 → A 205 j = ln j) → (∀ j, k ≤ j → j < 12 → A 208 (6 + j) = p j) → nl ls = true → lget ls 0 = some (.ref 199) → lget ls 1 = some (.int (oi (k : Int))) →
    (Ev (138, 96, ls, [], (sh, oA A, gl, gr), sl) r ↔ r = (.inl none, (sh, oA (fillR A 208 (6 + k) 18 (sF3 ln p)), gl, gr), sl)) := by
  intro n
  induction n with
  | zero =>
    intro k A ls hn hA h1 h2 g g0 g1
    obtain rfl : k = 12 := by omega
    rw [fillR_0]
    have e0 : sb ((12 : Nat) : Int) := ⟨by omega, by omega⟩
    have e1 : (12 : Int) ≤ ((12 : Nat) : Int) := by omega
    rw [EvU_iff (fun _ => false) 10]
    simp (maxDischargeDepth := 9) [EvS, stI, enI, caI, s_push, s_iload, s_aload, s_istore, s_astore, s_iinc, s_bin, s_div, s_i2l, s_lcmp, s_dup, s_dup2, s_pop, s_tab, s_look, s_get, s_put, s_iald, s_lald, s_aald, s_iast, s_last, s_aast, s_len, s_newa, s_new, s_thr, s_min, s_copy, s_obj, s_call, s_iret, s_aret, s_vret, go, ldI, lget_lput, nl_I, nl_R, lv_args, wsum, va_rf, hnd, cvr, cat_i, cat_r, cat_l, oi_of, oi_add, oi_sub, oA_ap, oA_u2, pi_lt, pi_le, pi_eq, pi_eq0, pi_lt0, pi_le0, pi_gt0, pi_ge0, pi_cl, sb_lit, fv4, isB01, nlt0, EvU_0, wO_ne, wL_ne, wC_ne, wN_ne, pO_ne, pU_ne, CN, LN, -Prod.exists, pi_ti, Op.lookupswitch.offset, EvU_at d138_0, EvU_at d138_1, EvU_at d138_2, EvU_at d138_3, EvU_at d138_5, EvU_at d138_8, EvU_at d138_9, EvU_at d138_12, EvU_at d138_13, EvU_at d138_14, EvU_at d138_17, EvU_at d138_18, EvU_at d138_19, EvU_at d138_20, EvU_at d138_23, EvU_at d138_24, EvU_at d138_25, EvU_at d138_28, EvU_at d138_31, EvU_at d138_32, EvU_at d138_35, EvU_at d138_36, EvU_at d138_37, EvU_at d138_40, EvU_at d138_43, EvU_at d138_44, EvU_at d138_45, EvU_at d138_46, EvU_at d138_48, EvU_at d138_51, EvU_at d138_52, EvU_at d138_55, EvU_at d138_56, EvU_at d138_57, EvU_at d138_60, EvU_at d138_61, EvU_at d138_62, EvU_at d138_65, EvU_at d138_66, EvU_at d138_69, EvU_at d138_70, EvU_at d138_71, EvU_at d138_72, EvU_at d138_73, EvU_at d138_74, EvU_at d138_77, EvU_at d138_78, EvU_at d138_81, EvU_at d138_82, EvU_at d138_85, EvU_at d138_86, EvU_at d138_87, EvU_at d138_88, EvU_at d138_91, EvU_at d138_94, EvU_at d138_95, EvU_at d138_96, EvU_at d138_97, EvU_at d138_99, EvU_at d138_102, EvU_at d138_103, EvU_at d138_106, EvU_at d138_108, EvU_at d138_109, EvU_at d138_110, EvU_at d138_111, EvU_at d138_114, EvU_at d138_115, EvU_at d138_116, EvU_at d138_119, EvU_at d138_120, EvU_at d138_123, EvU_at d138_125, EvU_at d138_126, EvU_at d138_127, EvU_at d138_128, EvU_at d138_129, EvU_at d138_130, EvU_at d138_131, EvU_at d138_134, EvU_at d138_135, EvU_at d138_136, EvU_at d138_137, EvU_at d138_140, EvU_at d138_141, EvU_at d138_142, EvU_at d138_145, EvU_at d138_148, Z138, LyS hL, LyG hL, g, g0, g1, e0, e1]
  | succ n ih =>
    intro k A ls hn hA h1 h2 g g0 g1
    have hk : k < 12 := by omega
    have l1 := h1 k hk
    have p1 := h2 k (Nat.le_refl k) hk
    obtain ⟨a0, a1, a2, a3⟩ := h0 k hk
    have e0 : sb (k : Int) := ⟨by omega, by omega⟩
    have e1 : ¬ (12 : Int) ≤ (k : Int) := by omega
    have e2 : ¬ 12 ≤ k := by omega
    have q2 : sb (6 + (k : Int)) := ⟨by omega, by omega⟩
    have q3 : ¬ 6 + (k : Int) < 0 := by omega
    have q4 : (6 + (k : Int)).toNat = 6 + k := by omega
    have q5 : ¬ 18 ≤ 6 + k := by omega
    have sl1 : sb (ln k) := ⟨by omega, by omega⟩
    have e9 : 6 + k - 6 = k := by omega
    rw [EvU_iff (fun _ => false) 1]
    simp (maxDischargeDepth := 9) [EvS, stI, enI, caI, s_push, s_iload, s_aload, s_istore, s_astore, s_iinc, s_bin, s_div, s_i2l, s_lcmp, s_dup, s_dup2, s_pop, s_tab, s_look, s_get, s_put, s_iald, s_lald, s_aald, s_iast, s_last, s_aast, s_len, s_newa, s_new, s_thr, s_min, s_copy, s_obj, s_call, s_iret, s_aret, s_vret, go, ldI, lget_lput, nl_I, nl_R, lv_args, wsum, va_rf, hnd, cvr, cat_i, cat_r, cat_l, oi_of, oi_add, oi_sub, oA_ap, oA_u2, pi_lt, pi_le, pi_eq, pi_eq0, pi_lt0, pi_le0, pi_gt0, pi_ge0, pi_cl, sb_lit, fv4, isB01, nlt0, EvU_0, wO_ne, wL_ne, wC_ne, wN_ne, pO_ne, pU_ne, CN, LN, -Prod.exists, pi_ti, Op.lookupswitch.offset, EvU_at d138_0, EvU_at d138_1, EvU_at d138_2, EvU_at d138_3, EvU_at d138_5, EvU_at d138_8, EvU_at d138_9, EvU_at d138_12, EvU_at d138_13, EvU_at d138_14, EvU_at d138_17, EvU_at d138_18, EvU_at d138_19, EvU_at d138_20, EvU_at d138_23, EvU_at d138_24, EvU_at d138_25, EvU_at d138_28, EvU_at d138_31, EvU_at d138_32, EvU_at d138_35, EvU_at d138_36, EvU_at d138_37, EvU_at d138_40, EvU_at d138_43, EvU_at d138_44, EvU_at d138_45, EvU_at d138_46, EvU_at d138_48, EvU_at d138_51, EvU_at d138_52, EvU_at d138_55, EvU_at d138_56, EvU_at d138_57, EvU_at d138_60, EvU_at d138_61, EvU_at d138_62, EvU_at d138_65, EvU_at d138_66, EvU_at d138_69, EvU_at d138_70, EvU_at d138_71, EvU_at d138_72, EvU_at d138_73, EvU_at d138_74, EvU_at d138_77, EvU_at d138_78, EvU_at d138_81, EvU_at d138_82, EvU_at d138_85, EvU_at d138_86, EvU_at d138_87, EvU_at d138_88, EvU_at d138_91, EvU_at d138_94, EvU_at d138_95, EvU_at d138_96, EvU_at d138_97, EvU_at d138_99, EvU_at d138_102, EvU_at d138_103, EvU_at d138_106, EvU_at d138_108, EvU_at d138_109, EvU_at d138_110, EvU_at d138_111, EvU_at d138_114, EvU_at d138_115, EvU_at d138_116, EvU_at d138_119, EvU_at d138_120, EvU_at d138_123, EvU_at d138_125, EvU_at d138_126, EvU_at d138_127, EvU_at d138_128, EvU_at d138_129, EvU_at d138_130, EvU_at d138_131, EvU_at d138_134, EvU_at d138_135, EvU_at d138_136, EvU_at d138_137, EvU_at d138_140, EvU_at d138_141, EvU_at d138_142, EvU_at d138_145, EvU_at d138_148, Z138, LyS hL, LyG hL, g, g0, g1, e0]
    rw [EvU_iff (fun p => p == 96) 60]
    rw [← fillR_s A (sF3 ln p) (show 6 + k < 18 by omega)]
    have fin : ∀ v : Int, sb v → v = sF3 ln p (6 + k) → (Ev (138, 96, lput ls 1 (.int (oi ((k : Int) + 1))), [], (sh, oA (u2 A 208 (6 + k) v), gl, gr), sl) r ↔ r = (.inl none, (sh, oA (fillR (u2 A 208 (6 + k) (sF3 ln p (6 + k))) 208 (6 + k + 1) 18 (sF3 ln p)), gl, gr), sl)) := by
      intro v hv ev
      subst ev
      refine ih (k + 1) _ _ (by omega) (sb_u2 hA hv _ _) ?_ ?_ ?_ ?_ ?_
      · intro j hj
        rw [uk_ne (by omega)]
        exact h1 j hj
      · intro j hj1 hj2
        rw [uj_ne (by omega)]
        exact h2 j (by omega) hj2
      · simp (maxDischargeDepth := 9) [lget_lput, nl_I, nl_R, g]
      · simp (maxDischargeDepth := 9) [lget_lput, nl_I, nl_R, g, g0]
      · simp (maxDischargeDepth := 9) [lget_lput, nl_I, nl_R, g]
    by_cases c : 0 < ln k
    · have c2 : ¬ ln k ≤ 0 := by omega
      have c3 : ¬ ln k = 0 := by omega
      have e5 := rem_oi (a := p k + 1) (b := ln k) (by omega) (by omega) ⟨by omega, by omega⟩ sl1
      have e6 : 0 ≤ (p k + 1) % ln k := Int.emod_nonneg _ (by omega)
      have e7 : (p k + 1) % ln k < ln k := Int.emod_lt_of_pos _ c
      have f := fin ((p k + 1) % ln k) ⟨by omega, by omega⟩ (by unfold sF3; rw [e9, if_pos c])
      simp (maxDischargeDepth := 9) [EvS, stI, enI, caI, s_push, s_iload, s_aload, s_istore, s_astore, s_iinc, s_bin, s_div, s_i2l, s_lcmp, s_dup, s_dup2, s_pop, s_tab, s_look, s_get, s_put, s_iald, s_lald, s_aald, s_iast, s_last, s_aast, s_len, s_newa, s_new, s_thr, s_min, s_copy, s_obj, s_call, s_iret, s_aret, s_vret, go, ldI, lget_lput, nl_I, nl_R, lv_args, wsum, va_rf, hnd, cvr, cat_i, cat_r, cat_l, oi_of, oi_add, oi_sub, oA_ap, oA_u2, pi_lt, pi_le, pi_eq, pi_eq0, pi_lt0, pi_le0, pi_gt0, pi_ge0, pi_cl, sb_lit, fv4, isB01, nlt0, EvU_0, wO_ne, wL_ne, wC_ne, wN_ne, pO_ne, pU_ne, CN, LN, -Prod.exists, pi_ti, Op.lookupswitch.offset, EvU_at d138_0, EvU_at d138_1, EvU_at d138_2, EvU_at d138_3, EvU_at d138_5, EvU_at d138_8, EvU_at d138_9, EvU_at d138_12, EvU_at d138_13, EvU_at d138_14, EvU_at d138_17, EvU_at d138_18, EvU_at d138_19, EvU_at d138_20, EvU_at d138_23, EvU_at d138_24, EvU_at d138_25, EvU_at d138_28, EvU_at d138_31, EvU_at d138_32, EvU_at d138_35, EvU_at d138_36, EvU_at d138_37, EvU_at d138_40, EvU_at d138_43, EvU_at d138_44, EvU_at d138_45, EvU_at d138_46, EvU_at d138_48, EvU_at d138_51, EvU_at d138_52, EvU_at d138_55, EvU_at d138_56, EvU_at d138_57, EvU_at d138_60, EvU_at d138_61, EvU_at d138_62, EvU_at d138_65, EvU_at d138_66, EvU_at d138_69, EvU_at d138_70, EvU_at d138_71, EvU_at d138_72, EvU_at d138_73, EvU_at d138_74, EvU_at d138_77, EvU_at d138_78, EvU_at d138_81, EvU_at d138_82, EvU_at d138_85, EvU_at d138_86, EvU_at d138_87, EvU_at d138_88, EvU_at d138_91, EvU_at d138_94, EvU_at d138_95, EvU_at d138_96, EvU_at d138_97, EvU_at d138_99, EvU_at d138_102, EvU_at d138_103, EvU_at d138_106, EvU_at d138_108, EvU_at d138_109, EvU_at d138_110, EvU_at d138_111, EvU_at d138_114, EvU_at d138_115, EvU_at d138_116, EvU_at d138_119, EvU_at d138_120, EvU_at d138_123, EvU_at d138_125, EvU_at d138_126, EvU_at d138_127, EvU_at d138_128, EvU_at d138_129, EvU_at d138_130, EvU_at d138_131, EvU_at d138_134, EvU_at d138_135, EvU_at d138_136, EvU_at d138_137, EvU_at d138_140, EvU_at d138_141, EvU_at d138_142, EvU_at d138_145, EvU_at d138_148, Z138, LyS hL, LyG hL, g, g0, g1, e0, e1, e2, q2, q3, q4, q5, l1, p1, sl1, c, c2, c3, e5, f]
    · have c2 : ln k ≤ 0 := by omega
      have f := fin 0 ⟨by omega, by omega⟩ (by unfold sF3; rw [e9, if_neg c])
      simp (maxDischargeDepth := 9) [EvS, stI, enI, caI, s_push, s_iload, s_aload, s_istore, s_astore, s_iinc, s_bin, s_div, s_i2l, s_lcmp, s_dup, s_dup2, s_pop, s_tab, s_look, s_get, s_put, s_iald, s_lald, s_aald, s_iast, s_last, s_aast, s_len, s_newa, s_new, s_thr, s_min, s_copy, s_obj, s_call, s_iret, s_aret, s_vret, go, ldI, lget_lput, nl_I, nl_R, lv_args, wsum, va_rf, hnd, cvr, cat_i, cat_r, cat_l, oi_of, oi_add, oi_sub, oA_ap, oA_u2, pi_lt, pi_le, pi_eq, pi_eq0, pi_lt0, pi_le0, pi_gt0, pi_ge0, pi_cl, sb_lit, fv4, isB01, nlt0, EvU_0, wO_ne, wL_ne, wC_ne, wN_ne, pO_ne, pU_ne, CN, LN, -Prod.exists, pi_ti, Op.lookupswitch.offset, EvU_at d138_0, EvU_at d138_1, EvU_at d138_2, EvU_at d138_3, EvU_at d138_5, EvU_at d138_8, EvU_at d138_9, EvU_at d138_12, EvU_at d138_13, EvU_at d138_14, EvU_at d138_17, EvU_at d138_18, EvU_at d138_19, EvU_at d138_20, EvU_at d138_23, EvU_at d138_24, EvU_at d138_25, EvU_at d138_28, EvU_at d138_31, EvU_at d138_32, EvU_at d138_35, EvU_at d138_36, EvU_at d138_37, EvU_at d138_40, EvU_at d138_43, EvU_at d138_44, EvU_at d138_45, EvU_at d138_46, EvU_at d138_48, EvU_at d138_51, EvU_at d138_52, EvU_at d138_55, EvU_at d138_56, EvU_at d138_57, EvU_at d138_60, EvU_at d138_61, EvU_at d138_62, EvU_at d138_65, EvU_at d138_66, EvU_at d138_69, EvU_at d138_70, EvU_at d138_71, EvU_at d138_72, EvU_at d138_73, EvU_at d138_74, EvU_at d138_77, EvU_at d138_78, EvU_at d138_81, EvU_at d138_82, EvU_at d138_85, EvU_at d138_86, EvU_at d138_87, EvU_at d138_88, EvU_at d138_91, EvU_at d138_94, EvU_at d138_95, EvU_at d138_96, EvU_at d138_97, EvU_at d138_99, EvU_at d138_102, EvU_at d138_103, EvU_at d138_106, EvU_at d138_108, EvU_at d138_109, EvU_at d138_110, EvU_at d138_111, EvU_at d138_114, EvU_at d138_115, EvU_at d138_116, EvU_at d138_119, EvU_at d138_120, EvU_at d138_123, EvU_at d138_125, EvU_at d138_126, EvU_at d138_127, EvU_at d138_128, EvU_at d138_129, EvU_at d138_130, EvU_at d138_131, EvU_at d138_134, EvU_at d138_135, EvU_at d138_136, EvU_at d138_137, EvU_at d138_140, EvU_at d138_141, EvU_at d138_142, EvU_at d138_145, EvU_at d138_148, Z138, LyS hL, LyG hL, g, g0, g1, e0, e1, e2, q2, q3, q4, q5, l1, p1, sl1, c, c2, f]
set_option maxRecDepth 20000 in
theorem l_st2 (hL : Lay sh gr) {ln p q mv : Nat → Int} {m : Int} (hm : 0 < m ∧ m ≤ 32) (h0 : ∀ j, j < 12 → 0 ≤ ln j ∧ ln j ≤ 61 ∧ 0 ≤ p j ∧ p j ≤ 61) (hq : ∀ j, j < 6 → 0 ≤ q j ∧ q j < m) (hv : ∀ j, j < 6 → mv j = 0 ∨ mv j = 1) : ∀ (n k : Nat) (A : Nat → Nat → Int) (ls : Lc), k + n = 6 → (∀ k j, sb (A k j)) → A 199 1 = m → (∀ j, j < 6 → A 210 j = mv j) → (∀ j, j < 12 → A 205 j = ln j) → (∀ j, j < 12 → A 208 (6 + j) = p j) → (∀ j, k ≤ j → j < 6 → A 208 j = q j) → nl ls = true → lget ls 0 = some (.ref 199) → lget ls 1 = some (.int (oi (k : Int))) →
    (Ev (138, 45, ls, [], (sh, oA A, gl, gr), sl) r ↔ r = (.inl none, (sh, oA (fillR (fillR A 208 k 6 (sF2 mv q m)) 208 6 18 (sF3 ln p)), gl, gr), sl)) := by
  intro n
  induction n with
  | zero =>
    intro k A ls hn hA hm1 hb h1 h2 h3 g g0 g1
    obtain rfl : k = 6 := by omega
    rw [fillR_0]
    have e0 : sb ((6 : Nat) : Int) := ⟨by omega, by omega⟩
    have e1 : (6 : Int) ≤ ((6 : Nat) : Int) := by omega
    rw [EvU_iff (fun p => p == 96) 10]
    simp (maxDischargeDepth := 9) [EvS, stI, enI, caI, s_push, s_iload, s_aload, s_istore, s_astore, s_iinc, s_bin, s_div, s_i2l, s_lcmp, s_dup, s_dup2, s_pop, s_tab, s_look, s_get, s_put, s_iald, s_lald, s_aald, s_iast, s_last, s_aast, s_len, s_newa, s_new, s_thr, s_min, s_copy, s_obj, s_call, s_iret, s_aret, s_vret, go, ldI, lget_lput, nl_I, nl_R, lv_args, wsum, va_rf, hnd, cvr, cat_i, cat_r, cat_l, oi_of, oi_add, oi_sub, oA_ap, oA_u2, pi_lt, pi_le, pi_eq, pi_eq0, pi_lt0, pi_le0, pi_gt0, pi_ge0, pi_cl, sb_lit, fv4, isB01, nlt0, EvU_0, wO_ne, wL_ne, wC_ne, wN_ne, pO_ne, pU_ne, CN, LN, -Prod.exists, pi_ti, Op.lookupswitch.offset, EvU_at d138_0, EvU_at d138_1, EvU_at d138_2, EvU_at d138_3, EvU_at d138_5, EvU_at d138_8, EvU_at d138_9, EvU_at d138_12, EvU_at d138_13, EvU_at d138_14, EvU_at d138_17, EvU_at d138_18, EvU_at d138_19, EvU_at d138_20, EvU_at d138_23, EvU_at d138_24, EvU_at d138_25, EvU_at d138_28, EvU_at d138_31, EvU_at d138_32, EvU_at d138_35, EvU_at d138_36, EvU_at d138_37, EvU_at d138_40, EvU_at d138_43, EvU_at d138_44, EvU_at d138_45, EvU_at d138_46, EvU_at d138_48, EvU_at d138_51, EvU_at d138_52, EvU_at d138_55, EvU_at d138_56, EvU_at d138_57, EvU_at d138_60, EvU_at d138_61, EvU_at d138_62, EvU_at d138_65, EvU_at d138_66, EvU_at d138_69, EvU_at d138_70, EvU_at d138_71, EvU_at d138_72, EvU_at d138_73, EvU_at d138_74, EvU_at d138_77, EvU_at d138_78, EvU_at d138_81, EvU_at d138_82, EvU_at d138_85, EvU_at d138_86, EvU_at d138_87, EvU_at d138_88, EvU_at d138_91, EvU_at d138_94, EvU_at d138_95, EvU_at d138_96, EvU_at d138_97, EvU_at d138_99, EvU_at d138_102, EvU_at d138_103, EvU_at d138_106, EvU_at d138_108, EvU_at d138_109, EvU_at d138_110, EvU_at d138_111, EvU_at d138_114, EvU_at d138_115, EvU_at d138_116, EvU_at d138_119, EvU_at d138_120, EvU_at d138_123, EvU_at d138_125, EvU_at d138_126, EvU_at d138_127, EvU_at d138_128, EvU_at d138_129, EvU_at d138_130, EvU_at d138_131, EvU_at d138_134, EvU_at d138_135, EvU_at d138_136, EvU_at d138_137, EvU_at d138_140, EvU_at d138_141, EvU_at d138_142, EvU_at d138_145, EvU_at d138_148, Z138, LyS hL, LyG hL, g, g0, g1, e0, e1]
    refine l_st3 hL h0 12 0 A _ rfl hA h1 (fun j _ hj => h2 j hj) ?_ ?_ ?_
    · simp (maxDischargeDepth := 9) [lget_lput, nl_I, nl_R, g]
    · simp (maxDischargeDepth := 9) [lget_lput, nl_I, nl_R, g, g0]
    · simp (maxDischargeDepth := 9) [lget_lput, nl_I, nl_R, g]
  | succ n ih =>
    intro k A ls hn hA hm1 hb h1 h2 h3 g g0 g1
    have hk : k < 6 := by omega
    have b0 := hb k hk
    have p1 := h3 k (Nat.le_refl k) hk
    obtain ⟨a0, a1⟩ := hq k hk
    have e0 : sb (k : Int) := ⟨by omega, by omega⟩
    have e1 : ¬ (6 : Int) ≤ (k : Int) := by omega
    have e2 : ¬ 6 ≤ k := by omega
    have e3 : ¬ 18 ≤ k := by omega
    have q2 : sb m := ⟨by omega, by omega⟩
    have q3 : ¬ m = 0 := by omega
    rw [EvU_iff (fun _ => false) 1]
    simp (maxDischargeDepth := 9) [EvS, stI, enI, caI, s_push, s_iload, s_aload, s_istore, s_astore, s_iinc, s_bin, s_div, s_i2l, s_lcmp, s_dup, s_dup2, s_pop, s_tab, s_look, s_get, s_put, s_iald, s_lald, s_aald, s_iast, s_last, s_aast, s_len, s_newa, s_new, s_thr, s_min, s_copy, s_obj, s_call, s_iret, s_aret, s_vret, go, ldI, lget_lput, nl_I, nl_R, lv_args, wsum, va_rf, hnd, cvr, cat_i, cat_r, cat_l, oi_of, oi_add, oi_sub, oA_ap, oA_u2, pi_lt, pi_le, pi_eq, pi_eq0, pi_lt0, pi_le0, pi_gt0, pi_ge0, pi_cl, sb_lit, fv4, isB01, nlt0, EvU_0, wO_ne, wL_ne, wC_ne, wN_ne, pO_ne, pU_ne, CN, LN, -Prod.exists, pi_ti, Op.lookupswitch.offset, EvU_at d138_0, EvU_at d138_1, EvU_at d138_2, EvU_at d138_3, EvU_at d138_5, EvU_at d138_8, EvU_at d138_9, EvU_at d138_12, EvU_at d138_13, EvU_at d138_14, EvU_at d138_17, EvU_at d138_18, EvU_at d138_19, EvU_at d138_20, EvU_at d138_23, EvU_at d138_24, EvU_at d138_25, EvU_at d138_28, EvU_at d138_31, EvU_at d138_32, EvU_at d138_35, EvU_at d138_36, EvU_at d138_37, EvU_at d138_40, EvU_at d138_43, EvU_at d138_44, EvU_at d138_45, EvU_at d138_46, EvU_at d138_48, EvU_at d138_51, EvU_at d138_52, EvU_at d138_55, EvU_at d138_56, EvU_at d138_57, EvU_at d138_60, EvU_at d138_61, EvU_at d138_62, EvU_at d138_65, EvU_at d138_66, EvU_at d138_69, EvU_at d138_70, EvU_at d138_71, EvU_at d138_72, EvU_at d138_73, EvU_at d138_74, EvU_at d138_77, EvU_at d138_78, EvU_at d138_81, EvU_at d138_82, EvU_at d138_85, EvU_at d138_86, EvU_at d138_87, EvU_at d138_88, EvU_at d138_91, EvU_at d138_94, EvU_at d138_95, EvU_at d138_96, EvU_at d138_97, EvU_at d138_99, EvU_at d138_102, EvU_at d138_103, EvU_at d138_106, EvU_at d138_108, EvU_at d138_109, EvU_at d138_110, EvU_at d138_111, EvU_at d138_114, EvU_at d138_115, EvU_at d138_116, EvU_at d138_119, EvU_at d138_120, EvU_at d138_123, EvU_at d138_125, EvU_at d138_126, EvU_at d138_127, EvU_at d138_128, EvU_at d138_129, EvU_at d138_130, EvU_at d138_131, EvU_at d138_134, EvU_at d138_135, EvU_at d138_136, EvU_at d138_137, EvU_at d138_140, EvU_at d138_141, EvU_at d138_142, EvU_at d138_145, EvU_at d138_148, Z138, LyS hL, LyG hL, g, g0, g1, e0]
    rw [EvU_iff (fun p => p == 45) 60]
    rw [← fillR_s A (sF2 mv q m) hk]
    have fin : ∀ v : Int, sb v → v = sF2 mv q m k → (Ev (138, 45, lput ls 1 (.int (oi ((k : Int) + 1))), [], (sh, oA (u2 A 208 k v), gl, gr), sl) r ↔ r = (.inl none, (sh, oA (fillR (fillR (u2 A 208 k (sF2 mv q m k)) 208 (k + 1) 6 (sF2 mv q m)) 208 6 18 (sF3 ln p)), gl, gr), sl)) := by
      intro v hv ev
      subst ev
      refine ih (k + 1) _ _ (by omega) (sb_u2 hA hv _ _) ?_ ?_ ?_ ?_ ?_ ?_ ?_ ?_
      · rw [uk_ne (by omega)]
        exact hm1
      · intro j hj
        rw [uk_ne (by omega)]
        exact hb j hj
      · intro j hj
        rw [uk_ne (by omega)]
        exact h1 j hj
      · intro j hj
        rw [uj_ne (by omega)]
        exact h2 j hj
      · intro j hj1 hj2
        rw [uj_ne (by omega)]
        exact h3 j (by omega) hj2
      · simp (maxDischargeDepth := 9) [lget_lput, nl_I, nl_R, g]
      · simp (maxDischargeDepth := 9) [lget_lput, nl_I, nl_R, g, g0]
      · simp (maxDischargeDepth := 9) [lget_lput, nl_I, nl_R, g]
    rcases hv k hk with c | c
    · rw [c] at b0
      have f := fin (q k) ⟨by omega, by omega⟩ (by unfold sF2; rw [if_neg (by omega)])
      simp (maxDischargeDepth := 9) [EvS, stI, enI, caI, s_push, s_iload, s_aload, s_istore, s_astore, s_iinc, s_bin, s_div, s_i2l, s_lcmp, s_dup, s_dup2, s_pop, s_tab, s_look, s_get, s_put, s_iald, s_lald, s_aald, s_iast, s_last, s_aast, s_len, s_newa, s_new, s_thr, s_min, s_copy, s_obj, s_call, s_iret, s_aret, s_vret, go, ldI, lget_lput, nl_I, nl_R, lv_args, wsum, va_rf, hnd, cvr, cat_i, cat_r, cat_l, oi_of, oi_add, oi_sub, oA_ap, oA_u2, pi_lt, pi_le, pi_eq, pi_eq0, pi_lt0, pi_le0, pi_gt0, pi_ge0, pi_cl, sb_lit, fv4, isB01, nlt0, EvU_0, wO_ne, wL_ne, wC_ne, wN_ne, pO_ne, pU_ne, CN, LN, -Prod.exists, pi_ti, Op.lookupswitch.offset, EvU_at d138_0, EvU_at d138_1, EvU_at d138_2, EvU_at d138_3, EvU_at d138_5, EvU_at d138_8, EvU_at d138_9, EvU_at d138_12, EvU_at d138_13, EvU_at d138_14, EvU_at d138_17, EvU_at d138_18, EvU_at d138_19, EvU_at d138_20, EvU_at d138_23, EvU_at d138_24, EvU_at d138_25, EvU_at d138_28, EvU_at d138_31, EvU_at d138_32, EvU_at d138_35, EvU_at d138_36, EvU_at d138_37, EvU_at d138_40, EvU_at d138_43, EvU_at d138_44, EvU_at d138_45, EvU_at d138_46, EvU_at d138_48, EvU_at d138_51, EvU_at d138_52, EvU_at d138_55, EvU_at d138_56, EvU_at d138_57, EvU_at d138_60, EvU_at d138_61, EvU_at d138_62, EvU_at d138_65, EvU_at d138_66, EvU_at d138_69, EvU_at d138_70, EvU_at d138_71, EvU_at d138_72, EvU_at d138_73, EvU_at d138_74, EvU_at d138_77, EvU_at d138_78, EvU_at d138_81, EvU_at d138_82, EvU_at d138_85, EvU_at d138_86, EvU_at d138_87, EvU_at d138_88, EvU_at d138_91, EvU_at d138_94, EvU_at d138_95, EvU_at d138_96, EvU_at d138_97, EvU_at d138_99, EvU_at d138_102, EvU_at d138_103, EvU_at d138_106, EvU_at d138_108, EvU_at d138_109, EvU_at d138_110, EvU_at d138_111, EvU_at d138_114, EvU_at d138_115, EvU_at d138_116, EvU_at d138_119, EvU_at d138_120, EvU_at d138_123, EvU_at d138_125, EvU_at d138_126, EvU_at d138_127, EvU_at d138_128, EvU_at d138_129, EvU_at d138_130, EvU_at d138_131, EvU_at d138_134, EvU_at d138_135, EvU_at d138_136, EvU_at d138_137, EvU_at d138_140, EvU_at d138_141, EvU_at d138_142, EvU_at d138_145, EvU_at d138_148, Z138, LyS hL, LyG hL, g, g0, g1, e0, e1, e2, e3, q2, q3, b0, p1, f]
    · rw [c] at b0
      have e5 := rem_oi (a := q k + 1) (b := m) (by omega) (by omega) ⟨by omega, by omega⟩ q2
      have e6 : 0 ≤ (q k + 1) % m := Int.emod_nonneg _ (by omega)
      have e7 : (q k + 1) % m < m := Int.emod_lt_of_pos _ hm.1
      have f := fin ((q k + 1) % m) ⟨by omega, by omega⟩ (by unfold sF2; rw [if_pos c])
      simp (maxDischargeDepth := 9) [EvS, stI, enI, caI, s_push, s_iload, s_aload, s_istore, s_astore, s_iinc, s_bin, s_div, s_i2l, s_lcmp, s_dup, s_dup2, s_pop, s_tab, s_look, s_get, s_put, s_iald, s_lald, s_aald, s_iast, s_last, s_aast, s_len, s_newa, s_new, s_thr, s_min, s_copy, s_obj, s_call, s_iret, s_aret, s_vret, go, ldI, lget_lput, nl_I, nl_R, lv_args, wsum, va_rf, hnd, cvr, cat_i, cat_r, cat_l, oi_of, oi_add, oi_sub, oA_ap, oA_u2, pi_lt, pi_le, pi_eq, pi_eq0, pi_lt0, pi_le0, pi_gt0, pi_ge0, pi_cl, sb_lit, fv4, isB01, nlt0, EvU_0, wO_ne, wL_ne, wC_ne, wN_ne, pO_ne, pU_ne, CN, LN, -Prod.exists, pi_ti, Op.lookupswitch.offset, EvU_at d138_0, EvU_at d138_1, EvU_at d138_2, EvU_at d138_3, EvU_at d138_5, EvU_at d138_8, EvU_at d138_9, EvU_at d138_12, EvU_at d138_13, EvU_at d138_14, EvU_at d138_17, EvU_at d138_18, EvU_at d138_19, EvU_at d138_20, EvU_at d138_23, EvU_at d138_24, EvU_at d138_25, EvU_at d138_28, EvU_at d138_31, EvU_at d138_32, EvU_at d138_35, EvU_at d138_36, EvU_at d138_37, EvU_at d138_40, EvU_at d138_43, EvU_at d138_44, EvU_at d138_45, EvU_at d138_46, EvU_at d138_48, EvU_at d138_51, EvU_at d138_52, EvU_at d138_55, EvU_at d138_56, EvU_at d138_57, EvU_at d138_60, EvU_at d138_61, EvU_at d138_62, EvU_at d138_65, EvU_at d138_66, EvU_at d138_69, EvU_at d138_70, EvU_at d138_71, EvU_at d138_72, EvU_at d138_73, EvU_at d138_74, EvU_at d138_77, EvU_at d138_78, EvU_at d138_81, EvU_at d138_82, EvU_at d138_85, EvU_at d138_86, EvU_at d138_87, EvU_at d138_88, EvU_at d138_91, EvU_at d138_94, EvU_at d138_95, EvU_at d138_96, EvU_at d138_97, EvU_at d138_99, EvU_at d138_102, EvU_at d138_103, EvU_at d138_106, EvU_at d138_108, EvU_at d138_109, EvU_at d138_110, EvU_at d138_111, EvU_at d138_114, EvU_at d138_115, EvU_at d138_116, EvU_at d138_119, EvU_at d138_120, EvU_at d138_123, EvU_at d138_125, EvU_at d138_126, EvU_at d138_127, EvU_at d138_128, EvU_at d138_129, EvU_at d138_130, EvU_at d138_131, EvU_at d138_134, EvU_at d138_135, EvU_at d138_136, EvU_at d138_137, EvU_at d138_140, EvU_at d138_141, EvU_at d138_142, EvU_at d138_145, EvU_at d138_148, Z138, LyS hL, LyG hL, g, g0, g1, e0, e1, e2, e3, q2, q3, b0, p1, hm1, e5, f]
def stR (A B : Nat → Nat → Int) (s : Nat) : Nat → Nat → Int := fillR (fillR (fillR A 210 s 6 (mvB B)) 208 0 6 (sF2 (mvB B) (fun j => B 14 j) (B 2 9))) 208 6 18 (sF3 (fun j => B (pO j) 1) (fun j => B 15 j))
theorem mvB01 (s : Nat) : mvB B s = 0 ∨ mvB B s = 1 := by
  unfold mvB
  split
  · exact Or.inr rfl
  · exact Or.inl rfl
set_option maxRecDepth 20000 in
theorem l_st1 (hL : Lay sh gr) {k : Nat} (hk : OrdAt B k) : ∀ (n s : Nat) (A : Nat → Nat → Int) (ls : Lc), s + n = 6 → (∀ k j, sb (A k j)) → RW A B → (∀ j, j < s → A 210 j = mvB B j) → nl ls = true → lget ls 0 = some (.ref 199) → lget ls 1 = some (.int (oi (s : Int))) →
    (Ev (138, 2, ls, [], (sh, oA A, gl, gr), sl) r ↔ r = (.inl none, (sh, oA (stR A B s), gl, gr), sl)) := by
  intro n
  induction n with
  | zero =>
    intro s A ls hn hA h hb g g0 g1
    obtain rfl : s = 6 := by omega
    have e0 : sb ((6 : Nat) : Int) := ⟨by omega, by omega⟩
    have e1 : (6 : Int) ≤ ((6 : Nat) : Int) := by omega
    have hm := h.M.m
    unfold stR
    rw [fillR_0, EvU_iff (fun p => p == 45) 10]
    simp (maxDischargeDepth := 9) [EvS, stI, enI, caI, s_push, s_iload, s_aload, s_istore, s_astore, s_iinc, s_bin, s_div, s_i2l, s_lcmp, s_dup, s_dup2, s_pop, s_tab, s_look, s_get, s_put, s_iald, s_lald, s_aald, s_iast, s_last, s_aast, s_len, s_newa, s_new, s_thr, s_min, s_copy, s_obj, s_call, s_iret, s_aret, s_vret, go, ldI, lget_lput, nl_I, nl_R, lv_args, wsum, va_rf, hnd, cvr, cat_i, cat_r, cat_l, oi_of, oi_add, oi_sub, oA_ap, oA_u2, pi_lt, pi_le, pi_eq, pi_eq0, pi_lt0, pi_le0, pi_gt0, pi_ge0, pi_cl, sb_lit, fv4, isB01, nlt0, EvU_0, wO_ne, wL_ne, wC_ne, wN_ne, pO_ne, pU_ne, CN, LN, -Prod.exists, pi_ti, Op.lookupswitch.offset, EvU_at d138_0, EvU_at d138_1, EvU_at d138_2, EvU_at d138_3, EvU_at d138_5, EvU_at d138_8, EvU_at d138_9, EvU_at d138_12, EvU_at d138_13, EvU_at d138_14, EvU_at d138_17, EvU_at d138_18, EvU_at d138_19, EvU_at d138_20, EvU_at d138_23, EvU_at d138_24, EvU_at d138_25, EvU_at d138_28, EvU_at d138_31, EvU_at d138_32, EvU_at d138_35, EvU_at d138_36, EvU_at d138_37, EvU_at d138_40, EvU_at d138_43, EvU_at d138_44, EvU_at d138_45, EvU_at d138_46, EvU_at d138_48, EvU_at d138_51, EvU_at d138_52, EvU_at d138_55, EvU_at d138_56, EvU_at d138_57, EvU_at d138_60, EvU_at d138_61, EvU_at d138_62, EvU_at d138_65, EvU_at d138_66, EvU_at d138_69, EvU_at d138_70, EvU_at d138_71, EvU_at d138_72, EvU_at d138_73, EvU_at d138_74, EvU_at d138_77, EvU_at d138_78, EvU_at d138_81, EvU_at d138_82, EvU_at d138_85, EvU_at d138_86, EvU_at d138_87, EvU_at d138_88, EvU_at d138_91, EvU_at d138_94, EvU_at d138_95, EvU_at d138_96, EvU_at d138_97, EvU_at d138_99, EvU_at d138_102, EvU_at d138_103, EvU_at d138_106, EvU_at d138_108, EvU_at d138_109, EvU_at d138_110, EvU_at d138_111, EvU_at d138_114, EvU_at d138_115, EvU_at d138_116, EvU_at d138_119, EvU_at d138_120, EvU_at d138_123, EvU_at d138_125, EvU_at d138_126, EvU_at d138_127, EvU_at d138_128, EvU_at d138_129, EvU_at d138_130, EvU_at d138_131, EvU_at d138_134, EvU_at d138_135, EvU_at d138_136, EvU_at d138_137, EvU_at d138_140, EvU_at d138_141, EvU_at d138_142, EvU_at d138_145, EvU_at d138_148, Z138, LyS hL, LyG hL, g, g0, g1, e0, e1]
    refine l_st2 hL (by omega) (fun j hj => ?_) (fun j hj => h.C.pos j hj) (fun j _ => mvB01 j) 6 0 A _ rfl hA h.R.m hb (fun j hj => h.R.len j hj) (fun j hj => h.P.pl j hj) (fun j _ hj => h.P.pos j hj) ?_ ?_ ?_
    · have h1 := h.M.len j hj
      have h2 := h.C.pl j hj
      refine ⟨h1.1, h1.2, h2.1, ?_⟩
      show B 15 j ≤ 61
      by_cases c : 0 < B (pO j) 1
      · have := h2.2.1 c
        omega
      · have := h2.2.2 (by omega)
        omega
    · simp (maxDischargeDepth := 9) [lget_lput, nl_I, nl_R, g]
    · simp (maxDischargeDepth := 9) [lget_lput, nl_I, nl_R, g, g0]
    · simp (maxDischargeDepth := 9) [lget_lput, nl_I, nl_R, g]
  | succ n ih =>
    intro s A ls hn hA h hb g g0 g1
    have hs : s < 6 := by omega
    have x1 := h.R.slot s hs
    have q8 : sb (B 4 s) := x1 ▸ hA _ _
    have e0 : sb (s : Int) := ⟨by omega, by omega⟩
    have e1 : ¬ (6 : Int) ≤ (s : Int) := by omega
    have e2 : ¬ 6 ≤ s := by omega
    rw [EvU_iff (fun _ => false) 1]
    simp (maxDischargeDepth := 9) [EvS, stI, enI, caI, s_push, s_iload, s_aload, s_istore, s_astore, s_iinc, s_bin, s_div, s_i2l, s_lcmp, s_dup, s_dup2, s_pop, s_tab, s_look, s_get, s_put, s_iald, s_lald, s_aald, s_iast, s_last, s_aast, s_len, s_newa, s_new, s_thr, s_min, s_copy, s_obj, s_call, s_iret, s_aret, s_vret, go, ldI, lget_lput, nl_I, nl_R, lv_args, wsum, va_rf, hnd, cvr, cat_i, cat_r, cat_l, oi_of, oi_add, oi_sub, oA_ap, oA_u2, pi_lt, pi_le, pi_eq, pi_eq0, pi_lt0, pi_le0, pi_gt0, pi_ge0, pi_cl, sb_lit, fv4, isB01, nlt0, EvU_0, wO_ne, wL_ne, wC_ne, wN_ne, pO_ne, pU_ne, CN, LN, -Prod.exists, pi_ti, Op.lookupswitch.offset, EvU_at d138_0, EvU_at d138_1, EvU_at d138_2, EvU_at d138_3, EvU_at d138_5, EvU_at d138_8, EvU_at d138_9, EvU_at d138_12, EvU_at d138_13, EvU_at d138_14, EvU_at d138_17, EvU_at d138_18, EvU_at d138_19, EvU_at d138_20, EvU_at d138_23, EvU_at d138_24, EvU_at d138_25, EvU_at d138_28, EvU_at d138_31, EvU_at d138_32, EvU_at d138_35, EvU_at d138_36, EvU_at d138_37, EvU_at d138_40, EvU_at d138_43, EvU_at d138_44, EvU_at d138_45, EvU_at d138_46, EvU_at d138_48, EvU_at d138_51, EvU_at d138_52, EvU_at d138_55, EvU_at d138_56, EvU_at d138_57, EvU_at d138_60, EvU_at d138_61, EvU_at d138_62, EvU_at d138_65, EvU_at d138_66, EvU_at d138_69, EvU_at d138_70, EvU_at d138_71, EvU_at d138_72, EvU_at d138_73, EvU_at d138_74, EvU_at d138_77, EvU_at d138_78, EvU_at d138_81, EvU_at d138_82, EvU_at d138_85, EvU_at d138_86, EvU_at d138_87, EvU_at d138_88, EvU_at d138_91, EvU_at d138_94, EvU_at d138_95, EvU_at d138_96, EvU_at d138_97, EvU_at d138_99, EvU_at d138_102, EvU_at d138_103, EvU_at d138_106, EvU_at d138_108, EvU_at d138_109, EvU_at d138_110, EvU_at d138_111, EvU_at d138_114, EvU_at d138_115, EvU_at d138_116, EvU_at d138_119, EvU_at d138_120, EvU_at d138_123, EvU_at d138_125, EvU_at d138_126, EvU_at d138_127, EvU_at d138_128, EvU_at d138_129, EvU_at d138_130, EvU_at d138_131, EvU_at d138_134, EvU_at d138_135, EvU_at d138_136, EvU_at d138_137, EvU_at d138_140, EvU_at d138_141, EvU_at d138_142, EvU_at d138_145, EvU_at d138_148, Z138, LyS hL, LyG hL, g, g0, g1, e0]
    rw [EvU_iff (fun p => p == 2) 60]
    have es : stR A B s = stR (u2 A 210 s (mvB B s)) B (s + 1) := by
      unfold stR
      rw [fillR_s A (mvB B) hs]
    rw [es]
    have fin : ∀ v : Int, sb v → v = mvB B s → (Ev (138, 2, lput ls 1 (.int (oi ((s : Int) + 1))), [], (sh, oA (u2 A 210 s v), gl, gr), sl) r ↔ r = (.inl none, (sh, oA (stR (u2 A 210 s (mvB B s)) B (s + 1)), gl, gr), sl)) := by
      intro v hv ev
      subst ev
      refine ih (s + 1) _ _ (by omega) (sb_u2 hA hv _ _) (h.cg (fun b _ => uk_ne (by omega) _ _ _) (fun a b _ _ => uk_ne (by omega) _ _ _)) ?_ ?_ ?_ ?_
      · intro j hj
        by_cases c : j = s
        · subst c
          rw [ue_eq]
        · rw [uj_ne c]
          exact hb j (by omega)
      · simp (maxDischargeDepth := 9) [lget_lput, nl_I, nl_R, g]
      · simp (maxDischargeDepth := 9) [lget_lput, nl_I, nl_R, g, g0]
      · simp (maxDischargeDepth := 9) [lget_lput, nl_I, nl_R, g]
    by_cases c : B 4 s = -1
    · have f := fin 0 ⟨by omega, by omega⟩ (by unfold mvB; rw [if_neg (by rw [bits_none hk hs c]; simp)])
      simp (maxDischargeDepth := 9) [EvS, stI, enI, caI, s_push, s_iload, s_aload, s_istore, s_astore, s_iinc, s_bin, s_div, s_i2l, s_lcmp, s_dup, s_dup2, s_pop, s_tab, s_look, s_get, s_put, s_iald, s_lald, s_aald, s_iast, s_last, s_aast, s_len, s_newa, s_new, s_thr, s_min, s_copy, s_obj, s_call, s_iret, s_aret, s_vret, go, ldI, lget_lput, nl_I, nl_R, lv_args, wsum, va_rf, hnd, cvr, cat_i, cat_r, cat_l, oi_of, oi_add, oi_sub, oA_ap, oA_u2, pi_lt, pi_le, pi_eq, pi_eq0, pi_lt0, pi_le0, pi_gt0, pi_ge0, pi_cl, sb_lit, fv4, isB01, nlt0, EvU_0, wO_ne, wL_ne, wC_ne, wN_ne, pO_ne, pU_ne, CN, LN, -Prod.exists, pi_ti, Op.lookupswitch.offset, EvU_at d138_0, EvU_at d138_1, EvU_at d138_2, EvU_at d138_3, EvU_at d138_5, EvU_at d138_8, EvU_at d138_9, EvU_at d138_12, EvU_at d138_13, EvU_at d138_14, EvU_at d138_17, EvU_at d138_18, EvU_at d138_19, EvU_at d138_20, EvU_at d138_23, EvU_at d138_24, EvU_at d138_25, EvU_at d138_28, EvU_at d138_31, EvU_at d138_32, EvU_at d138_35, EvU_at d138_36, EvU_at d138_37, EvU_at d138_40, EvU_at d138_43, EvU_at d138_44, EvU_at d138_45, EvU_at d138_46, EvU_at d138_48, EvU_at d138_51, EvU_at d138_52, EvU_at d138_55, EvU_at d138_56, EvU_at d138_57, EvU_at d138_60, EvU_at d138_61, EvU_at d138_62, EvU_at d138_65, EvU_at d138_66, EvU_at d138_69, EvU_at d138_70, EvU_at d138_71, EvU_at d138_72, EvU_at d138_73, EvU_at d138_74, EvU_at d138_77, EvU_at d138_78, EvU_at d138_81, EvU_at d138_82, EvU_at d138_85, EvU_at d138_86, EvU_at d138_87, EvU_at d138_88, EvU_at d138_91, EvU_at d138_94, EvU_at d138_95, EvU_at d138_96, EvU_at d138_97, EvU_at d138_99, EvU_at d138_102, EvU_at d138_103, EvU_at d138_106, EvU_at d138_108, EvU_at d138_109, EvU_at d138_110, EvU_at d138_111, EvU_at d138_114, EvU_at d138_115, EvU_at d138_116, EvU_at d138_119, EvU_at d138_120, EvU_at d138_123, EvU_at d138_125, EvU_at d138_126, EvU_at d138_127, EvU_at d138_128, EvU_at d138_129, EvU_at d138_130, EvU_at d138_131, EvU_at d138_134, EvU_at d138_135, EvU_at d138_136, EvU_at d138_137, EvU_at d138_140, EvU_at d138_141, EvU_at d138_142, EvU_at d138_145, EvU_at d138_148, Z138, LyS hL, LyG hL, g, g0, g1, e0, e1, e2, x1, c, f]
    · obtain ⟨i, hi, hj⟩ := ord_has k hk.1 s hs ((hk.2.1 s hs).mp c)
      have st := fun (sl : Nat) (r : Out) => r_steps (gl := gl) (sl := sl) (r := r) hA hL h hk hi
      have bo := bits_ord hk hi
      unfold oM at st
      rw [hj] at st bo
      rcases stepB01 (A := B) i with e | e
      · rw [e] at st
        have f := fin 0 ⟨by omega, by omega⟩ (by unfold mvB; rw [if_neg (fun hh => by have := bo.mp hh; omega)])
        simp (maxDischargeDepth := 9) [EvS, stI, enI, caI, s_push, s_iload, s_aload, s_istore, s_astore, s_iinc, s_bin, s_div, s_i2l, s_lcmp, s_dup, s_dup2, s_pop, s_tab, s_look, s_get, s_put, s_iald, s_lald, s_aald, s_iast, s_last, s_aast, s_len, s_newa, s_new, s_thr, s_min, s_copy, s_obj, s_call, s_iret, s_aret, s_vret, go, ldI, lget_lput, nl_I, nl_R, lv_args, wsum, va_rf, hnd, cvr, cat_i, cat_r, cat_l, oi_of, oi_add, oi_sub, oA_ap, oA_u2, pi_lt, pi_le, pi_eq, pi_eq0, pi_lt0, pi_le0, pi_gt0, pi_ge0, pi_cl, sb_lit, fv4, isB01, nlt0, EvU_0, wO_ne, wL_ne, wC_ne, wN_ne, pO_ne, pU_ne, CN, LN, -Prod.exists, pi_ti, Op.lookupswitch.offset, EvU_at d138_0, EvU_at d138_1, EvU_at d138_2, EvU_at d138_3, EvU_at d138_5, EvU_at d138_8, EvU_at d138_9, EvU_at d138_12, EvU_at d138_13, EvU_at d138_14, EvU_at d138_17, EvU_at d138_18, EvU_at d138_19, EvU_at d138_20, EvU_at d138_23, EvU_at d138_24, EvU_at d138_25, EvU_at d138_28, EvU_at d138_31, EvU_at d138_32, EvU_at d138_35, EvU_at d138_36, EvU_at d138_37, EvU_at d138_40, EvU_at d138_43, EvU_at d138_44, EvU_at d138_45, EvU_at d138_46, EvU_at d138_48, EvU_at d138_51, EvU_at d138_52, EvU_at d138_55, EvU_at d138_56, EvU_at d138_57, EvU_at d138_60, EvU_at d138_61, EvU_at d138_62, EvU_at d138_65, EvU_at d138_66, EvU_at d138_69, EvU_at d138_70, EvU_at d138_71, EvU_at d138_72, EvU_at d138_73, EvU_at d138_74, EvU_at d138_77, EvU_at d138_78, EvU_at d138_81, EvU_at d138_82, EvU_at d138_85, EvU_at d138_86, EvU_at d138_87, EvU_at d138_88, EvU_at d138_91, EvU_at d138_94, EvU_at d138_95, EvU_at d138_96, EvU_at d138_97, EvU_at d138_99, EvU_at d138_102, EvU_at d138_103, EvU_at d138_106, EvU_at d138_108, EvU_at d138_109, EvU_at d138_110, EvU_at d138_111, EvU_at d138_114, EvU_at d138_115, EvU_at d138_116, EvU_at d138_119, EvU_at d138_120, EvU_at d138_123, EvU_at d138_125, EvU_at d138_126, EvU_at d138_127, EvU_at d138_128, EvU_at d138_129, EvU_at d138_130, EvU_at d138_131, EvU_at d138_134, EvU_at d138_135, EvU_at d138_136, EvU_at d138_137, EvU_at d138_140, EvU_at d138_141, EvU_at d138_142, EvU_at d138_145, EvU_at d138_148, Z138, Z139, LyS hL, LyG hL, g, g0, g1, e0, e1, e2, x1, q8, c, st, f]
      · rw [e] at st
        have f := fin 1 ⟨by omega, by omega⟩ (by unfold mvB; rw [if_pos (bo.mpr e)])
        simp (maxDischargeDepth := 9) [EvS, stI, enI, caI, s_push, s_iload, s_aload, s_istore, s_astore, s_iinc, s_bin, s_div, s_i2l, s_lcmp, s_dup, s_dup2, s_pop, s_tab, s_look, s_get, s_put, s_iald, s_lald, s_aald, s_iast, s_last, s_aast, s_len, s_newa, s_new, s_thr, s_min, s_copy, s_obj, s_call, s_iret, s_aret, s_vret, go, ldI, lget_lput, nl_I, nl_R, lv_args, wsum, va_rf, hnd, cvr, cat_i, cat_r, cat_l, oi_of, oi_add, oi_sub, oA_ap, oA_u2, pi_lt, pi_le, pi_eq, pi_eq0, pi_lt0, pi_le0, pi_gt0, pi_ge0, pi_cl, sb_lit, fv4, isB01, nlt0, EvU_0, wO_ne, wL_ne, wC_ne, wN_ne, pO_ne, pU_ne, CN, LN, -Prod.exists, pi_ti, Op.lookupswitch.offset, EvU_at d138_0, EvU_at d138_1, EvU_at d138_2, EvU_at d138_3, EvU_at d138_5, EvU_at d138_8, EvU_at d138_9, EvU_at d138_12, EvU_at d138_13, EvU_at d138_14, EvU_at d138_17, EvU_at d138_18, EvU_at d138_19, EvU_at d138_20, EvU_at d138_23, EvU_at d138_24, EvU_at d138_25, EvU_at d138_28, EvU_at d138_31, EvU_at d138_32, EvU_at d138_35, EvU_at d138_36, EvU_at d138_37, EvU_at d138_40, EvU_at d138_43, EvU_at d138_44, EvU_at d138_45, EvU_at d138_46, EvU_at d138_48, EvU_at d138_51, EvU_at d138_52, EvU_at d138_55, EvU_at d138_56, EvU_at d138_57, EvU_at d138_60, EvU_at d138_61, EvU_at d138_62, EvU_at d138_65, EvU_at d138_66, EvU_at d138_69, EvU_at d138_70, EvU_at d138_71, EvU_at d138_72, EvU_at d138_73, EvU_at d138_74, EvU_at d138_77, EvU_at d138_78, EvU_at d138_81, EvU_at d138_82, EvU_at d138_85, EvU_at d138_86, EvU_at d138_87, EvU_at d138_88, EvU_at d138_91, EvU_at d138_94, EvU_at d138_95, EvU_at d138_96, EvU_at d138_97, EvU_at d138_99, EvU_at d138_102, EvU_at d138_103, EvU_at d138_106, EvU_at d138_108, EvU_at d138_109, EvU_at d138_110, EvU_at d138_111, EvU_at d138_114, EvU_at d138_115, EvU_at d138_116, EvU_at d138_119, EvU_at d138_120, EvU_at d138_123, EvU_at d138_125, EvU_at d138_126, EvU_at d138_127, EvU_at d138_128, EvU_at d138_129, EvU_at d138_130, EvU_at d138_131, EvU_at d138_134, EvU_at d138_135, EvU_at d138_136, EvU_at d138_137, EvU_at d138_140, EvU_at d138_141, EvU_at d138_142, EvU_at d138_145, EvU_at d138_148, Z138, Z139, LyS hL, LyG hL, g, g0, g1, e0, e1, e2, x1, q8, c, st, f]
set_option maxRecDepth 20000 in
theorem r_step (hA : ∀ k j, sb (A k j)) (hL : Lay sh gr) (h : RW A B) : Ev (138, 0, [(0, .ref 199)], [], (sh, oA A, gl, gr), sl) r ↔ r = (.inl none, (sh, oA (stR A B 0), gl, gr), sl) := by
  obtain ⟨k, hk⟩ := h.M.ord
  rw [EvU_iff (fun p => p == 2) 20]
  simp [EvS, stI, enI, caI, s_push, s_iload, s_aload, s_istore, s_astore, s_iinc, s_bin, s_div, s_i2l, s_lcmp, s_dup, s_dup2, s_pop, s_tab, s_look, s_get, s_put, s_iald, s_lald, s_aald, s_iast, s_last, s_aast, s_len, s_newa, s_new, s_thr, s_min, s_copy, s_obj, s_call, s_iret, s_aret, s_vret, go, ldI, lget, lput, lv_args, wsum, va_rf, hnd, cvr, cat_i, cat_r, cat_l, oi_of, oi_add, oi_sub, oA_ap, oA_u2, pi_lt, pi_le, pi_eq, pi_eq0, pi_lt0, pi_le0, pi_gt0, pi_ge0, pi_cl, sb_lit, fv4, isB01, nlt0, EvU_0, wO_ne, wL_ne, wC_ne, wN_ne, pO_ne, pU_ne, CN, LN, -Prod.exists, pi_ti, Op.lookupswitch.offset, EvU_at d138_0, EvU_at d138_1, EvU_at d138_2, EvU_at d138_3, EvU_at d138_5, EvU_at d138_8, EvU_at d138_9, EvU_at d138_12, EvU_at d138_13, EvU_at d138_14, EvU_at d138_17, EvU_at d138_18, EvU_at d138_19, EvU_at d138_20, EvU_at d138_23, EvU_at d138_24, EvU_at d138_25, EvU_at d138_28, EvU_at d138_31, EvU_at d138_32, EvU_at d138_35, EvU_at d138_36, EvU_at d138_37, EvU_at d138_40, EvU_at d138_43, EvU_at d138_44, EvU_at d138_45, EvU_at d138_46, EvU_at d138_48, EvU_at d138_51, EvU_at d138_52, EvU_at d138_55, EvU_at d138_56, EvU_at d138_57, EvU_at d138_60, EvU_at d138_61, EvU_at d138_62, EvU_at d138_65, EvU_at d138_66, EvU_at d138_69, EvU_at d138_70, EvU_at d138_71, EvU_at d138_72, EvU_at d138_73, EvU_at d138_74, EvU_at d138_77, EvU_at d138_78, EvU_at d138_81, EvU_at d138_82, EvU_at d138_85, EvU_at d138_86, EvU_at d138_87, EvU_at d138_88, EvU_at d138_91, EvU_at d138_94, EvU_at d138_95, EvU_at d138_96, EvU_at d138_97, EvU_at d138_99, EvU_at d138_102, EvU_at d138_103, EvU_at d138_106, EvU_at d138_108, EvU_at d138_109, EvU_at d138_110, EvU_at d138_111, EvU_at d138_114, EvU_at d138_115, EvU_at d138_116, EvU_at d138_119, EvU_at d138_120, EvU_at d138_123, EvU_at d138_125, EvU_at d138_126, EvU_at d138_127, EvU_at d138_128, EvU_at d138_129, EvU_at d138_130, EvU_at d138_131, EvU_at d138_134, EvU_at d138_135, EvU_at d138_136, EvU_at d138_137, EvU_at d138_140, EvU_at d138_141, EvU_at d138_142, EvU_at d138_145, EvU_at d138_148, Z138]
  refine l_st1 hL hk 6 0 A _ rfl hA h (fun j hj => absurd hj (by omega)) ?_ ?_ ?_
  · simp [nl, cat_i, cat_r]
  · simp [lget, cat_i, cat_r]
  · simp [lget, cat_i, cat_r]
theorem stR_ne (A B : Nat → Nat → Int) (s : Nat) {a : Nat} (h1 : a ≠ 208) (h2 : a ≠ 210) (b : Nat) : stR A B s a b = A a b := by
  unfold stR fillR
  rw [if_neg h1, if_neg h1, if_neg h2]
theorem stR_pos (h : RW A B) {s : Nat} (hs : s < 6) : stR A B 0 208 s = stF B 14 s := by
  have h1 := h.C.pos s hs
  have hm := h.M.m
  unfold stR fillR stF
  rw [if_pos rfl, if_neg (by omega), if_pos rfl, if_pos (by omega), moveF_c, if_neg (by omega)]
  by_cases c : (bitsF B).testBit s = true
  · have e : mvB B s = 1 := if_pos c
    show (if mvB B s = 1 then (B 14 s + 1) % B 2 9 else B 14 s) = _
    rw [if_pos e, if_pos ⟨rfl, hs, c⟩, ← rd_mod (by omega) (by omega) (by omega), Int.add_emod_right]
  · have e : mvB B s = 0 := if_neg c
    show (if mvB B s = 1 then (B 14 s + 1) % B 2 9 else B 14 s) = _
    rw [if_neg (by omega), if_neg (fun hh => c hh.2.2)]
theorem stR_pl (h : RW A B) {k : Nat} (hk : k < 12) : stR A B 0 208 (6 + k) = stF B 15 k := by
  have h1 := h.C.pl k hk
  have hm := h.M.len k hk
  unfold stR fillR stF
  rw [if_pos rfl, if_pos (by omega), moveF_c]
  unfold sF3
  rw [show 6 + k - 6 = k by omega]
  by_cases c : 0 < B (pO k) 1
  · have h2 := h1.2.1 c
    rw [if_pos c, if_pos ⟨rfl, hk, c⟩, ← rd_mod (by omega) (by omega) (by omega), Int.add_emod_right]
  · rw [if_neg c, if_neg (fun hh => c hh.2.2), if_neg (by omega)]
    exact (h1.2.2 (by omega)).symm
theorem RW.st (h : RW A B) : RW (stR A B 0) (stF B) := by
  refine ⟨(h.R.cg (fun b _ => stR_ne A B 0 (by omega) (by omega) b) (fun a b _ _ => stR_ne A B 0 (by omega) (by omega) b)).cgB (fun a b _ h1 h2 => stF_ne B h1 h2 b), ⟨fun s hs => stR_pos h hs, fun k hk => stR_pl h hk⟩, h.M.cg (fun a b _ h1 h2 => stF_ne B h1 h2 b), CP.move h.M h.C (Or.inl rfl) _⟩
theorem sb_stR (h : RW A B) (hA : ∀ k j, sb (A k j)) : ∀ k j, sb (stR A B 0 k j) := by
  intro a b
  by_cases h1 : a = 208
  · subst h1
    have hc := CP.move h.M h.C (Or.inl rfl) (bitsF B)
    by_cases c1 : b < 6
    · rw [stR_pos h c1]
      have := hc.pos b c1
      have hm := h.M.m
      have e2 : moveF 1 (bitsF B) B 2 9 = B 2 9 := moveF_ne 1 _ B (by omega) (by omega) 9
      unfold stF
      exact ⟨by omega, by omega⟩
    · by_cases c2 : b < 18
      · obtain ⟨j, rfl⟩ : ∃ j, b = 6 + j := ⟨b - 6, by omega⟩
        rw [stR_pl h (by omega)]
        have h3 := hc.pl j (by omega)
        have h4 := h.M.len j (by omega)
        have ep : moveF 1 (bitsF B) B (pO j) 1 = B (pO j) 1 := moveF_ne 1 _ B (by unfold pO; omega) (by unfold pO; omega) 1
        rw [ep] at h3
        unfold stF
        refine ⟨by omega, ?_⟩
        by_cases c : 0 < B (pO j) 1
        · have := h3.2.1 c
          omega
        · have := h3.2.2 (by omega)
          omega
      · unfold stR fillR
        rw [if_pos rfl, if_neg (by omega), if_pos rfl, if_neg (by omega), if_neg (by omega)]
        exact hA _ _
  · by_cases h2 : a = 210
    · subst h2
      unfold stR fillR
      rw [if_neg (by omega), if_neg (by omega), if_pos rfl]
      split
      · rcases mvB01 (B := B) b with e | e <;> rw [e] <;> exact ⟨by decide, by decide⟩
      · exact hA _ _
    · rw [stR_ne A B 0 h1 h2]
      exact hA _ _
end
