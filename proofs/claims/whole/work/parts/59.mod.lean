/-! the reference's calls -/
section
variable {sh : List (Nat × Nat)} {A B : Nat → Nat → Int} {gl : Nat → Nat → Int64} {gr : Nat → Nat → Option Nat} {sl : Nat} {r : Out}
/-- the stand is written into row u of the old ones -/
def gow (A : Nat → Nat → Int) (u k : Nat) (st : Nat → Int) : Nat → Nat → Int := u2 (fillR A 211 (18 * u + k) (18 * u + 18) (fun j => st (j - 18 * u))) 199 16 ((u : Int) + 1)
set_option maxRecDepth 20000 in
theorem l_go2 (hL : Lay sh gr) {u : Nat} (hu : u < 40) {st : Nat → Int} : ∀ (n k : Nat) (A : Nat → Nat → Int) (ls : Lc), k + n = 18 → (∀ k j, sb (A k j)) → RW A B → A 199 16 = (u : Int) → (∀ j, A 208 j = st j) → nl ls = true → lget ls 0 = some (.ref 199) → lget ls 1 = some (.int (oi (k : Int))) →
    (Ev (137, 47, ls, [], (sh, oA A, gl, gr), sl) r ↔ r = (.inl none, (sh, oA (stR (gow A u k st) B 0), gl, gr), sl)) := by
  have q0 : sb (u : Int) := ⟨by omega, by omega⟩
  intro n
  induction n with
  | zero =>
    intro k A ls hn hA h hm hs g g0 g1
    obtain rfl : k = 18 := by omega
    unfold gow
    rw [fillR_0]
    have e0 : sb ((18 : Nat) : Int) := ⟨by omega, by omega⟩
    have e1 : (18 : Int) ≤ ((18 : Nat) : Int) := by omega
    have st := fun (sl : Nat) (r : Out) => r_step (gl := gl) (sl := sl) (r := r) (A := u2 A 199 16 ((u : Int) + 1)) (sb_u2 hA ⟨by omega, by omega⟩ _ _) hL (h.cg (fun b hb => uj_ne (by omega) _ _ _) (fun a b _ _ => uk_ne (by omega) _ _ _))
    rw [EvU_iff (fun _ => false) 40]
    simp (maxDischargeDepth := 9) [EvS, stI, enI, caI, s_push, s_iload, s_aload, s_istore, s_astore, s_iinc, s_bin, s_div, s_i2l, s_lcmp, s_dup, s_dup2, s_pop, s_tab, s_look, s_get, s_put, s_iald, s_lald, s_aald, s_iast, s_last, s_aast, s_len, s_newa, s_new, s_thr, s_min, s_copy, s_obj, s_call, s_iret, s_aret, s_vret, go, ldI, lget_lput, nl_I, nl_R, lv_args, wsum, va_rf, hnd, cvr, cat_i, cat_r, cat_l, oi_of, oi_add, oi_sub, oA_ap, oA_u2, pi_lt, pi_le, pi_eq, pi_eq0, pi_lt0, pi_le0, pi_gt0, pi_ge0, pi_cl, sb_lit, fv4, isB01, nlt0, EvU_0, wO_ne, wL_ne, wC_ne, wN_ne, pO_ne, pU_ne, CN, LN, -Prod.exists, pi_ti, Op.lookupswitch.offset, EvU_at d137_0, EvU_at d137_1, EvU_at d137_4, EvU_at d137_6, EvU_at d137_9, EvU_at d137_10, EvU_at d137_11, EvU_at d137_12, EvU_at d137_15, EvU_at d137_18, EvU_at d137_19, EvU_at d137_22, EvU_at d137_23, EvU_at d137_24, EvU_at d137_27, EvU_at d137_28, EvU_at d137_30, EvU_at d137_31, EvU_at d137_32, EvU_at d137_33, EvU_at d137_36, EvU_at d137_39, EvU_at d137_40, EvU_at d137_42, EvU_at d137_45, EvU_at d137_46, EvU_at d137_47, EvU_at d137_48, EvU_at d137_50, EvU_at d137_53, EvU_at d137_54, EvU_at d137_57, EvU_at d137_59, EvU_at d137_60, EvU_at d137_63, EvU_at d137_64, EvU_at d137_65, EvU_at d137_66, EvU_at d137_67, EvU_at d137_70, EvU_at d137_71, EvU_at d137_72, EvU_at d137_73, EvU_at d137_76, EvU_at d137_79, EvU_at d137_80, EvU_at d137_81, EvU_at d137_84, EvU_at d137_85, EvU_at d137_86, EvU_at d137_89, EvU_at d137_90, EvU_at d137_93, Z137, Z138, LyS hL, LyG hL, g, g0, g1, e0, e1, hm, st]
  | succ n ih =>
    intro k A ls hn hA h hm hs g g0 g1
    have e0 : sb (k : Int) := ⟨by omega, by omega⟩
    have e1 : ¬ (18 : Int) ≤ (k : Int) := by omega
    have e2 : ¬ 18 ≤ k := by omega
    have i0 : sb (18 * (u : Int) + (k : Int)) := ⟨by omega, by omega⟩
    have i1 : ¬ 18 * (u : Int) + (k : Int) < 0 := by omega
    have i2 : (18 * (u : Int) + (k : Int)).toNat = 18 * u + k := by omega
    have i3 : ¬ 720 ≤ 18 * u + k := by omega
    have e3 := hs k
    have e4 : sb (st k) := e3 ▸ hA _ _
    rw [EvU_iff (fun _ => false) 1]
    simp (maxDischargeDepth := 9) [EvS, stI, enI, caI, s_push, s_iload, s_aload, s_istore, s_astore, s_iinc, s_bin, s_div, s_i2l, s_lcmp, s_dup, s_dup2, s_pop, s_tab, s_look, s_get, s_put, s_iald, s_lald, s_aald, s_iast, s_last, s_aast, s_len, s_newa, s_new, s_thr, s_min, s_copy, s_obj, s_call, s_iret, s_aret, s_vret, go, ldI, lget_lput, nl_I, nl_R, lv_args, wsum, va_rf, hnd, cvr, cat_i, cat_r, cat_l, oi_of, oi_add, oi_sub, oA_ap, oA_u2, pi_lt, pi_le, pi_eq, pi_eq0, pi_lt0, pi_le0, pi_gt0, pi_ge0, pi_cl, sb_lit, fv4, isB01, nlt0, EvU_0, wO_ne, wL_ne, wC_ne, wN_ne, pO_ne, pU_ne, CN, LN, -Prod.exists, pi_ti, Op.lookupswitch.offset, EvU_at d137_0, EvU_at d137_1, EvU_at d137_4, EvU_at d137_6, EvU_at d137_9, EvU_at d137_10, EvU_at d137_11, EvU_at d137_12, EvU_at d137_15, EvU_at d137_18, EvU_at d137_19, EvU_at d137_22, EvU_at d137_23, EvU_at d137_24, EvU_at d137_27, EvU_at d137_28, EvU_at d137_30, EvU_at d137_31, EvU_at d137_32, EvU_at d137_33, EvU_at d137_36, EvU_at d137_39, EvU_at d137_40, EvU_at d137_42, EvU_at d137_45, EvU_at d137_46, EvU_at d137_47, EvU_at d137_48, EvU_at d137_50, EvU_at d137_53, EvU_at d137_54, EvU_at d137_57, EvU_at d137_59, EvU_at d137_60, EvU_at d137_63, EvU_at d137_64, EvU_at d137_65, EvU_at d137_66, EvU_at d137_67, EvU_at d137_70, EvU_at d137_71, EvU_at d137_72, EvU_at d137_73, EvU_at d137_76, EvU_at d137_79, EvU_at d137_80, EvU_at d137_81, EvU_at d137_84, EvU_at d137_85, EvU_at d137_86, EvU_at d137_89, EvU_at d137_90, EvU_at d137_93, Z137, LyS hL, LyG hL, g, g0, g1]
    have es : gow A u k st = gow (u2 A 211 (18 * u + k) (st k)) u (k + 1) st := by
      unfold gow
      rw [← fillR_s A (fun j => st (j - 18 * u)) (show 18 * u + k < 18 * u + 18 by omega)]
      show _ = u2 (fillR (u2 A 211 (18 * u + k) (st k)) 211 (18 * u + k + 1) (18 * u + 18) (fun j => st (j - 18 * u))) 199 16 ((u : Int) + 1)
      rw [show 18 * u + k - 18 * u = k by omega]
    rw [EvU_iff (fun p => p == 47) 60, es]
    simp (maxDischargeDepth := 9) [EvS, stI, enI, caI, s_push, s_iload, s_aload, s_istore, s_astore, s_iinc, s_bin, s_div, s_i2l, s_lcmp, s_dup, s_dup2, s_pop, s_tab, s_look, s_get, s_put, s_iald, s_lald, s_aald, s_iast, s_last, s_aast, s_len, s_newa, s_new, s_thr, s_min, s_copy, s_obj, s_call, s_iret, s_aret, s_vret, go, ldI, lget_lput, nl_I, nl_R, lv_args, wsum, va_rf, hnd, cvr, cat_i, cat_r, cat_l, oi_of, oi_add, oi_sub, oA_ap, oA_u2, pi_lt, pi_le, pi_eq, pi_eq0, pi_lt0, pi_le0, pi_gt0, pi_ge0, pi_cl, sb_lit, fv4, isB01, nlt0, EvU_0, wO_ne, wL_ne, wC_ne, wN_ne, pO_ne, pU_ne, CN, LN, -Prod.exists, pi_ti, Op.lookupswitch.offset, EvU_at d137_0, EvU_at d137_1, EvU_at d137_4, EvU_at d137_6, EvU_at d137_9, EvU_at d137_10, EvU_at d137_11, EvU_at d137_12, EvU_at d137_15, EvU_at d137_18, EvU_at d137_19, EvU_at d137_22, EvU_at d137_23, EvU_at d137_24, EvU_at d137_27, EvU_at d137_28, EvU_at d137_30, EvU_at d137_31, EvU_at d137_32, EvU_at d137_33, EvU_at d137_36, EvU_at d137_39, EvU_at d137_40, EvU_at d137_42, EvU_at d137_45, EvU_at d137_46, EvU_at d137_47, EvU_at d137_48, EvU_at d137_50, EvU_at d137_53, EvU_at d137_54, EvU_at d137_57, EvU_at d137_59, EvU_at d137_60, EvU_at d137_63, EvU_at d137_64, EvU_at d137_65, EvU_at d137_66, EvU_at d137_67, EvU_at d137_70, EvU_at d137_71, EvU_at d137_72, EvU_at d137_73, EvU_at d137_76, EvU_at d137_79, EvU_at d137_80, EvU_at d137_81, EvU_at d137_84, EvU_at d137_85, EvU_at d137_86, EvU_at d137_89, EvU_at d137_90, EvU_at d137_93, Z137, LyS hL, LyG hL, oi_mul, g, g0, g1, e0, e1, e2, e3, hm, q0, i0, i1, i2, i3]
    refine ih (k + 1) _ _ (by omega) (sb_u2 hA e4 _ _) (h.cg (fun b hb => uk_ne (by omega) _ _ _) (fun a b _ _ => uk_ne (by omega) _ _ _)) ?_ ?_ ?_ ?_ ?_
    · rw [uk_ne (by omega)]
      exact hm
    · intro j
      rw [uk_ne (by omega)]
      exact hs j
    · simp (maxDischargeDepth := 9) [lget_lput, nl_I, nl_R, g]
    · simp (maxDischargeDepth := 9) [lget_lput, nl_I, nl_R, g, g0]
    · simp (maxDischargeDepth := 9) [lget_lput, nl_I, nl_R, g]
/-- the oldest row falls out -/
def gos (A : Nat → Nat → Int) (k : Nat) (od : Nat → Int) : Nat → Nat → Int := u2 (fillR A 211 k 702 (fun j => od (j + 18))) 199 16 39
set_option maxRecDepth 20000 in
theorem l_go1 (hL : Lay sh gr) {od st : Nat → Int} : ∀ (n k : Nat) (A : Nat → Nat → Int) (ls : Lc), k + n = 702 → (∀ k j, sb (A k j)) → RW A B → (∀ j, A 208 j = st j) → (∀ j, k ≤ j → A 211 j = od j) → nl ls = true → lget ls 0 = some (.ref 199) → lget ls 1 = some (.int (oi (k : Int))) →
    (Ev (137, 11, ls, [], (sh, oA A, gl, gr), sl) r ↔ r = (.inl none, (sh, oA (stR (gow (gos A k od) 39 0 st) B 0), gl, gr), sl)) := by
  intro n
  induction n with
  | zero =>
    intro k A ls hn hA h hs ho g g0 g1
    obtain rfl : k = 702 := by omega
    unfold gos
    rw [fillR_0]
    have e0 : sb ((702 : Nat) : Int) := ⟨by omega, by omega⟩
    have e1 : (702 : Int) ≤ ((702 : Nat) : Int) := by omega
    rw [EvU_iff (fun p => p == 47) 40]
    simp (maxDischargeDepth := 9) [EvS, stI, enI, caI, s_push, s_iload, s_aload, s_istore, s_astore, s_iinc, s_bin, s_div, s_i2l, s_lcmp, s_dup, s_dup2, s_pop, s_tab, s_look, s_get, s_put, s_iald, s_lald, s_aald, s_iast, s_last, s_aast, s_len, s_newa, s_new, s_thr, s_min, s_copy, s_obj, s_call, s_iret, s_aret, s_vret, go, ldI, lget_lput, nl_I, nl_R, lv_args, wsum, va_rf, hnd, cvr, cat_i, cat_r, cat_l, oi_of, oi_add, oi_sub, oA_ap, oA_u2, pi_lt, pi_le, pi_eq, pi_eq0, pi_lt0, pi_le0, pi_gt0, pi_ge0, pi_cl, sb_lit, fv4, isB01, nlt0, EvU_0, wO_ne, wL_ne, wC_ne, wN_ne, pO_ne, pU_ne, CN, LN, -Prod.exists, pi_ti, Op.lookupswitch.offset, EvU_at d137_0, EvU_at d137_1, EvU_at d137_4, EvU_at d137_6, EvU_at d137_9, EvU_at d137_10, EvU_at d137_11, EvU_at d137_12, EvU_at d137_15, EvU_at d137_18, EvU_at d137_19, EvU_at d137_22, EvU_at d137_23, EvU_at d137_24, EvU_at d137_27, EvU_at d137_28, EvU_at d137_30, EvU_at d137_31, EvU_at d137_32, EvU_at d137_33, EvU_at d137_36, EvU_at d137_39, EvU_at d137_40, EvU_at d137_42, EvU_at d137_45, EvU_at d137_46, EvU_at d137_47, EvU_at d137_48, EvU_at d137_50, EvU_at d137_53, EvU_at d137_54, EvU_at d137_57, EvU_at d137_59, EvU_at d137_60, EvU_at d137_63, EvU_at d137_64, EvU_at d137_65, EvU_at d137_66, EvU_at d137_67, EvU_at d137_70, EvU_at d137_71, EvU_at d137_72, EvU_at d137_73, EvU_at d137_76, EvU_at d137_79, EvU_at d137_80, EvU_at d137_81, EvU_at d137_84, EvU_at d137_85, EvU_at d137_86, EvU_at d137_89, EvU_at d137_90, EvU_at d137_93, Z137, LyS hL, LyG hL, g, g0, g1, e0, e1]
    refine l_go2 hL (u := 39) (by omega) 18 0 _ _ rfl (sb_u2 hA ⟨by omega, by omega⟩ _ _) (h.cg (fun b hb => uj_ne (by omega) _ _ _) (fun a b _ _ => uk_ne (by omega) _ _ _)) ?_ ?_ ?_ ?_ ?_
    · rw [ue_eq]
      rfl
    · intro j
      rw [uk_ne (by omega)]
      exact hs j
    · simp (maxDischargeDepth := 9) [lget_lput, nl_I, nl_R, g]
    · simp (maxDischargeDepth := 9) [lget_lput, nl_I, nl_R, g, g0]
    · simp (maxDischargeDepth := 9) [lget_lput, nl_I, nl_R, g]
  | succ n ih =>
    intro k A ls hn hA h hs ho g g0 g1
    have e0 : sb (k : Int) := ⟨by omega, by omega⟩
    have e1 : ¬ (702 : Int) ≤ (k : Int) := by omega
    have e2 : ¬ 702 ≤ k := by omega
    have e2b : ¬ 720 ≤ k := by omega
    have e7 : sb 702 := ⟨by omega, by omega⟩
    have i0 : sb ((k : Int) + 18) := ⟨by omega, by omega⟩
    have i1 : ¬ (k : Int) + 18 < 0 := by omega
    have i2 : ((k : Int) + 18).toNat = k + 18 := by omega
    have i3 : ¬ 720 ≤ k + 18 := by omega
    have e3 := ho (k + 18) (by omega)
    have e4 : sb (od (k + 18)) := e3 ▸ hA _ _
    rw [EvU_iff (fun _ => false) 1]
    simp (maxDischargeDepth := 9) [EvS, stI, enI, caI, s_push, s_iload, s_aload, s_istore, s_astore, s_iinc, s_bin, s_div, s_i2l, s_lcmp, s_dup, s_dup2, s_pop, s_tab, s_look, s_get, s_put, s_iald, s_lald, s_aald, s_iast, s_last, s_aast, s_len, s_newa, s_new, s_thr, s_min, s_copy, s_obj, s_call, s_iret, s_aret, s_vret, go, ldI, lget_lput, nl_I, nl_R, lv_args, wsum, va_rf, hnd, cvr, cat_i, cat_r, cat_l, oi_of, oi_add, oi_sub, oA_ap, oA_u2, pi_lt, pi_le, pi_eq, pi_eq0, pi_lt0, pi_le0, pi_gt0, pi_ge0, pi_cl, sb_lit, fv4, isB01, nlt0, EvU_0, wO_ne, wL_ne, wC_ne, wN_ne, pO_ne, pU_ne, CN, LN, -Prod.exists, pi_ti, Op.lookupswitch.offset, EvU_at d137_0, EvU_at d137_1, EvU_at d137_4, EvU_at d137_6, EvU_at d137_9, EvU_at d137_10, EvU_at d137_11, EvU_at d137_12, EvU_at d137_15, EvU_at d137_18, EvU_at d137_19, EvU_at d137_22, EvU_at d137_23, EvU_at d137_24, EvU_at d137_27, EvU_at d137_28, EvU_at d137_30, EvU_at d137_31, EvU_at d137_32, EvU_at d137_33, EvU_at d137_36, EvU_at d137_39, EvU_at d137_40, EvU_at d137_42, EvU_at d137_45, EvU_at d137_46, EvU_at d137_47, EvU_at d137_48, EvU_at d137_50, EvU_at d137_53, EvU_at d137_54, EvU_at d137_57, EvU_at d137_59, EvU_at d137_60, EvU_at d137_63, EvU_at d137_64, EvU_at d137_65, EvU_at d137_66, EvU_at d137_67, EvU_at d137_70, EvU_at d137_71, EvU_at d137_72, EvU_at d137_73, EvU_at d137_76, EvU_at d137_79, EvU_at d137_80, EvU_at d137_81, EvU_at d137_84, EvU_at d137_85, EvU_at d137_86, EvU_at d137_89, EvU_at d137_90, EvU_at d137_93, Z137, LyS hL, LyG hL, g, g0, g1]
    have es : gos A k od = gos (u2 A 211 k (od (k + 18))) (k + 1) od := by
      unfold gos
      rw [← fillR_s A (fun j => od (j + 18)) (show k < 702 by omega)]
    rw [EvU_iff (fun p => p == 11) 60, es]
    simp (maxDischargeDepth := 9) [EvS, stI, enI, caI, s_push, s_iload, s_aload, s_istore, s_astore, s_iinc, s_bin, s_div, s_i2l, s_lcmp, s_dup, s_dup2, s_pop, s_tab, s_look, s_get, s_put, s_iald, s_lald, s_aald, s_iast, s_last, s_aast, s_len, s_newa, s_new, s_thr, s_min, s_copy, s_obj, s_call, s_iret, s_aret, s_vret, go, ldI, lget_lput, nl_I, nl_R, lv_args, wsum, va_rf, hnd, cvr, cat_i, cat_r, cat_l, oi_of, oi_add, oi_sub, oA_ap, oA_u2, pi_lt, pi_le, pi_eq, pi_eq0, pi_lt0, pi_le0, pi_gt0, pi_ge0, pi_cl, sb_lit, fv4, isB01, nlt0, EvU_0, wO_ne, wL_ne, wC_ne, wN_ne, pO_ne, pU_ne, CN, LN, -Prod.exists, pi_ti, Op.lookupswitch.offset, EvU_at d137_0, EvU_at d137_1, EvU_at d137_4, EvU_at d137_6, EvU_at d137_9, EvU_at d137_10, EvU_at d137_11, EvU_at d137_12, EvU_at d137_15, EvU_at d137_18, EvU_at d137_19, EvU_at d137_22, EvU_at d137_23, EvU_at d137_24, EvU_at d137_27, EvU_at d137_28, EvU_at d137_30, EvU_at d137_31, EvU_at d137_32, EvU_at d137_33, EvU_at d137_36, EvU_at d137_39, EvU_at d137_40, EvU_at d137_42, EvU_at d137_45, EvU_at d137_46, EvU_at d137_47, EvU_at d137_48, EvU_at d137_50, EvU_at d137_53, EvU_at d137_54, EvU_at d137_57, EvU_at d137_59, EvU_at d137_60, EvU_at d137_63, EvU_at d137_64, EvU_at d137_65, EvU_at d137_66, EvU_at d137_67, EvU_at d137_70, EvU_at d137_71, EvU_at d137_72, EvU_at d137_73, EvU_at d137_76, EvU_at d137_79, EvU_at d137_80, EvU_at d137_81, EvU_at d137_84, EvU_at d137_85, EvU_at d137_86, EvU_at d137_89, EvU_at d137_90, EvU_at d137_93, Z137, LyS hL, LyG hL, g, g0, g1, e0, e1, e2, e2b, e3, e7, i0, i1, i2, i3]
    refine ih (k + 1) (u2 A 211 k (od (k + 18))) _ (by omega) (sb_u2 hA e4 _ _) (h.cg (fun b hb => uk_ne (by omega) _ _ _) (fun a b _ _ => uk_ne (by omega) _ _ _)) ?_ ?_ ?_ ?_ ?_
    · intro j
      rw [uk_ne (by omega)]
      exact hs j
    · intro j hj
      rw [uj_ne (by omega)]
      exact ho j (by omega)
    · simp (maxDischargeDepth := 9) [lget_lput, nl_I, nl_R, g]
    · simp (maxDischargeDepth := 9) [lget_lput, nl_I, nl_R, g, g0]
    · simp (maxDischargeDepth := 9) [lget_lput, nl_I, nl_R, g]
/-- the old rows after a step -/
def goA (A B : Nat → Nat → Int) : Nat → Nat → Int := if B 72 2 = 40 then gow (gos A 0 (fun j => A 211 j)) 39 0 (fun j => A 208 j) else gow A (B 72 2).toNat 0 (fun j => A 208 j)
set_option maxRecDepth 20000 in
theorem r_goOn (hA : ∀ k j, sb (A k j)) (hL : Lay sh gr) (h : RL A B) : Ev (137, 0, [(0, .ref 199)], [], (sh, oA A, gl, gr), sl) r ↔ r = (.inl none, (sh, oA (stR (goA A B) B 0), gl, gr), sl) := by
  have xu := h.U.un
  have o1 := h.O.U.un
  have o2 : sb (B 72 2) := ⟨by omega, by omega⟩
  unfold goA
  by_cases c : B 72 2 = 40
  · rw [if_pos c, EvU_iff (fun p => p == 11) 20]
    simp [EvS, stI, enI, caI, s_push, s_iload, s_aload, s_istore, s_astore, s_iinc, s_bin, s_div, s_i2l, s_lcmp, s_dup, s_dup2, s_pop, s_tab, s_look, s_get, s_put, s_iald, s_lald, s_aald, s_iast, s_last, s_aast, s_len, s_newa, s_new, s_thr, s_min, s_copy, s_obj, s_call, s_iret, s_aret, s_vret, go, ldI, lget, lput, lv_args, wsum, va_rf, hnd, cvr, cat_i, cat_r, cat_l, oi_of, oi_add, oi_sub, oA_ap, oA_u2, pi_lt, pi_le, pi_eq, pi_eq0, pi_lt0, pi_le0, pi_gt0, pi_ge0, pi_cl, sb_lit, fv4, isB01, nlt0, EvU_0, wO_ne, wL_ne, wC_ne, wN_ne, pO_ne, pU_ne, CN, LN, -Prod.exists, pi_ti, Op.lookupswitch.offset, EvU_at d137_0, EvU_at d137_1, EvU_at d137_4, EvU_at d137_6, EvU_at d137_9, EvU_at d137_10, EvU_at d137_11, EvU_at d137_12, EvU_at d137_15, EvU_at d137_18, EvU_at d137_19, EvU_at d137_22, EvU_at d137_23, EvU_at d137_24, EvU_at d137_27, EvU_at d137_28, EvU_at d137_30, EvU_at d137_31, EvU_at d137_32, EvU_at d137_33, EvU_at d137_36, EvU_at d137_39, EvU_at d137_40, EvU_at d137_42, EvU_at d137_45, EvU_at d137_46, EvU_at d137_47, EvU_at d137_48, EvU_at d137_50, EvU_at d137_53, EvU_at d137_54, EvU_at d137_57, EvU_at d137_59, EvU_at d137_60, EvU_at d137_63, EvU_at d137_64, EvU_at d137_65, EvU_at d137_66, EvU_at d137_67, EvU_at d137_70, EvU_at d137_71, EvU_at d137_72, EvU_at d137_73, EvU_at d137_76, EvU_at d137_79, EvU_at d137_80, EvU_at d137_81, EvU_at d137_84, EvU_at d137_85, EvU_at d137_86, EvU_at d137_89, EvU_at d137_90, EvU_at d137_93, Z137, LyS hL, LyG hL, hA, xu, c]
    refine l_go1 hL 702 0 A _ rfl hA h.w (fun _ => rfl) (fun _ _ => rfl) ?_ ?_ ?_
    · simp [nl, cat_i, cat_r]
    · simp [lget, cat_i, cat_r]
    · simp [lget, cat_i, cat_r]
  · rw [if_neg c, EvU_iff (fun p => p == 47) 20]
    simp [EvS, stI, enI, caI, s_push, s_iload, s_aload, s_istore, s_astore, s_iinc, s_bin, s_div, s_i2l, s_lcmp, s_dup, s_dup2, s_pop, s_tab, s_look, s_get, s_put, s_iald, s_lald, s_aald, s_iast, s_last, s_aast, s_len, s_newa, s_new, s_thr, s_min, s_copy, s_obj, s_call, s_iret, s_aret, s_vret, go, ldI, lget, lput, lv_args, wsum, va_rf, hnd, cvr, cat_i, cat_r, cat_l, oi_of, oi_add, oi_sub, oA_ap, oA_u2, pi_lt, pi_le, pi_eq, pi_eq0, pi_lt0, pi_le0, pi_gt0, pi_ge0, pi_cl, sb_lit, fv4, isB01, nlt0, EvU_0, wO_ne, wL_ne, wC_ne, wN_ne, pO_ne, pU_ne, CN, LN, -Prod.exists, pi_ti, Op.lookupswitch.offset, EvU_at d137_0, EvU_at d137_1, EvU_at d137_4, EvU_at d137_6, EvU_at d137_9, EvU_at d137_10, EvU_at d137_11, EvU_at d137_12, EvU_at d137_15, EvU_at d137_18, EvU_at d137_19, EvU_at d137_22, EvU_at d137_23, EvU_at d137_24, EvU_at d137_27, EvU_at d137_28, EvU_at d137_30, EvU_at d137_31, EvU_at d137_32, EvU_at d137_33, EvU_at d137_36, EvU_at d137_39, EvU_at d137_40, EvU_at d137_42, EvU_at d137_45, EvU_at d137_46, EvU_at d137_47, EvU_at d137_48, EvU_at d137_50, EvU_at d137_53, EvU_at d137_54, EvU_at d137_57, EvU_at d137_59, EvU_at d137_60, EvU_at d137_63, EvU_at d137_64, EvU_at d137_65, EvU_at d137_66, EvU_at d137_67, EvU_at d137_70, EvU_at d137_71, EvU_at d137_72, EvU_at d137_73, EvU_at d137_76, EvU_at d137_79, EvU_at d137_80, EvU_at d137_81, EvU_at d137_84, EvU_at d137_85, EvU_at d137_86, EvU_at d137_89, EvU_at d137_90, EvU_at d137_93, Z137, LyS hL, LyG hL, hA, xu, o2, c]
    refine l_go2 hL (u := (B 72 2).toNat) (by omega) 18 0 A _ rfl hA h.w (by omega) (fun _ => rfl) ?_ ?_ ?_
    · simp [nl, cat_i, cat_r]
    · simp [lget, cat_i, cat_r]
    · simp [lget, cat_i, cat_r]
theorem goA_ne (A B : Nat → Nat → Int) {a : Nat} (h1 : a ≠ 199) (h2 : a ≠ 211) (b : Nat) : goA A B a b = A a b := by
  unfold goA gow gos fillR
  split
  · rw [uk_ne h1, if_neg h2, uk_ne h1, if_neg h2]
  · rw [uk_ne h1, if_neg h2]
theorem goA_9 (A B : Nat → Nat → Int) {b : Nat} (h1 : b ≠ 16) : goA A B 199 b = A 199 b := by
  unfold goA gow gos fillR
  split
  · rw [uj_ne h1, if_neg (by omega), uj_ne h1, if_neg (by omega)]
  · rw [uj_ne h1, if_neg (by omega)]
theorem sb_goA (h : RL A B) (hA : ∀ k j, sb (A k j)) : ∀ k j, sb (goA A B k j) := by
  have o1 := h.O.U.un
  unfold goA gow gos
  split
  · exact sb_u2 (sb_fillR (sb_u2 (sb_fillR hA _ _ _ (fun j _ => hA _ _)) ⟨by omega, by omega⟩ _ _) _ _ _ (fun j _ => hA _ _)) ⟨by omega, by omega⟩ _ _
  · exact sb_u2 (sb_fillR hA _ _ _ (fun j _ => hA _ _)) ⟨by omega, by omega⟩ _ _
theorem RW.go (h : RL A B) : RW (goA A B) B := h.w.cg (fun b hb => goA_9 A B (by omega)) (fun a b _ _ => goA_ne A B (by omega) (by omega) b)
/-- after a step the reference stands as the other does with its step written down -/
theorem RW.ks (h : RL A B) : RW (stR (goA A B) B 0) (keyS B) := by
  have h1 := (RW.go h).st
  have e : ∀ a b, a ≠ 72 → a ≠ 73 → keyS B a b = stF B a b := fun a b ha hb => addF_ne _ _ ha hb b
  refine ⟨h1.R.cgB (fun a b h0 _ _ => e a b (by omega) (by omega)), ⟨fun s hs => by rw [e _ _ (by omega) (by omega)]; exact h1.P.pos s hs, fun k hk => by rw [e _ _ (by omega) (by omega)]; exact h1.P.pl k hk⟩, h.O.ks.M, h.O.ks.P⟩
theorem intoF_b (hM : CM B) (hP : CP B) {k : Nat} (hk : OrdAt B k) : ∀ (l : List Nat) (c : Int), (∀ s ∈ l, s < 6 ∧ B 4 s ≠ -1) → 0 ≤ c → c < B 2 9 →
    l.foldr (fun s c => passA B (B 4 s).toNat (wC (B 4 s).toNat) c (B 14 s) (B 2 9)) (l.foldl (fun c s => passA B (B 4 s).toNat (wL (B 4 s).toNat) c (B 14 s) (B 2 9)) c) = c := by
  intro l
  induction l with
  | nil => exact fun c _ _ _ => rfl
  | cons s l ih =>
    intro c hl c0 c1
    have h1 := hl s List.mem_cons_self
    have s1 := hM.slot s h1.1
    have s2 := hP.pos s h1.1
    have e := passL_in hM (w := (B 4 s).toNat) (by omega) c0 c1 s2.1 s2.2
    rw [List.foldl_cons, List.foldr_cons, ih _ (fun x hx => hl x (List.mem_cons_of_mem _ hx)) e.1 e.2]
    exact pass_inv hM (by omega) c0 c1 s2.1 s2.2
theorem intoF_f (hM : CM B) (hP : CP B) : ∀ (l : List Nat) (c : Int), (∀ s ∈ l, s < 6 ∧ B 4 s ≠ -1) → 0 ≤ c → c < B 2 9 →
    (0 ≤ l.foldr (fun s c => passA B (B 4 s).toNat (wC (B 4 s).toNat) c (B 14 s) (B 2 9)) c ∧ l.foldr (fun s c => passA B (B 4 s).toNat (wC (B 4 s).toNat) c (B 14 s) (B 2 9)) c < B 2 9) ∧ l.foldl (fun c s => passA B (B 4 s).toNat (wL (B 4 s).toNat) c (B 14 s) (B 2 9)) (l.foldr (fun s c => passA B (B 4 s).toNat (wC (B 4 s).toNat) c (B 14 s) (B 2 9)) c) = c := by
  intro l
  induction l with
  | nil => exact fun c _ c0 c1 => ⟨⟨c0, c1⟩, rfl⟩
  | cons s l ih =>
    intro c hl c0 c1
    have h1 := hl s List.mem_cons_self
    have s1 := hM.slot s h1.1
    have s2 := hP.pos s h1.1
    obtain ⟨⟨i0, i1⟩, i2⟩ := ih c (fun x hx => hl x (List.mem_cons_of_mem _ hx)) c0 c1
    rw [List.foldr_cons, List.foldl_cons]
    refine ⟨passC_in hM (w := (B 4 s).toNat) (by omega) i0 i1 s2.1 s2.2, ?_⟩
    rw [pass_inv' hM (by omega) i0 i1 s2.1 s2.2]
    exact i2
theorem ord_mem {k : Nat} (hk : OrdAt B k) : ∀ s ∈ ordM k, s < 6 ∧ B 4 s ≠ -1 := by
  intro s hs
  have := List.mem_filter.mp hs
  have h1 := List.mem_range.mp this.1
  exact ⟨h1, (hk.2.1 s h1).mpr this.2⟩
theorem into_from (hM : CM B) (hP : CP B) {c : Int} (c0 : 0 ≤ c) (c1 : c < B 2 9) : fromF B (B 2 10).toNat (intoF B (B 2 10).toNat 0 c) = c ∧ intoF B (B 2 10).toNat 0 (fromF B (B 2 10).toNat c) = c := by
  obtain ⟨k, hk⟩ := hM.ord
  have e : (B 2 10).toNat = (ordM k).length := by have := hk.2.2.1; omega
  rw [e, intoF_l hk _ 0 _ (by omega), List.drop_zero, fromF_l hk _ _ (by omega), List.take_length, intoF_l hk _ 0 _ (by omega), List.drop_zero, fromF_l hk _ _ (by omega), List.take_length]
  exact ⟨intoF_b hM hP hk _ c (ord_mem hk) c0 c1, (intoF_f hM hP _ c (ord_mem hk) c0 c1).2⟩
def tmask (B : Nat → Nat → Int) : Nat → Nat → Nat
  | 0, _ => 0
  | n + 1, k => (if upB B k = upB B (k + 5) then 0 else 2 ^ k) ^^^ tmask B n (k + 1)
theorem turnF_x : ∀ n k c : Nat, turnF B n k c = c ^^^ tmask B n k := by
  intro n
  induction n with
  | zero => exact fun k c => (Nat.xor_zero c).symm
  | succ n ih =>
    intro k c
    rw [turnF, tmask, ih]
    split
    · rw [Nat.zero_xor]
    · rw [Nat.xor_assoc]
theorem turnF_2 (c : Nat) : turnF B 5 0 (turnF B 5 0 c) = c := by
  rw [turnF_x, turnF_x, Nat.xor_assoc, Nat.xor_self, Nat.xor_zero]
theorem rd_2 {t c m : Int} (t0 : 0 ≤ t) (t1 : t < m) (c0 : 0 ≤ c) (c1 : c < m) : rd (t - rd (t - c) m) m = c := by
  unfold rd
  repeat' split
  all_goals omega
/-- the way back of a sign -/
def bpF (B : Nat → Nat → Int) (c : Int) : Int := if B 2 12 = 0 ∧ B 2 13 = 0 then fromF B (B 2 10).toNat c else pathF B c
theorem path_2 (h : RW A B) {c : Int} (c0 : 0 ≤ c) (c1 : c < B 2 9) (hn : ¬ (B 2 12 = 0 ∧ B 2 13 = 0)) : pathF B (pathF B c) = c := by
  have hm := h.M.m
  have hi := into_from h.M h.C c0 c1
  have ii := intoF_in h.wy (B 2 10).toNat 0 c (by have := h.wy.2.2.1; omega) c0 c1
  unfold pathF
  by_cases d0 : B 2 12 = 0
  · have d1 : ¬ B 2 13 = 0 := fun e => hn ⟨d0, e⟩
    rw [if_pos d0, if_neg d1]
    generalize intoF B (B 2 10).toNat 0 c = z at *
    have r1 := h.M.pr z.toNat (by omega)
    have hj := into_from h.M h.C r1.1 r1.2.1
    rw [if_pos d0, if_neg d1, hj.2, r1.2.2, show ((z.toNat : Nat) : Int) = z by omega]
    exact hi.1
  · rw [if_neg d0, if_neg d0]
    by_cases d1 : B 2 12 = 1
    · rw [if_pos d1, if_pos d1]
      by_cases d2 : B 2 9 = 32
      · rw [if_pos d2, if_pos d2, Int.toNat_natCast, turnF_2]
        omega
      · rw [if_neg d2, if_neg d2]
    · rw [if_neg d1, if_neg d1]
      have t := barsF_in (A := B) hm.1 27 0 0 (by omega) (by omega)
      exact rd_2 t.1 t.2 c0 c1
theorem bp_in (h : RW A B) {c : Int} (c0 : 0 ≤ c) (c1 : c < B 2 9) : 0 ≤ bpF B c ∧ bpF B c < B 2 9 := by
  unfold bpF
  split
  · exact fromF_in h.wy _ c (by have := h.wy.2.2.1; omega) c0 c1
  · exact pathF_in h.wy h.ro c0 c1
theorem bp_path (h : RW A B) {c : Int} (c0 : 0 ≤ c) (c1 : c < B 2 9) : bpF B (pathF B c) = c ∧ pathF B (bpF B c) = c := by
  unfold bpF
  by_cases d : B 2 12 = 0 ∧ B 2 13 = 0
  · have e : ∀ x, pathF B x = intoF B (B 2 10).toNat 0 x := by
      intro x
      unfold pathF
      rw [if_pos d.1, if_pos d.2]
    rw [if_pos d, if_pos d, e, e]
    exact into_from h.M h.C c0 c1
  · rw [if_neg d, if_neg d]
    exact ⟨path_2 h c0 c1 d, path_2 h c0 c1 d⟩
theorem back_in (h : RW A B) {c : Int} (c0 : 0 ≤ c) (c1 : c < B 2 9) : 0 ≤ backF B c ∧ backF B c < B 2 9 := by
  have p1 := h.M.pp c.toNat (by omega)
  have p2 := bp_in h p1.1 p1.2.1
  have p3 := h.M.pp (bpF B (B 10 c.toNat)).toNat (by omega)
  exact ⟨p3.1, p3.2.1⟩
theorem send_in (h : RW A B) {c : Int} (c0 : 0 ≤ c) (c1 : c < B 2 9) : 0 ≤ sendF B c ∧ sendF B c < B 2 9 := by
  have p1 := h.M.pp c.toNat (by omega)
  have p2 := pathF_in h.wy h.ro p1.1 p1.2.1
  have p3 := h.M.pp (pathF B (B 10 c.toNat)).toNat (by omega)
  exact ⟨p3.1, p3.2.1⟩
theorem back_send (h : RW A B) {c : Int} (c0 : 0 ≤ c) (c1 : c < B 2 9) : backF B (sendF B c) = c := by
  have p1 := h.M.pp c.toNat (by omega)
  have p2 := pathF_in h.wy h.ro p1.1 p1.2.1
  have p3 := h.M.pp (pathF B (B 10 c.toNat)).toNat (by omega)
  show B 10 (bpF B (B 10 (B 10 (pathF B (B 10 c.toNat)).toNat).toNat)).toNat = c
  rw [p3.2.2, show (((pathF B (B 10 c.toNat)).toNat : Nat) : Int) = pathF B (B 10 c.toNat) by omega, (bp_path h p1.1 p1.2.1).1, p1.2.2]
  omega
theorem send_back (h : RW A B) {c : Int} (c0 : 0 ≤ c) (c1 : c < B 2 9) : sendF B (backF B c) = c := by
  have p1 := h.M.pp c.toNat (by omega)
  have p2 := bp_in h p1.1 p1.2.1
  have p3 := h.M.pp (bpF B (B 10 c.toNat)).toNat (by omega)
  show B 10 (pathF B (B 10 (B 10 (bpF B (B 10 c.toNat)).toNat).toNat)).toNat = c
  rw [p3.2.2, show (((bpF B (B 10 c.toNat)).toNat : Nat) : Int) = bpF B (B 10 c.toNat) by omega, (bp_path h p1.1 p1.2.1).2, p1.2.2]
  omega
set_option maxRecDepth 20000 in
theorem l_rback (hA : ∀ k j, sb (A k j)) (hL : Lay sh gr) (h : RW A B) {x : Int} (x0 : 0 ≤ x) (x1 : x < B 2 9) : ∀ (n f : Nat) (ls : Lc), (f : Int) + n = backF B x → nl ls = true → lget ls 0 = some (.ref 199) → lget ls 1 = some (.int (oi x)) → lget ls 2 = some (.int (oi (f : Int))) →
    (Ev (150, 33, ls, [], (sh, oA A, gl, gr), sl) r ↔ r = (.inl (some (.int (oi (backF B x)))), (sh, oA A, gl, gr), sl)) := by
  have hm := h.M.m
  have hb := back_in h x0 x1
  have q0 : sb x := ⟨by omega, by omega⟩
  intro n
  induction n with
  | zero =>
    intro f ls hn g g0 g1 g2
    have hf : backF B x = (f : Int) := by omega
    have im := fun (sl : Nat) (r : Out) => r_img (gl := gl) (sl := sl) (r := r) hA hL h (c := (f : Int)) (by omega) (by omega)
    have e1 : sendF B (f : Int) = x := by
      rw [← hf]
      exact send_back h x0 x1
    rw [e1] at im
    rw [hf, EvU_iff (fun _ => false) 20]
    simp (maxDischargeDepth := 9) [EvS, stI, enI, caI, s_push, s_iload, s_aload, s_istore, s_astore, s_iinc, s_bin, s_div, s_i2l, s_lcmp, s_dup, s_dup2, s_pop, s_tab, s_look, s_get, s_put, s_iald, s_lald, s_aald, s_iast, s_last, s_aast, s_len, s_newa, s_new, s_thr, s_min, s_copy, s_obj, s_call, s_iret, s_aret, s_vret, go, ldI, lget_lput, nl_I, nl_R, lv_args, wsum, va_rf, hnd, cvr, cat_i, cat_r, cat_l, oi_of, oi_add, oi_sub, oA_ap, oA_u2, pi_lt, pi_le, pi_eq, pi_eq0, pi_lt0, pi_le0, pi_gt0, pi_ge0, pi_cl, sb_lit, fv4, isB01, nlt0, EvU_0, wO_ne, wL_ne, wC_ne, wN_ne, pO_ne, pU_ne, CN, LN, -Prod.exists, pi_ti, Op.lookupswitch.offset, EvU_at d150_0, EvU_at d150_1, EvU_at d150_2, EvU_at d150_3, EvU_at d150_6, EvU_at d150_7, EvU_at d150_10, EvU_at d150_13, EvU_at d150_14, EvU_at d150_17, EvU_at d150_18, EvU_at d150_19, EvU_at d150_22, EvU_at d150_25, EvU_at d150_26, EvU_at d150_27, EvU_at d150_28, EvU_at d150_31, EvU_at d150_32, EvU_at d150_33, EvU_at d150_34, EvU_at d150_35, EvU_at d150_38, EvU_at d150_39, EvU_at d150_42, EvU_at d150_45, EvU_at d150_48, EvU_at d150_49, Z150, Z144, LyS hL, LyG hL, hA, g, g0, g1, g2, q0, im]
  | succ n ih =>
    intro f ls hn g g0 g1 g2
    have im := fun (sl : Nat) (r : Out) => r_img (gl := gl) (sl := sl) (r := r) hA hL h (c := (f : Int)) (by omega) (by omega)
    have e1 : ¬ sendF B (f : Int) = x := by
      intro e
      have := back_send h (c := (f : Int)) (by omega) (by omega)
      rw [e] at this
      omega
    have e2 := send_in h (c := (f : Int)) (by omega) (by omega)
    have e3 : sb (sendF B (f : Int)) := ⟨by omega, by omega⟩
    rw [EvU_iff (fun _ => false) 1]
    simp (maxDischargeDepth := 9) [EvS, stI, enI, caI, s_push, s_iload, s_aload, s_istore, s_astore, s_iinc, s_bin, s_div, s_i2l, s_lcmp, s_dup, s_dup2, s_pop, s_tab, s_look, s_get, s_put, s_iald, s_lald, s_aald, s_iast, s_last, s_aast, s_len, s_newa, s_new, s_thr, s_min, s_copy, s_obj, s_call, s_iret, s_aret, s_vret, go, ldI, lget_lput, nl_I, nl_R, lv_args, wsum, va_rf, hnd, cvr, cat_i, cat_r, cat_l, oi_of, oi_add, oi_sub, oA_ap, oA_u2, pi_lt, pi_le, pi_eq, pi_eq0, pi_lt0, pi_le0, pi_gt0, pi_ge0, pi_cl, sb_lit, fv4, isB01, nlt0, EvU_0, wO_ne, wL_ne, wC_ne, wN_ne, pO_ne, pU_ne, CN, LN, -Prod.exists, pi_ti, Op.lookupswitch.offset, EvU_at d150_0, EvU_at d150_1, EvU_at d150_2, EvU_at d150_3, EvU_at d150_6, EvU_at d150_7, EvU_at d150_10, EvU_at d150_13, EvU_at d150_14, EvU_at d150_17, EvU_at d150_18, EvU_at d150_19, EvU_at d150_22, EvU_at d150_25, EvU_at d150_26, EvU_at d150_27, EvU_at d150_28, EvU_at d150_31, EvU_at d150_32, EvU_at d150_33, EvU_at d150_34, EvU_at d150_35, EvU_at d150_38, EvU_at d150_39, EvU_at d150_42, EvU_at d150_45, EvU_at d150_48, EvU_at d150_49, Z150, LyS hL, LyG hL, hA, g, g0, g1, g2]
    rw [EvU_iff (fun p => p == 33) 60]
    simp (maxDischargeDepth := 9) [EvS, stI, enI, caI, s_push, s_iload, s_aload, s_istore, s_astore, s_iinc, s_bin, s_div, s_i2l, s_lcmp, s_dup, s_dup2, s_pop, s_tab, s_look, s_get, s_put, s_iald, s_lald, s_aald, s_iast, s_last, s_aast, s_len, s_newa, s_new, s_thr, s_min, s_copy, s_obj, s_call, s_iret, s_aret, s_vret, go, ldI, lget_lput, nl_I, nl_R, lv_args, wsum, va_rf, hnd, cvr, cat_i, cat_r, cat_l, oi_of, oi_add, oi_sub, oA_ap, oA_u2, pi_lt, pi_le, pi_eq, pi_eq0, pi_lt0, pi_le0, pi_gt0, pi_ge0, pi_cl, sb_lit, fv4, isB01, nlt0, EvU_0, wO_ne, wL_ne, wC_ne, wN_ne, pO_ne, pU_ne, CN, LN, -Prod.exists, pi_ti, Op.lookupswitch.offset, EvU_at d150_0, EvU_at d150_1, EvU_at d150_2, EvU_at d150_3, EvU_at d150_6, EvU_at d150_7, EvU_at d150_10, EvU_at d150_13, EvU_at d150_14, EvU_at d150_17, EvU_at d150_18, EvU_at d150_19, EvU_at d150_22, EvU_at d150_25, EvU_at d150_26, EvU_at d150_27, EvU_at d150_28, EvU_at d150_31, EvU_at d150_32, EvU_at d150_33, EvU_at d150_34, EvU_at d150_35, EvU_at d150_38, EvU_at d150_39, EvU_at d150_42, EvU_at d150_45, EvU_at d150_48, EvU_at d150_49, Z150, Z144, LyS hL, LyG hL, hA, g, g0, g1, g2, q0, im, e1, e3]
    refine ih (f + 1) _ (by omega) ?_ ?_ ?_ ?_
    · simp (maxDischargeDepth := 9) [lget_lput, nl_I, nl_R, g]
    · simp (maxDischargeDepth := 9) [lget_lput, nl_I, nl_R, g, g0]
    · simp (maxDischargeDepth := 9) [lget_lput, nl_I, nl_R, g, g1]
    · simp (maxDischargeDepth := 9) [lget_lput, nl_I, nl_R, g]
set_option maxRecDepth 20000 in
theorem q_back (hA : ∀ k j, sb (A k j)) (hL : Lay sh gr) (h : RL A B) {x : Int} (hx : sb x) : Ev (150, 0, [(0, .ref 199), (1, .int (oi x))], [], (sh, oA A, gl, gr), sl) r ↔
    r = if ¬ (0 ≤ x ∧ x < B 2 9) then (.inl (some (.int (oi 0))), (sh, oA (u2 A 199 0 1), gl, gr), sl) else if ¬ (B 74 2 = 0) then (.inl (some (.int (oi 0))), (sh, oA (u2 A 199 0 2), gl, gr), sl) else (.inl (some (.int (oi (backF (keyS B) x)))), (sh, oA (stR (goA (u2 A 199 0 0) B) B 0), gl, gr), sl) := by
  have xm := h.R.m
  have xo := h.G.op
  have xo2 : sb (B 74 2) := xo ▸ hA _ _
  have hm := h.O.m
  have n1 := fun (sl : Nat) (r : Out) => r_contact (gl := gl) (sl := sl) (r := r) hA hL hx
  rw [xm] at n1
  by_cases c1 : 0 ≤ x ∧ x < B 2 9
  · rw [show b1 (0 ≤ x ∧ x < B 2 9) = 1 from if_pos (by omega)] at n1
    rw [if_neg (fun e => e c1)]
    by_cases co : B 74 2 = 0
    · have hA1 := sb_u2 hA (show sb 0 from ⟨by decide, by decide⟩) 199 0
      have h1 := h.t 0
      have gon := fun (sl : Nat) (r : Out) => r_goOn (gl := gl) (sl := sl) (r := r) hA1 hL h1
      have e2 : keyS B 2 9 = B 2 9 := keyS_ne B (by omega) 9
      have w := RW.ks h1
      have hb := back_in w c1.1 (by rw [e2]; exact c1.2)
      have key := fun ls => l_rback (gl := gl) (sl := sl) (r := r) (sb_stR (RW.go h1) (sb_goA h1 hA1)) hL w c1.1 (by rw [e2]; exact c1.2) (backF (keyS B) x).toNat 0 ls (by omega)
      rw [if_neg (fun e => e co), EvU_iff (fun p => p == 33) 60]
      simp [EvS, stI, enI, caI, s_push, s_iload, s_aload, s_istore, s_astore, s_iinc, s_bin, s_div, s_i2l, s_lcmp, s_dup, s_dup2, s_pop, s_tab, s_look, s_get, s_put, s_iald, s_lald, s_aald, s_iast, s_last, s_aast, s_len, s_newa, s_new, s_thr, s_min, s_copy, s_obj, s_call, s_iret, s_aret, s_vret, go, ldI, lget, lput, lv_args, wsum, va_rf, hnd, cvr, cat_i, cat_r, cat_l, oi_of, oi_add, oi_sub, oA_ap, oA_u2, pi_lt, pi_le, pi_eq, pi_eq0, pi_lt0, pi_le0, pi_gt0, pi_ge0, pi_cl, sb_lit, fv4, isB01, nlt0, EvU_0, wO_ne, wL_ne, wC_ne, wN_ne, pO_ne, pU_ne, CN, LN, -Prod.exists, pi_ti, Op.lookupswitch.offset, EvU_at d150_0, EvU_at d150_1, EvU_at d150_2, EvU_at d150_3, EvU_at d150_6, EvU_at d150_7, EvU_at d150_10, EvU_at d150_13, EvU_at d150_14, EvU_at d150_17, EvU_at d150_18, EvU_at d150_19, EvU_at d150_22, EvU_at d150_25, EvU_at d150_26, EvU_at d150_27, EvU_at d150_28, EvU_at d150_31, EvU_at d150_32, EvU_at d150_33, EvU_at d150_34, EvU_at d150_35, EvU_at d150_38, EvU_at d150_39, EvU_at d150_42, EvU_at d150_45, EvU_at d150_48, EvU_at d150_49, Z150, Z117, LyS hL, LyG hL, hA, xm, xo, xo2, r_go hL, Z120, n1, Z137, co, hx, gon]
      refine key _ ?_ ?_ ?_ ?_
      · simp [nl, cat_i, cat_r]
      · simp [lget, cat_i, cat_r]
      · simp [lget, cat_i, cat_r]
      · simp [lget, cat_i, cat_r]
    · rw [EvU_iff (fun _ => false) 60]
      simp [EvS, stI, enI, caI, s_push, s_iload, s_aload, s_istore, s_astore, s_iinc, s_bin, s_div, s_i2l, s_lcmp, s_dup, s_dup2, s_pop, s_tab, s_look, s_get, s_put, s_iald, s_lald, s_aald, s_iast, s_last, s_aast, s_len, s_newa, s_new, s_thr, s_min, s_copy, s_obj, s_call, s_iret, s_aret, s_vret, go, ldI, lget, lput, lv_args, wsum, va_rf, hnd, cvr, cat_i, cat_r, cat_l, oi_of, oi_add, oi_sub, oA_ap, oA_u2, pi_lt, pi_le, pi_eq, pi_eq0, pi_lt0, pi_le0, pi_gt0, pi_ge0, pi_cl, sb_lit, fv4, isB01, nlt0, EvU_0, wO_ne, wL_ne, wC_ne, wN_ne, pO_ne, pU_ne, CN, LN, -Prod.exists, pi_ti, Op.lookupswitch.offset, EvU_at d150_0, EvU_at d150_1, EvU_at d150_2, EvU_at d150_3, EvU_at d150_6, EvU_at d150_7, EvU_at d150_10, EvU_at d150_13, EvU_at d150_14, EvU_at d150_17, EvU_at d150_18, EvU_at d150_19, EvU_at d150_22, EvU_at d150_25, EvU_at d150_26, EvU_at d150_27, EvU_at d150_28, EvU_at d150_31, EvU_at d150_32, EvU_at d150_33, EvU_at d150_34, EvU_at d150_35, EvU_at d150_38, EvU_at d150_39, EvU_at d150_42, EvU_at d150_45, EvU_at d150_48, EvU_at d150_49, Z150, Z117, LyS hL, LyG hL, hA, xm, xo, xo2, r_go hL, Z120, n1, co, hx]
  · rw [show b1 (0 ≤ x ∧ x < B 2 9) = 0 from if_neg (by omega)] at n1
    rw [if_pos c1, EvU_iff (fun _ => false) 60]
    by_cases co : B 74 2 = 0
    · simp [EvS, stI, enI, caI, s_push, s_iload, s_aload, s_istore, s_astore, s_iinc, s_bin, s_div, s_i2l, s_lcmp, s_dup, s_dup2, s_pop, s_tab, s_look, s_get, s_put, s_iald, s_lald, s_aald, s_iast, s_last, s_aast, s_len, s_newa, s_new, s_thr, s_min, s_copy, s_obj, s_call, s_iret, s_aret, s_vret, go, ldI, lget, lput, lv_args, wsum, va_rf, hnd, cvr, cat_i, cat_r, cat_l, oi_of, oi_add, oi_sub, oA_ap, oA_u2, pi_lt, pi_le, pi_eq, pi_eq0, pi_lt0, pi_le0, pi_gt0, pi_ge0, pi_cl, sb_lit, fv4, isB01, nlt0, EvU_0, wO_ne, wL_ne, wC_ne, wN_ne, pO_ne, pU_ne, CN, LN, -Prod.exists, pi_ti, Op.lookupswitch.offset, EvU_at d150_0, EvU_at d150_1, EvU_at d150_2, EvU_at d150_3, EvU_at d150_6, EvU_at d150_7, EvU_at d150_10, EvU_at d150_13, EvU_at d150_14, EvU_at d150_17, EvU_at d150_18, EvU_at d150_19, EvU_at d150_22, EvU_at d150_25, EvU_at d150_26, EvU_at d150_27, EvU_at d150_28, EvU_at d150_31, EvU_at d150_32, EvU_at d150_33, EvU_at d150_34, EvU_at d150_35, EvU_at d150_38, EvU_at d150_39, EvU_at d150_42, EvU_at d150_45, EvU_at d150_48, EvU_at d150_49, Z150, Z117, LyS hL, LyG hL, hA, xm, xo, xo2, r_go hL, Z120, n1, co, hx]
    · simp [EvS, stI, enI, caI, s_push, s_iload, s_aload, s_istore, s_astore, s_iinc, s_bin, s_div, s_i2l, s_lcmp, s_dup, s_dup2, s_pop, s_tab, s_look, s_get, s_put, s_iald, s_lald, s_aald, s_iast, s_last, s_aast, s_len, s_newa, s_new, s_thr, s_min, s_copy, s_obj, s_call, s_iret, s_aret, s_vret, go, ldI, lget, lput, lv_args, wsum, va_rf, hnd, cvr, cat_i, cat_r, cat_l, oi_of, oi_add, oi_sub, oA_ap, oA_u2, pi_lt, pi_le, pi_eq, pi_eq0, pi_lt0, pi_le0, pi_gt0, pi_ge0, pi_cl, sb_lit, fv4, isB01, nlt0, EvU_0, wO_ne, wL_ne, wC_ne, wN_ne, pO_ne, pU_ne, CN, LN, -Prod.exists, pi_ti, Op.lookupswitch.offset, EvU_at d150_0, EvU_at d150_1, EvU_at d150_2, EvU_at d150_3, EvU_at d150_6, EvU_at d150_7, EvU_at d150_10, EvU_at d150_13, EvU_at d150_14, EvU_at d150_17, EvU_at d150_18, EvU_at d150_19, EvU_at d150_22, EvU_at d150_25, EvU_at d150_26, EvU_at d150_27, EvU_at d150_28, EvU_at d150_31, EvU_at d150_32, EvU_at d150_33, EvU_at d150_34, EvU_at d150_35, EvU_at d150_38, EvU_at d150_39, EvU_at d150_42, EvU_at d150_45, EvU_at d150_48, EvU_at d150_49, Z150, Z117, LyS hL, LyG hL, hA, xm, xo, xo2, r_go hL, Z120, n1, co, hx]
set_option maxRecDepth 20000 in
theorem q_key (hA : ∀ k j, sb (A k j)) (hL : Lay sh gr) (h : RL A B) {x : Int} (hx : sb x) : Ev (136, 0, [(0, .ref 199), (1, .int (oi x))], [], (sh, oA A, gl, gr), sl) r ↔
    r = if ¬ (0 ≤ x ∧ x < B 2 9) then (.inl (some (.int (oi 0))), (sh, oA (u2 A 199 0 1), gl, gr), sl) else if ¬ (¬ (B 74 2 ≠ 0 ∧ B (gO (B 74 1 - 1).toNat) 3 = 60)) then (.inl (some (.int (oi 0))), (sh, oA (u2 A 199 0 2), gl, gr), sl) else (.inl (some (.int (oi (sendF (keyS B) x)))), (sh, oA (if B 74 2 = 0 then (stR (goA (u2 A 199 0 0) B) B 0) else u2 (u2 (u2 (stR (goA (u2 A 199 0 0) B) B 0) 214 (60 * (B 74 1 - 1).toNat + (B (gO (B 74 1 - 1).toNat) 3).toNat) x) 215 (60 * (B 74 1 - 1).toNat + (B (gO (B 74 1 - 1).toNat) 3).toNat) (sendF (keyS B) x)) 212 (B 74 1 - 1).toNat (B (gO (B 74 1 - 1).toNat) 3 + 1)), gl, gr), sl) := by
  have xm := h.R.m
  have xo := h.G.op
  have xo2 : sb (B 74 2) := xo ▸ hA _ _
  have hm := h.O.m
  have n1 := fun (sl : Nat) (r : Out) => r_contact (gl := gl) (sl := sl) (r := r) hA hL hx
  rw [xm] at n1
  have xs := h.G.ms
  have o1 := h.O.G.ms
  have o2 := h.O.G.opn
  have hA1 := sb_u2 hA (show sb 0 from ⟨by decide, by decide⟩) 199 0
  have h1 := h.t 0
  have gon := fun (sl : Nat) (r : Out) => r_goOn (gl := gl) (sl := sl) (r := r) hA1 hL h1
  have e2 : keyS B 2 9 = B 2 9 := keyS_ne B (by omega) 9
  have w := RW.ks h1
  have hA2 := sb_stR (RW.go h1) (sb_goA h1 hA1)
  have y1 : (stR (goA (u2 A 199 0 0) B) B 0) 199 19 = B 74 2 := by
    rw [stR_ne _ _ _ (by omega) (by omega), goA_9 _ _ (by omega), uj_ne (by omega)]
    exact xo
  have y2 : (stR (goA (u2 A 199 0 0) B) B 0) 199 18 = B 74 1 := by
    rw [stR_ne _ _ _ (by omega) (by omega), goA_9 _ _ (by omega), uj_ne (by omega)]
    exact xs
  have y3 : ∀ b, (stR (goA (u2 A 199 0 0) B) B 0) 212 b = A 212 b := by
    intro b
    rw [stR_ne _ _ _ (by omega) (by omega), goA_ne _ _ (by omega) (by omega), uk_ne (by omega)]
  rw [EvU_iff (fun _ => false) 90]
  by_cases c1 : 0 ≤ x ∧ x < B 2 9
  · rw [show b1 (0 ≤ x ∧ x < B 2 9) = 1 from if_pos (by omega)] at n1
    rw [if_neg (fun e => e c1)]
    have im := fun (sl : Nat) (r : Out) => r_img (gl := gl) (sl := sl) (r := r) hA2 hL w c1.1 (by rw [e2]; exact c1.2)
    generalize (stR (goA (u2 A 199 0 0) B) B 0) = A2 at *
    by_cases co : B 74 2 = 0
    · rw [if_neg (fun e => e (fun e => e.1 co)), if_pos co]
      simp [EvS, stI, enI, caI, s_push, s_iload, s_aload, s_istore, s_astore, s_iinc, s_bin, s_div, s_i2l, s_lcmp, s_dup, s_dup2, s_pop, s_tab, s_look, s_get, s_put, s_iald, s_lald, s_aald, s_iast, s_last, s_aast, s_len, s_newa, s_new, s_thr, s_min, s_copy, s_obj, s_call, s_iret, s_aret, s_vret, go, ldI, lget, lput, lv_args, wsum, va_rf, hnd, cvr, cat_i, cat_r, cat_l, oi_of, oi_add, oi_sub, oA_ap, oA_u2, pi_lt, pi_le, pi_eq, pi_eq0, pi_lt0, pi_le0, pi_gt0, pi_ge0, pi_cl, sb_lit, fv4, isB01, nlt0, EvU_0, wO_ne, wL_ne, wC_ne, wN_ne, pO_ne, pU_ne, CN, LN, -Prod.exists, pi_ti, Op.lookupswitch.offset, EvU_at d136_0, EvU_at d136_1, EvU_at d136_2, EvU_at d136_3, EvU_at d136_6, EvU_at d136_7, EvU_at d136_10, EvU_at d136_13, EvU_at d136_14, EvU_at d136_17, EvU_at d136_18, EvU_at d136_21, EvU_at d136_22, EvU_at d136_23, EvU_at d136_24, EvU_at d136_26, EvU_at d136_29, EvU_at d136_30, EvU_at d136_33, EvU_at d136_34, EvU_at d136_35, EvU_at d136_38, EvU_at d136_41, EvU_at d136_42, EvU_at d136_43, EvU_at d136_44, EvU_at d136_47, EvU_at d136_48, EvU_at d136_49, EvU_at d136_52, EvU_at d136_53, EvU_at d136_54, EvU_at d136_57, EvU_at d136_60, EvU_at d136_62, EvU_at d136_63, EvU_at d136_66, EvU_at d136_67, EvU_at d136_68, EvU_at d136_69, EvU_at d136_70, EvU_at d136_73, EvU_at d136_74, EvU_at d136_77, EvU_at d136_78, EvU_at d136_79, EvU_at d136_80, EvU_at d136_81, EvU_at d136_82, EvU_at d136_83, EvU_at d136_86, EvU_at d136_87, EvU_at d136_88, EvU_at d136_89, EvU_at d136_90, EvU_at d136_93, EvU_at d136_94, EvU_at d136_95, EvU_at d136_96, EvU_at d136_97, EvU_at d136_100, EvU_at d136_101, EvU_at d136_104, EvU_at d136_105, EvU_at d136_106, EvU_at d136_107, EvU_at d136_108, EvU_at d136_109, EvU_at d136_110, EvU_at d136_111, EvU_at d136_112, Z136, Z117, LyS hL, LyG hL, hA, xm, xo, xo2, r_go hL, Z120, n1, xs, Z137, Z144, co, hx, gon, im, y1]
    · have o3 := o2 co
      obtain ⟨i, hi⟩ : ∃ i : Nat, B 74 1 = (i : Int) + 1 := ⟨(B 74 1 - 1).toNat, by omega⟩
      have hi2 : (B 74 1 - 1).toNat = i := by omega
      have x1 := h.G.sg i (by omega)
      have o4 := h.O.G.sg i (by omega)
      have k2 : ¬ 20 ≤ i := by omega
      have k3 : sb (i : Int) := ⟨by omega, by omega⟩
      have k4 : (i : Int) + 1 - 1 = i := by omega
      have k5 : sb (B (gO i) 3) := ⟨by omega, by omega⟩
      rw [hi2]
      rw [hi] at xs y2
      by_cases c3 : B (gO i) 3 = 60
      · rw [if_pos (fun e => e ⟨co, c3⟩)]
        simp [EvS, stI, enI, caI, s_push, s_iload, s_aload, s_istore, s_astore, s_iinc, s_bin, s_div, s_i2l, s_lcmp, s_dup, s_dup2, s_pop, s_tab, s_look, s_get, s_put, s_iald, s_lald, s_aald, s_iast, s_last, s_aast, s_len, s_newa, s_new, s_thr, s_min, s_copy, s_obj, s_call, s_iret, s_aret, s_vret, go, ldI, lget, lput, lv_args, wsum, va_rf, hnd, cvr, cat_i, cat_r, cat_l, oi_of, oi_add, oi_sub, oA_ap, oA_u2, pi_lt, pi_le, pi_eq, pi_eq0, pi_lt0, pi_le0, pi_gt0, pi_ge0, pi_cl, sb_lit, fv4, isB01, nlt0, EvU_0, wO_ne, wL_ne, wC_ne, wN_ne, pO_ne, pU_ne, CN, LN, -Prod.exists, pi_ti, Op.lookupswitch.offset, EvU_at d136_0, EvU_at d136_1, EvU_at d136_2, EvU_at d136_3, EvU_at d136_6, EvU_at d136_7, EvU_at d136_10, EvU_at d136_13, EvU_at d136_14, EvU_at d136_17, EvU_at d136_18, EvU_at d136_21, EvU_at d136_22, EvU_at d136_23, EvU_at d136_24, EvU_at d136_26, EvU_at d136_29, EvU_at d136_30, EvU_at d136_33, EvU_at d136_34, EvU_at d136_35, EvU_at d136_38, EvU_at d136_41, EvU_at d136_42, EvU_at d136_43, EvU_at d136_44, EvU_at d136_47, EvU_at d136_48, EvU_at d136_49, EvU_at d136_52, EvU_at d136_53, EvU_at d136_54, EvU_at d136_57, EvU_at d136_60, EvU_at d136_62, EvU_at d136_63, EvU_at d136_66, EvU_at d136_67, EvU_at d136_68, EvU_at d136_69, EvU_at d136_70, EvU_at d136_73, EvU_at d136_74, EvU_at d136_77, EvU_at d136_78, EvU_at d136_79, EvU_at d136_80, EvU_at d136_81, EvU_at d136_82, EvU_at d136_83, EvU_at d136_86, EvU_at d136_87, EvU_at d136_88, EvU_at d136_89, EvU_at d136_90, EvU_at d136_93, EvU_at d136_94, EvU_at d136_95, EvU_at d136_96, EvU_at d136_97, EvU_at d136_100, EvU_at d136_101, EvU_at d136_104, EvU_at d136_105, EvU_at d136_106, EvU_at d136_107, EvU_at d136_108, EvU_at d136_109, EvU_at d136_110, EvU_at d136_111, EvU_at d136_112, Z136, Z117, LyS hL, LyG hL, hA, xm, xo, xo2, r_go hL, Z120, n1, xs, co, hx, x1, k2, k3, k4, c3]
      · rw [if_neg (fun e => e (fun e => c3 e.2)), if_neg co]
        have k6 : ¬ (60 : Int) ≤ B (gO i) 3 := by omega
        have i0 : sb (60 * (i : Int) + B (gO i) 3) := ⟨by omega, by omega⟩
        have i1 : ¬ 60 * (i : Int) + B (gO i) 3 < 0 := by omega
        have i2 : (60 * (i : Int) + B (gO i) 3).toNat = 60 * i + (B (gO i) 3).toNat := by omega
        have i3 : ¬ 1200 ≤ 60 * i + (B (gO i) 3).toNat := by omega
        simp [EvS, stI, enI, caI, s_push, s_iload, s_aload, s_istore, s_astore, s_iinc, s_bin, s_div, s_i2l, s_lcmp, s_dup, s_dup2, s_pop, s_tab, s_look, s_get, s_put, s_iald, s_lald, s_aald, s_iast, s_last, s_aast, s_len, s_newa, s_new, s_thr, s_min, s_copy, s_obj, s_call, s_iret, s_aret, s_vret, go, ldI, lget, lput, lv_args, wsum, va_rf, hnd, cvr, cat_i, cat_r, cat_l, oi_of, oi_add, oi_sub, oA_ap, oA_u2, pi_lt, pi_le, pi_eq, pi_eq0, pi_lt0, pi_le0, pi_gt0, pi_ge0, pi_cl, sb_lit, fv4, isB01, nlt0, EvU_0, wO_ne, wL_ne, wC_ne, wN_ne, pO_ne, pU_ne, CN, LN, -Prod.exists, pi_ti, Op.lookupswitch.offset, EvU_at d136_0, EvU_at d136_1, EvU_at d136_2, EvU_at d136_3, EvU_at d136_6, EvU_at d136_7, EvU_at d136_10, EvU_at d136_13, EvU_at d136_14, EvU_at d136_17, EvU_at d136_18, EvU_at d136_21, EvU_at d136_22, EvU_at d136_23, EvU_at d136_24, EvU_at d136_26, EvU_at d136_29, EvU_at d136_30, EvU_at d136_33, EvU_at d136_34, EvU_at d136_35, EvU_at d136_38, EvU_at d136_41, EvU_at d136_42, EvU_at d136_43, EvU_at d136_44, EvU_at d136_47, EvU_at d136_48, EvU_at d136_49, EvU_at d136_52, EvU_at d136_53, EvU_at d136_54, EvU_at d136_57, EvU_at d136_60, EvU_at d136_62, EvU_at d136_63, EvU_at d136_66, EvU_at d136_67, EvU_at d136_68, EvU_at d136_69, EvU_at d136_70, EvU_at d136_73, EvU_at d136_74, EvU_at d136_77, EvU_at d136_78, EvU_at d136_79, EvU_at d136_80, EvU_at d136_81, EvU_at d136_82, EvU_at d136_83, EvU_at d136_86, EvU_at d136_87, EvU_at d136_88, EvU_at d136_89, EvU_at d136_90, EvU_at d136_93, EvU_at d136_94, EvU_at d136_95, EvU_at d136_96, EvU_at d136_97, EvU_at d136_100, EvU_at d136_101, EvU_at d136_104, EvU_at d136_105, EvU_at d136_106, EvU_at d136_107, EvU_at d136_108, EvU_at d136_109, EvU_at d136_110, EvU_at d136_111, EvU_at d136_112, Z136, Z117, LyS hL, LyG hL, hA, xm, xo, xo2, r_go hL, Z120, n1, xs, Z137, Z144, co, hx, x1, k2, k3, k4, k5, k6, gon, im, y1, y2, y3, oi_mul, i0, i1, i2, i3, ur]
  · rw [show b1 (0 ≤ x ∧ x < B 2 9) = 0 from if_neg (by omega)] at n1
    rw [if_pos c1]
    by_cases co : B 74 2 = 0
    · simp [EvS, stI, enI, caI, s_push, s_iload, s_aload, s_istore, s_astore, s_iinc, s_bin, s_div, s_i2l, s_lcmp, s_dup, s_dup2, s_pop, s_tab, s_look, s_get, s_put, s_iald, s_lald, s_aald, s_iast, s_last, s_aast, s_len, s_newa, s_new, s_thr, s_min, s_copy, s_obj, s_call, s_iret, s_aret, s_vret, go, ldI, lget, lput, lv_args, wsum, va_rf, hnd, cvr, cat_i, cat_r, cat_l, oi_of, oi_add, oi_sub, oA_ap, oA_u2, pi_lt, pi_le, pi_eq, pi_eq0, pi_lt0, pi_le0, pi_gt0, pi_ge0, pi_cl, sb_lit, fv4, isB01, nlt0, EvU_0, wO_ne, wL_ne, wC_ne, wN_ne, pO_ne, pU_ne, CN, LN, -Prod.exists, pi_ti, Op.lookupswitch.offset, EvU_at d136_0, EvU_at d136_1, EvU_at d136_2, EvU_at d136_3, EvU_at d136_6, EvU_at d136_7, EvU_at d136_10, EvU_at d136_13, EvU_at d136_14, EvU_at d136_17, EvU_at d136_18, EvU_at d136_21, EvU_at d136_22, EvU_at d136_23, EvU_at d136_24, EvU_at d136_26, EvU_at d136_29, EvU_at d136_30, EvU_at d136_33, EvU_at d136_34, EvU_at d136_35, EvU_at d136_38, EvU_at d136_41, EvU_at d136_42, EvU_at d136_43, EvU_at d136_44, EvU_at d136_47, EvU_at d136_48, EvU_at d136_49, EvU_at d136_52, EvU_at d136_53, EvU_at d136_54, EvU_at d136_57, EvU_at d136_60, EvU_at d136_62, EvU_at d136_63, EvU_at d136_66, EvU_at d136_67, EvU_at d136_68, EvU_at d136_69, EvU_at d136_70, EvU_at d136_73, EvU_at d136_74, EvU_at d136_77, EvU_at d136_78, EvU_at d136_79, EvU_at d136_80, EvU_at d136_81, EvU_at d136_82, EvU_at d136_83, EvU_at d136_86, EvU_at d136_87, EvU_at d136_88, EvU_at d136_89, EvU_at d136_90, EvU_at d136_93, EvU_at d136_94, EvU_at d136_95, EvU_at d136_96, EvU_at d136_97, EvU_at d136_100, EvU_at d136_101, EvU_at d136_104, EvU_at d136_105, EvU_at d136_106, EvU_at d136_107, EvU_at d136_108, EvU_at d136_109, EvU_at d136_110, EvU_at d136_111, EvU_at d136_112, Z136, Z117, LyS hL, LyG hL, hA, xm, xo, xo2, r_go hL, Z120, n1, xs, co, hx]
    · have o3 := o2 co
      obtain ⟨i, hi⟩ : ∃ i : Nat, B 74 1 = (i : Int) + 1 := ⟨(B 74 1 - 1).toNat, by omega⟩
      have x1 := h.G.sg i (by omega)
      have k2 : ¬ 20 ≤ i := by omega
      have k3 : sb (i : Int) := ⟨by omega, by omega⟩
      have k4 : (i : Int) + 1 - 1 = i := by omega
      have k5 : sb (B (gO i) 3) := x1 ▸ hA _ _
      rw [hi] at xs
      by_cases k6 : (60 : Int) ≤ B (gO i) 3
      · simp [EvS, stI, enI, caI, s_push, s_iload, s_aload, s_istore, s_astore, s_iinc, s_bin, s_div, s_i2l, s_lcmp, s_dup, s_dup2, s_pop, s_tab, s_look, s_get, s_put, s_iald, s_lald, s_aald, s_iast, s_last, s_aast, s_len, s_newa, s_new, s_thr, s_min, s_copy, s_obj, s_call, s_iret, s_aret, s_vret, go, ldI, lget, lput, lv_args, wsum, va_rf, hnd, cvr, cat_i, cat_r, cat_l, oi_of, oi_add, oi_sub, oA_ap, oA_u2, pi_lt, pi_le, pi_eq, pi_eq0, pi_lt0, pi_le0, pi_gt0, pi_ge0, pi_cl, sb_lit, fv4, isB01, nlt0, EvU_0, wO_ne, wL_ne, wC_ne, wN_ne, pO_ne, pU_ne, CN, LN, -Prod.exists, pi_ti, Op.lookupswitch.offset, EvU_at d136_0, EvU_at d136_1, EvU_at d136_2, EvU_at d136_3, EvU_at d136_6, EvU_at d136_7, EvU_at d136_10, EvU_at d136_13, EvU_at d136_14, EvU_at d136_17, EvU_at d136_18, EvU_at d136_21, EvU_at d136_22, EvU_at d136_23, EvU_at d136_24, EvU_at d136_26, EvU_at d136_29, EvU_at d136_30, EvU_at d136_33, EvU_at d136_34, EvU_at d136_35, EvU_at d136_38, EvU_at d136_41, EvU_at d136_42, EvU_at d136_43, EvU_at d136_44, EvU_at d136_47, EvU_at d136_48, EvU_at d136_49, EvU_at d136_52, EvU_at d136_53, EvU_at d136_54, EvU_at d136_57, EvU_at d136_60, EvU_at d136_62, EvU_at d136_63, EvU_at d136_66, EvU_at d136_67, EvU_at d136_68, EvU_at d136_69, EvU_at d136_70, EvU_at d136_73, EvU_at d136_74, EvU_at d136_77, EvU_at d136_78, EvU_at d136_79, EvU_at d136_80, EvU_at d136_81, EvU_at d136_82, EvU_at d136_83, EvU_at d136_86, EvU_at d136_87, EvU_at d136_88, EvU_at d136_89, EvU_at d136_90, EvU_at d136_93, EvU_at d136_94, EvU_at d136_95, EvU_at d136_96, EvU_at d136_97, EvU_at d136_100, EvU_at d136_101, EvU_at d136_104, EvU_at d136_105, EvU_at d136_106, EvU_at d136_107, EvU_at d136_108, EvU_at d136_109, EvU_at d136_110, EvU_at d136_111, EvU_at d136_112, Z136, Z117, LyS hL, LyG hL, hA, xm, xo, xo2, r_go hL, Z120, n1, xs, co, hx, x1, k2, k3, k4, k5, k6]
      · simp [EvS, stI, enI, caI, s_push, s_iload, s_aload, s_istore, s_astore, s_iinc, s_bin, s_div, s_i2l, s_lcmp, s_dup, s_dup2, s_pop, s_tab, s_look, s_get, s_put, s_iald, s_lald, s_aald, s_iast, s_last, s_aast, s_len, s_newa, s_new, s_thr, s_min, s_copy, s_obj, s_call, s_iret, s_aret, s_vret, go, ldI, lget, lput, lv_args, wsum, va_rf, hnd, cvr, cat_i, cat_r, cat_l, oi_of, oi_add, oi_sub, oA_ap, oA_u2, pi_lt, pi_le, pi_eq, pi_eq0, pi_lt0, pi_le0, pi_gt0, pi_ge0, pi_cl, sb_lit, fv4, isB01, nlt0, EvU_0, wO_ne, wL_ne, wC_ne, wN_ne, pO_ne, pU_ne, CN, LN, -Prod.exists, pi_ti, Op.lookupswitch.offset, EvU_at d136_0, EvU_at d136_1, EvU_at d136_2, EvU_at d136_3, EvU_at d136_6, EvU_at d136_7, EvU_at d136_10, EvU_at d136_13, EvU_at d136_14, EvU_at d136_17, EvU_at d136_18, EvU_at d136_21, EvU_at d136_22, EvU_at d136_23, EvU_at d136_24, EvU_at d136_26, EvU_at d136_29, EvU_at d136_30, EvU_at d136_33, EvU_at d136_34, EvU_at d136_35, EvU_at d136_38, EvU_at d136_41, EvU_at d136_42, EvU_at d136_43, EvU_at d136_44, EvU_at d136_47, EvU_at d136_48, EvU_at d136_49, EvU_at d136_52, EvU_at d136_53, EvU_at d136_54, EvU_at d136_57, EvU_at d136_60, EvU_at d136_62, EvU_at d136_63, EvU_at d136_66, EvU_at d136_67, EvU_at d136_68, EvU_at d136_69, EvU_at d136_70, EvU_at d136_73, EvU_at d136_74, EvU_at d136_77, EvU_at d136_78, EvU_at d136_79, EvU_at d136_80, EvU_at d136_81, EvU_at d136_82, EvU_at d136_83, EvU_at d136_86, EvU_at d136_87, EvU_at d136_88, EvU_at d136_89, EvU_at d136_90, EvU_at d136_93, EvU_at d136_94, EvU_at d136_95, EvU_at d136_96, EvU_at d136_97, EvU_at d136_100, EvU_at d136_101, EvU_at d136_104, EvU_at d136_105, EvU_at d136_106, EvU_at d136_107, EvU_at d136_108, EvU_at d136_109, EvU_at d136_110, EvU_at d136_111, EvU_at d136_112, Z136, Z117, LyS hL, LyG hL, hA, xm, xo, xo2, r_go hL, Z120, n1, xs, co, hx, x1, k2, k3, k4, k5, k6]
end
