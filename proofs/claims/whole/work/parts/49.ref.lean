/-! the reference: which slots step -/
section
variable {sh : List (Nat × Nat)} {A B : Nat → Nat → Int} {gl : Nat → Nat → Int64} {gr : Nat → Nat → Option Nat} {sl : Nat} {r : Out}
theorem RW.wy (h : RW A B) : WayOk B := by
  obtain ⟨k, hk, h1, h2, h3⟩ := h.M.ord
  obtain ⟨o1, o2⟩ := ordM_lt k hk
  refine ⟨h.M.m.1, h.M.m.2, by omega, by omega, fun i hi => ?_, h.C.pos, fun w hw => ⟨(h.M.ring w hw).1, (h.M.ring w hw).2, fun j hj => ⟨(h.M.wi w hw j hj).1, (h.M.wi w hw j hj).2.1⟩, fun j hj => ⟨(h.M.wj w hw j hj).1, (h.M.wj w hw j hj).2.1⟩⟩⟩
  have hi' : i < (ordM k).length := by omega
  obtain ⟨o3, o4⟩ := o2 i (by omega) hi'
  rw [h3 i hi', Int.toNat_natCast]
  have s1 := (h1 _ o3).mpr o4
  have s2 := h.M.slot _ o3
  refine ⟨by omega, by omega, by omega, by omega⟩
theorem RW.ro (h : RW A B) : PairOk B := fun j hj => ⟨(h.M.pp j hj).1, (h.M.pp j hj).2.1, (h.M.pr j hj).1, (h.M.pr j hj).2.1⟩
theorem r_img (hA : ∀ k j, sb (A k j)) (hL : Lay sh gr) (h : RW A B) {c : Int} (c0 : 0 ≤ c) (c1 : c < B 2 9) : Ev (144, 0, [(0, .ref 199), (1, .int (oi c))], [], (sh, oA A, gl, gr), sl) r ↔ r = (.inl (some (.int (oi (sendF B c)))), (sh, oA A, gl, gr), sl) := r_image hA hL h (fun _ => pathF_in h.wy h.ro) c0 c1
def besF (k : Nat) (v : Int) (rn : Bool) : Nat → Int → Int
  | 0, _ => -1
  | n + 1, s => if (if rn then (s + 6) % 6 else s) < 0 ∨ 5 < (if rn then (s + 6) % 6 else s) then -1 else if k.testBit (if rn then (s + 6) % 6 else s).toNat = true then (if rn then (s + 6) % 6 else s) else besF k v rn n ((if rn then (s + 6) % 6 else s) + v)
set_option maxRecDepth 20000 in
theorem l_bes0 (hA : ∀ k j, sb (A k j)) (hL : Lay sh gr) (h : RW A B) {k : Nat} (hk : OrdAt B k) {v : Int} (hv : v = 1 ∨ v = -1) : ∀ (n j : Nat) (s : Int) (ls : Lc), j + n = 6 → -1 ≤ s → s ≤ 6 → nl ls = true → lget ls 0 = some (.ref 199) → lget ls 2 = some (.int (oi v)) → lget ls 3 = some (.int (oi 0)) → lget ls 4 = some (.int (oi s)) → lget ls 5 = some (.int (oi (j : Int))) →
    (Ev (140, 8, ls, [], (sh, oA A, gl, gr), sl) r ↔ r = (.inl (some (.int (oi (besF k v false n s)))), (sh, oA A, gl, gr), sl)) := by
  have hv' : sb v := by rcases hv with rfl | rfl <;> exact ⟨by decide, by decide⟩
  intro n
  induction n with
  | zero =>
    intro j s ls hn s0 s1 g g0 g2 g3 g4 g5
    obtain rfl : j = 6 := by omega
    have e0 : sb ((6 : Nat) : Int) := ⟨by omega, by omega⟩
    have e1 : (6 : Int) ≤ ((6 : Nat) : Int) := by omega
    rw [EvU_iff (fun _ => false) 10]
    simp (maxDischargeDepth := 9) [EvS, stI, enI, caI, s_push, s_iload, s_aload, s_istore, s_astore, s_iinc, s_bin, s_div, s_i2l, s_lcmp, s_dup, s_dup2, s_pop, s_tab, s_look, s_get, s_put, s_iald, s_lald, s_aald, s_iast, s_last, s_aast, s_len, s_newa, s_new, s_thr, s_min, s_copy, s_obj, s_call, s_iret, s_aret, s_vret, go, ldI, lget_lput, nl_I, nl_R, lv_args, wsum, va_rf, hnd, cvr, cat_i, cat_r, cat_l, oi_of, oi_add, oi_sub, oA_ap, oA_u2, pi_lt, pi_le, pi_eq, pi_eq0, pi_lt0, pi_le0, pi_gt0, pi_ge0, pi_cl, sb_lit, fv4, isB01, nlt0, EvU_0, wO_ne, wL_ne, wC_ne, wN_ne, pO_ne, pU_ne, CN, LN, -Prod.exists, pi_ti, Op.lookupswitch.offset, EvU_at d140_0, EvU_at d140_1, EvU_at d140_2, EvU_at d140_3, EvU_at d140_5, EvU_at d140_6, EvU_at d140_8, EvU_at d140_10, EvU_at d140_12, EvU_at d140_15, EvU_at d140_16, EvU_at d140_19, EvU_at d140_21, EvU_at d140_23, EvU_at d140_24, EvU_at d140_26, EvU_at d140_27, EvU_at d140_30, EvU_at d140_32, EvU_at d140_34, EvU_at d140_36, EvU_at d140_39, EvU_at d140_41, EvU_at d140_42, EvU_at d140_45, EvU_at d140_46, EvU_at d140_47, EvU_at d140_48, EvU_at d140_51, EvU_at d140_53, EvU_at d140_54, EvU_at d140_55, EvU_at d140_58, EvU_at d140_60, EvU_at d140_61, EvU_at d140_63, EvU_at d140_64, EvU_at d140_65, EvU_at d140_67, EvU_at d140_70, EvU_at d140_73, EvU_at d140_74, Z140, LyS hL, LyG hL, hA, g, g0, g2, g3, g4, g5, e0, e1, besF]
  | succ n ih =>
    intro j s ls hn s0 s1 g g0 g2 g3 g4 g5
    have q0 : sb (j : Int) := ⟨by omega, by omega⟩
    have q1 : ¬ (6 : Int) ≤ (j : Int) := by omega
    have q2 : ¬ 6 ≤ j := by omega
    have q3 : sb s := ⟨by omega, by omega⟩
    rw [EvU_iff (fun _ => false) 1]
    simp (maxDischargeDepth := 9) [EvS, stI, enI, caI, s_push, s_iload, s_aload, s_istore, s_astore, s_iinc, s_bin, s_div, s_i2l, s_lcmp, s_dup, s_dup2, s_pop, s_tab, s_look, s_get, s_put, s_iald, s_lald, s_aald, s_iast, s_last, s_aast, s_len, s_newa, s_new, s_thr, s_min, s_copy, s_obj, s_call, s_iret, s_aret, s_vret, go, ldI, lget_lput, nl_I, nl_R, lv_args, wsum, va_rf, hnd, cvr, cat_i, cat_r, cat_l, oi_of, oi_add, oi_sub, oA_ap, oA_u2, pi_lt, pi_le, pi_eq, pi_eq0, pi_lt0, pi_le0, pi_gt0, pi_ge0, pi_cl, sb_lit, fv4, isB01, nlt0, EvU_0, wO_ne, wL_ne, wC_ne, wN_ne, pO_ne, pU_ne, CN, LN, -Prod.exists, pi_ti, Op.lookupswitch.offset, EvU_at d140_0, EvU_at d140_1, EvU_at d140_2, EvU_at d140_3, EvU_at d140_5, EvU_at d140_6, EvU_at d140_8, EvU_at d140_10, EvU_at d140_12, EvU_at d140_15, EvU_at d140_16, EvU_at d140_19, EvU_at d140_21, EvU_at d140_23, EvU_at d140_24, EvU_at d140_26, EvU_at d140_27, EvU_at d140_30, EvU_at d140_32, EvU_at d140_34, EvU_at d140_36, EvU_at d140_39, EvU_at d140_41, EvU_at d140_42, EvU_at d140_45, EvU_at d140_46, EvU_at d140_47, EvU_at d140_48, EvU_at d140_51, EvU_at d140_53, EvU_at d140_54, EvU_at d140_55, EvU_at d140_58, EvU_at d140_60, EvU_at d140_61, EvU_at d140_63, EvU_at d140_64, EvU_at d140_65, EvU_at d140_67, EvU_at d140_70, EvU_at d140_73, EvU_at d140_74, Z140, LyS hL, LyG hL, hA, g, g0, g2, g3, g4, g5, q0]
    rw [EvU_iff (fun p => p == 8) 60, besF]
    simp only [Bool.false_eq_true, if_false]
    obtain ⟨x, hx⟩ : ∃ x, x = s := ⟨s, rfl⟩
    rw [← hx] at g4 q3 s0 s1 ⊢
    have q7 : sb x := ⟨by omega, by omega⟩
    by_cases d1 : x < 0 ∨ 5 < x
    · rw [if_pos d1]
      rcases (show x < 0 ∨ ¬ x < 0 ∧ ¬ x ≤ 5 by omega) with d2 | ⟨d2, d3⟩
      · simp (maxDischargeDepth := 9) [EvS, stI, enI, caI, s_push, s_iload, s_aload, s_istore, s_astore, s_iinc, s_bin, s_div, s_i2l, s_lcmp, s_dup, s_dup2, s_pop, s_tab, s_look, s_get, s_put, s_iald, s_lald, s_aald, s_iast, s_last, s_aast, s_len, s_newa, s_new, s_thr, s_min, s_copy, s_obj, s_call, s_iret, s_aret, s_vret, go, ldI, lget_lput, nl_I, nl_R, lv_args, wsum, va_rf, hnd, cvr, cat_i, cat_r, cat_l, oi_of, oi_add, oi_sub, oA_ap, oA_u2, pi_lt, pi_le, pi_eq, pi_eq0, pi_lt0, pi_le0, pi_gt0, pi_ge0, pi_cl, sb_lit, fv4, isB01, nlt0, EvU_0, wO_ne, wL_ne, wC_ne, wN_ne, pO_ne, pU_ne, CN, LN, -Prod.exists, pi_ti, Op.lookupswitch.offset, EvU_at d140_0, EvU_at d140_1, EvU_at d140_2, EvU_at d140_3, EvU_at d140_5, EvU_at d140_6, EvU_at d140_8, EvU_at d140_10, EvU_at d140_12, EvU_at d140_15, EvU_at d140_16, EvU_at d140_19, EvU_at d140_21, EvU_at d140_23, EvU_at d140_24, EvU_at d140_26, EvU_at d140_27, EvU_at d140_30, EvU_at d140_32, EvU_at d140_34, EvU_at d140_36, EvU_at d140_39, EvU_at d140_41, EvU_at d140_42, EvU_at d140_45, EvU_at d140_46, EvU_at d140_47, EvU_at d140_48, EvU_at d140_51, EvU_at d140_53, EvU_at d140_54, EvU_at d140_55, EvU_at d140_58, EvU_at d140_60, EvU_at d140_61, EvU_at d140_63, EvU_at d140_64, EvU_at d140_65, EvU_at d140_67, EvU_at d140_70, EvU_at d140_73, EvU_at d140_74, Z140, LyS hL, LyG hL, hA, g, g0, g2, g3, g4, g5, q0, q1, q2, q3, q7, d2]
      · simp (maxDischargeDepth := 9) [EvS, stI, enI, caI, s_push, s_iload, s_aload, s_istore, s_astore, s_iinc, s_bin, s_div, s_i2l, s_lcmp, s_dup, s_dup2, s_pop, s_tab, s_look, s_get, s_put, s_iald, s_lald, s_aald, s_iast, s_last, s_aast, s_len, s_newa, s_new, s_thr, s_min, s_copy, s_obj, s_call, s_iret, s_aret, s_vret, go, ldI, lget_lput, nl_I, nl_R, lv_args, wsum, va_rf, hnd, cvr, cat_i, cat_r, cat_l, oi_of, oi_add, oi_sub, oA_ap, oA_u2, pi_lt, pi_le, pi_eq, pi_eq0, pi_lt0, pi_le0, pi_gt0, pi_ge0, pi_cl, sb_lit, fv4, isB01, nlt0, EvU_0, wO_ne, wL_ne, wC_ne, wN_ne, pO_ne, pU_ne, CN, LN, -Prod.exists, pi_ti, Op.lookupswitch.offset, EvU_at d140_0, EvU_at d140_1, EvU_at d140_2, EvU_at d140_3, EvU_at d140_5, EvU_at d140_6, EvU_at d140_8, EvU_at d140_10, EvU_at d140_12, EvU_at d140_15, EvU_at d140_16, EvU_at d140_19, EvU_at d140_21, EvU_at d140_23, EvU_at d140_24, EvU_at d140_26, EvU_at d140_27, EvU_at d140_30, EvU_at d140_32, EvU_at d140_34, EvU_at d140_36, EvU_at d140_39, EvU_at d140_41, EvU_at d140_42, EvU_at d140_45, EvU_at d140_46, EvU_at d140_47, EvU_at d140_48, EvU_at d140_51, EvU_at d140_53, EvU_at d140_54, EvU_at d140_55, EvU_at d140_58, EvU_at d140_60, EvU_at d140_61, EvU_at d140_63, EvU_at d140_64, EvU_at d140_65, EvU_at d140_67, EvU_at d140_70, EvU_at d140_73, EvU_at d140_74, Z140, LyS hL, LyG hL, hA, g, g0, g2, g3, g4, g5, q0, q1, q2, q3, q7, d2, d3]
    · rw [if_neg d1]
      have d2 : ¬ x < 0 := by omega
      have d3 : x ≤ 5 := by omega
      have d4 : ¬ 6 ≤ x.toNat := by omega
      have x1 := h.R.slot x.toNat (by omega)
      have hb := hk.2.1 x.toNat (by omega)
      have q8 : sb (B 4 x.toNat) := x1 ▸ hA _ _
      by_cases d5 : k.testBit x.toNat = true
      · have d6 : ¬ B 4 x.toNat = -1 := hb.mpr d5
        rw [if_pos d5]
        simp (maxDischargeDepth := 9) [EvS, stI, enI, caI, s_push, s_iload, s_aload, s_istore, s_astore, s_iinc, s_bin, s_div, s_i2l, s_lcmp, s_dup, s_dup2, s_pop, s_tab, s_look, s_get, s_put, s_iald, s_lald, s_aald, s_iast, s_last, s_aast, s_len, s_newa, s_new, s_thr, s_min, s_copy, s_obj, s_call, s_iret, s_aret, s_vret, go, ldI, lget_lput, nl_I, nl_R, lv_args, wsum, va_rf, hnd, cvr, cat_i, cat_r, cat_l, oi_of, oi_add, oi_sub, oA_ap, oA_u2, pi_lt, pi_le, pi_eq, pi_eq0, pi_lt0, pi_le0, pi_gt0, pi_ge0, pi_cl, sb_lit, fv4, isB01, nlt0, EvU_0, wO_ne, wL_ne, wC_ne, wN_ne, pO_ne, pU_ne, CN, LN, -Prod.exists, pi_ti, Op.lookupswitch.offset, EvU_at d140_0, EvU_at d140_1, EvU_at d140_2, EvU_at d140_3, EvU_at d140_5, EvU_at d140_6, EvU_at d140_8, EvU_at d140_10, EvU_at d140_12, EvU_at d140_15, EvU_at d140_16, EvU_at d140_19, EvU_at d140_21, EvU_at d140_23, EvU_at d140_24, EvU_at d140_26, EvU_at d140_27, EvU_at d140_30, EvU_at d140_32, EvU_at d140_34, EvU_at d140_36, EvU_at d140_39, EvU_at d140_41, EvU_at d140_42, EvU_at d140_45, EvU_at d140_46, EvU_at d140_47, EvU_at d140_48, EvU_at d140_51, EvU_at d140_53, EvU_at d140_54, EvU_at d140_55, EvU_at d140_58, EvU_at d140_60, EvU_at d140_61, EvU_at d140_63, EvU_at d140_64, EvU_at d140_65, EvU_at d140_67, EvU_at d140_70, EvU_at d140_73, EvU_at d140_74, Z140, LyS hL, LyG hL, hA, g, g0, g2, g3, g4, g5, q0, q1, q2, q3, q7, q8, x1, d2, d3, d4, d6]
      · have d6 : B 4 x.toNat = -1 := Classical.not_not.mp (fun e => d5 (hb.mp e))
        rw [if_neg d5]
        simp (maxDischargeDepth := 9) [EvS, stI, enI, caI, s_push, s_iload, s_aload, s_istore, s_astore, s_iinc, s_bin, s_div, s_i2l, s_lcmp, s_dup, s_dup2, s_pop, s_tab, s_look, s_get, s_put, s_iald, s_lald, s_aald, s_iast, s_last, s_aast, s_len, s_newa, s_new, s_thr, s_min, s_copy, s_obj, s_call, s_iret, s_aret, s_vret, go, ldI, lget_lput, nl_I, nl_R, lv_args, wsum, va_rf, hnd, cvr, cat_i, cat_r, cat_l, oi_of, oi_add, oi_sub, oA_ap, oA_u2, pi_lt, pi_le, pi_eq, pi_eq0, pi_lt0, pi_le0, pi_gt0, pi_ge0, pi_cl, sb_lit, fv4, isB01, nlt0, EvU_0, wO_ne, wL_ne, wC_ne, wN_ne, pO_ne, pU_ne, CN, LN, -Prod.exists, pi_ti, Op.lookupswitch.offset, EvU_at d140_0, EvU_at d140_1, EvU_at d140_2, EvU_at d140_3, EvU_at d140_5, EvU_at d140_6, EvU_at d140_8, EvU_at d140_10, EvU_at d140_12, EvU_at d140_15, EvU_at d140_16, EvU_at d140_19, EvU_at d140_21, EvU_at d140_23, EvU_at d140_24, EvU_at d140_26, EvU_at d140_27, EvU_at d140_30, EvU_at d140_32, EvU_at d140_34, EvU_at d140_36, EvU_at d140_39, EvU_at d140_41, EvU_at d140_42, EvU_at d140_45, EvU_at d140_46, EvU_at d140_47, EvU_at d140_48, EvU_at d140_51, EvU_at d140_53, EvU_at d140_54, EvU_at d140_55, EvU_at d140_58, EvU_at d140_60, EvU_at d140_61, EvU_at d140_63, EvU_at d140_64, EvU_at d140_65, EvU_at d140_67, EvU_at d140_70, EvU_at d140_73, EvU_at d140_74, Z140, LyS hL, LyG hL, hA, g, g0, g2, g3, g4, g5, q0, q1, q2, q3, q7, x1, d2, d3, d4, d6]
        refine ih (j + 1) (x + v) _ (by omega) (by omega) (by omega) ?_ ?_ ?_ ?_ ?_ ?_
        · simp (maxDischargeDepth := 9) [lget_lput, nl_I, nl_R, g]
        · simp (maxDischargeDepth := 9) [lget_lput, nl_I, nl_R, g, g0]
        · simp (maxDischargeDepth := 9) [lget_lput, nl_I, nl_R, g, g2]
        · simp (maxDischargeDepth := 9) [lget_lput, nl_I, nl_R, g, g3]
        · simp (maxDischargeDepth := 9) [lget_lput, nl_I, nl_R, g]
        · simp (maxDischargeDepth := 9) [lget_lput, nl_I, nl_R, g]
set_option maxRecDepth 20000 in
theorem r_bes0 (hA : ∀ k j, sb (A k j)) (hL : Lay sh gr) (h : RW A B) {k : Nat} (hk : OrdAt B k) {v : Int} (hv : v = 1 ∨ v = -1) {s : Int} (s0 : -1 ≤ s + v) (s1 : s + v ≤ 6) : Ev (140, 0, [(0, .ref 199), (1, .int (oi s)), (2, .int (oi v)), (3, .int (oi 0))], [], (sh, oA A, gl, gr), sl) r ↔ r = (.inl (some (.int (oi (besF k v false 6 (s + v))))), (sh, oA A, gl, gr), sl) := by
  rw [EvU_iff (fun p => p == 8) 20]
  simp [EvS, stI, enI, caI, s_push, s_iload, s_aload, s_istore, s_astore, s_iinc, s_bin, s_div, s_i2l, s_lcmp, s_dup, s_dup2, s_pop, s_tab, s_look, s_get, s_put, s_iald, s_lald, s_aald, s_iast, s_last, s_aast, s_len, s_newa, s_new, s_thr, s_min, s_copy, s_obj, s_call, s_iret, s_aret, s_vret, go, ldI, lget, lput, lv_args, wsum, va_rf, hnd, cvr, cat_i, cat_r, cat_l, oi_of, oi_add, oi_sub, oA_ap, oA_u2, pi_lt, pi_le, pi_eq, pi_eq0, pi_lt0, pi_le0, pi_gt0, pi_ge0, pi_cl, sb_lit, fv4, isB01, nlt0, EvU_0, wO_ne, wL_ne, wC_ne, wN_ne, pO_ne, pU_ne, CN, LN, -Prod.exists, pi_ti, Op.lookupswitch.offset, EvU_at d140_0, EvU_at d140_1, EvU_at d140_2, EvU_at d140_3, EvU_at d140_5, EvU_at d140_6, EvU_at d140_8, EvU_at d140_10, EvU_at d140_12, EvU_at d140_15, EvU_at d140_16, EvU_at d140_19, EvU_at d140_21, EvU_at d140_23, EvU_at d140_24, EvU_at d140_26, EvU_at d140_27, EvU_at d140_30, EvU_at d140_32, EvU_at d140_34, EvU_at d140_36, EvU_at d140_39, EvU_at d140_41, EvU_at d140_42, EvU_at d140_45, EvU_at d140_46, EvU_at d140_47, EvU_at d140_48, EvU_at d140_51, EvU_at d140_53, EvU_at d140_54, EvU_at d140_55, EvU_at d140_58, EvU_at d140_60, EvU_at d140_61, EvU_at d140_63, EvU_at d140_64, EvU_at d140_65, EvU_at d140_67, EvU_at d140_70, EvU_at d140_73, EvU_at d140_74, Z140]
  refine l_bes0 hA hL h hk hv 6 0 _ _ rfl s0 s1 ?_ ?_ ?_ ?_ ?_ ?_
  · simp [nl, cat_i, cat_r]
  · simp [lget, cat_i, cat_r]
  · simp [lget, cat_i, cat_r]
  · simp [lget, cat_i, cat_r]
  · simp [lget, cat_i, cat_r]
  · simp [lget, cat_i, cat_r]
set_option maxRecDepth 20000 in
theorem l_bes1 (hA : ∀ k j, sb (A k j)) (hL : Lay sh gr) (h : RW A B) {k : Nat} (hk : OrdAt B k) {v : Int} (hv : v = 1 ∨ v = -1) : ∀ (n j : Nat) (s : Int) (ls : Lc), j + n = 6 → -1 ≤ s → s ≤ 6 → nl ls = true → lget ls 0 = some (.ref 199) → lget ls 2 = some (.int (oi v)) → lget ls 3 = some (.int (oi 1)) → lget ls 4 = some (.int (oi s)) → lget ls 5 = some (.int (oi (j : Int))) →
    (Ev (140, 8, ls, [], (sh, oA A, gl, gr), sl) r ↔ r = (.inl (some (.int (oi (besF k v true n s)))), (sh, oA A, gl, gr), sl)) := by
  have hv' : sb v := by rcases hv with rfl | rfl <;> exact ⟨by decide, by decide⟩
  intro n
  induction n with
  | zero =>
    intro j s ls hn s0 s1 g g0 g2 g3 g4 g5
    obtain rfl : j = 6 := by omega
    have e0 : sb ((6 : Nat) : Int) := ⟨by omega, by omega⟩
    have e1 : (6 : Int) ≤ ((6 : Nat) : Int) := by omega
    rw [EvU_iff (fun _ => false) 10]
    simp (maxDischargeDepth := 9) [EvS, stI, enI, caI, s_push, s_iload, s_aload, s_istore, s_astore, s_iinc, s_bin, s_div, s_i2l, s_lcmp, s_dup, s_dup2, s_pop, s_tab, s_look, s_get, s_put, s_iald, s_lald, s_aald, s_iast, s_last, s_aast, s_len, s_newa, s_new, s_thr, s_min, s_copy, s_obj, s_call, s_iret, s_aret, s_vret, go, ldI, lget_lput, nl_I, nl_R, lv_args, wsum, va_rf, hnd, cvr, cat_i, cat_r, cat_l, oi_of, oi_add, oi_sub, oA_ap, oA_u2, pi_lt, pi_le, pi_eq, pi_eq0, pi_lt0, pi_le0, pi_gt0, pi_ge0, pi_cl, sb_lit, fv4, isB01, nlt0, EvU_0, wO_ne, wL_ne, wC_ne, wN_ne, pO_ne, pU_ne, CN, LN, -Prod.exists, pi_ti, Op.lookupswitch.offset, EvU_at d140_0, EvU_at d140_1, EvU_at d140_2, EvU_at d140_3, EvU_at d140_5, EvU_at d140_6, EvU_at d140_8, EvU_at d140_10, EvU_at d140_12, EvU_at d140_15, EvU_at d140_16, EvU_at d140_19, EvU_at d140_21, EvU_at d140_23, EvU_at d140_24, EvU_at d140_26, EvU_at d140_27, EvU_at d140_30, EvU_at d140_32, EvU_at d140_34, EvU_at d140_36, EvU_at d140_39, EvU_at d140_41, EvU_at d140_42, EvU_at d140_45, EvU_at d140_46, EvU_at d140_47, EvU_at d140_48, EvU_at d140_51, EvU_at d140_53, EvU_at d140_54, EvU_at d140_55, EvU_at d140_58, EvU_at d140_60, EvU_at d140_61, EvU_at d140_63, EvU_at d140_64, EvU_at d140_65, EvU_at d140_67, EvU_at d140_70, EvU_at d140_73, EvU_at d140_74, Z140, LyS hL, LyG hL, hA, g, g0, g2, g3, g4, g5, e0, e1, besF]
  | succ n ih =>
    intro j s ls hn s0 s1 g g0 g2 g3 g4 g5
    have q0 : sb (j : Int) := ⟨by omega, by omega⟩
    have q1 : ¬ (6 : Int) ≤ (j : Int) := by omega
    have q2 : ¬ 6 ≤ j := by omega
    have q3 : sb s := ⟨by omega, by omega⟩
    rw [EvU_iff (fun _ => false) 1]
    simp (maxDischargeDepth := 9) [EvS, stI, enI, caI, s_push, s_iload, s_aload, s_istore, s_astore, s_iinc, s_bin, s_div, s_i2l, s_lcmp, s_dup, s_dup2, s_pop, s_tab, s_look, s_get, s_put, s_iald, s_lald, s_aald, s_iast, s_last, s_aast, s_len, s_newa, s_new, s_thr, s_min, s_copy, s_obj, s_call, s_iret, s_aret, s_vret, go, ldI, lget_lput, nl_I, nl_R, lv_args, wsum, va_rf, hnd, cvr, cat_i, cat_r, cat_l, oi_of, oi_add, oi_sub, oA_ap, oA_u2, pi_lt, pi_le, pi_eq, pi_eq0, pi_lt0, pi_le0, pi_gt0, pi_ge0, pi_cl, sb_lit, fv4, isB01, nlt0, EvU_0, wO_ne, wL_ne, wC_ne, wN_ne, pO_ne, pU_ne, CN, LN, -Prod.exists, pi_ti, Op.lookupswitch.offset, EvU_at d140_0, EvU_at d140_1, EvU_at d140_2, EvU_at d140_3, EvU_at d140_5, EvU_at d140_6, EvU_at d140_8, EvU_at d140_10, EvU_at d140_12, EvU_at d140_15, EvU_at d140_16, EvU_at d140_19, EvU_at d140_21, EvU_at d140_23, EvU_at d140_24, EvU_at d140_26, EvU_at d140_27, EvU_at d140_30, EvU_at d140_32, EvU_at d140_34, EvU_at d140_36, EvU_at d140_39, EvU_at d140_41, EvU_at d140_42, EvU_at d140_45, EvU_at d140_46, EvU_at d140_47, EvU_at d140_48, EvU_at d140_51, EvU_at d140_53, EvU_at d140_54, EvU_at d140_55, EvU_at d140_58, EvU_at d140_60, EvU_at d140_61, EvU_at d140_63, EvU_at d140_64, EvU_at d140_65, EvU_at d140_67, EvU_at d140_70, EvU_at d140_73, EvU_at d140_74, Z140, LyS hL, LyG hL, hA, g, g0, g2, g3, g4, g5, q0]
    rw [EvU_iff (fun p => p == 8) 60, besF]
    have q4 := rem_oi (a := s + 6) (b := 6) (by omega) (by omega) ⟨by omega, by omega⟩ ⟨by omega, by omega⟩
    have q5 : 0 ≤ (s + 6) % 6 := Int.emod_nonneg _ (by omega)
    have q6 : (s + 6) % 6 < 6 := Int.emod_lt_of_pos _ (by omega)
    simp only [if_true] 
    generalize hx : (s + 6) % 6 = x at *
    have q7 : sb x := ⟨by omega, by omega⟩
    by_cases d1 : x < 0 ∨ 5 < x
    · rw [if_pos d1]
      rcases (show x < 0 ∨ ¬ x < 0 ∧ ¬ x ≤ 5 by omega) with d2 | ⟨d2, d3⟩
      · simp (maxDischargeDepth := 9) [EvS, stI, enI, caI, s_push, s_iload, s_aload, s_istore, s_astore, s_iinc, s_bin, s_div, s_i2l, s_lcmp, s_dup, s_dup2, s_pop, s_tab, s_look, s_get, s_put, s_iald, s_lald, s_aald, s_iast, s_last, s_aast, s_len, s_newa, s_new, s_thr, s_min, s_copy, s_obj, s_call, s_iret, s_aret, s_vret, go, ldI, lget_lput, nl_I, nl_R, lv_args, wsum, va_rf, hnd, cvr, cat_i, cat_r, cat_l, oi_of, oi_add, oi_sub, oA_ap, oA_u2, pi_lt, pi_le, pi_eq, pi_eq0, pi_lt0, pi_le0, pi_gt0, pi_ge0, pi_cl, sb_lit, fv4, isB01, nlt0, EvU_0, wO_ne, wL_ne, wC_ne, wN_ne, pO_ne, pU_ne, CN, LN, -Prod.exists, pi_ti, Op.lookupswitch.offset, EvU_at d140_0, EvU_at d140_1, EvU_at d140_2, EvU_at d140_3, EvU_at d140_5, EvU_at d140_6, EvU_at d140_8, EvU_at d140_10, EvU_at d140_12, EvU_at d140_15, EvU_at d140_16, EvU_at d140_19, EvU_at d140_21, EvU_at d140_23, EvU_at d140_24, EvU_at d140_26, EvU_at d140_27, EvU_at d140_30, EvU_at d140_32, EvU_at d140_34, EvU_at d140_36, EvU_at d140_39, EvU_at d140_41, EvU_at d140_42, EvU_at d140_45, EvU_at d140_46, EvU_at d140_47, EvU_at d140_48, EvU_at d140_51, EvU_at d140_53, EvU_at d140_54, EvU_at d140_55, EvU_at d140_58, EvU_at d140_60, EvU_at d140_61, EvU_at d140_63, EvU_at d140_64, EvU_at d140_65, EvU_at d140_67, EvU_at d140_70, EvU_at d140_73, EvU_at d140_74, Z140, LyS hL, LyG hL, hA, g, g0, g2, g3, g4, g5, q0, q1, q2, q3, q7, d2, q4]
      · simp (maxDischargeDepth := 9) [EvS, stI, enI, caI, s_push, s_iload, s_aload, s_istore, s_astore, s_iinc, s_bin, s_div, s_i2l, s_lcmp, s_dup, s_dup2, s_pop, s_tab, s_look, s_get, s_put, s_iald, s_lald, s_aald, s_iast, s_last, s_aast, s_len, s_newa, s_new, s_thr, s_min, s_copy, s_obj, s_call, s_iret, s_aret, s_vret, go, ldI, lget_lput, nl_I, nl_R, lv_args, wsum, va_rf, hnd, cvr, cat_i, cat_r, cat_l, oi_of, oi_add, oi_sub, oA_ap, oA_u2, pi_lt, pi_le, pi_eq, pi_eq0, pi_lt0, pi_le0, pi_gt0, pi_ge0, pi_cl, sb_lit, fv4, isB01, nlt0, EvU_0, wO_ne, wL_ne, wC_ne, wN_ne, pO_ne, pU_ne, CN, LN, -Prod.exists, pi_ti, Op.lookupswitch.offset, EvU_at d140_0, EvU_at d140_1, EvU_at d140_2, EvU_at d140_3, EvU_at d140_5, EvU_at d140_6, EvU_at d140_8, EvU_at d140_10, EvU_at d140_12, EvU_at d140_15, EvU_at d140_16, EvU_at d140_19, EvU_at d140_21, EvU_at d140_23, EvU_at d140_24, EvU_at d140_26, EvU_at d140_27, EvU_at d140_30, EvU_at d140_32, EvU_at d140_34, EvU_at d140_36, EvU_at d140_39, EvU_at d140_41, EvU_at d140_42, EvU_at d140_45, EvU_at d140_46, EvU_at d140_47, EvU_at d140_48, EvU_at d140_51, EvU_at d140_53, EvU_at d140_54, EvU_at d140_55, EvU_at d140_58, EvU_at d140_60, EvU_at d140_61, EvU_at d140_63, EvU_at d140_64, EvU_at d140_65, EvU_at d140_67, EvU_at d140_70, EvU_at d140_73, EvU_at d140_74, Z140, LyS hL, LyG hL, hA, g, g0, g2, g3, g4, g5, q0, q1, q2, q3, q7, d2, d3, q4]
    · rw [if_neg d1]
      have d2 : ¬ x < 0 := by omega
      have d3 : x ≤ 5 := by omega
      have d4 : ¬ 6 ≤ x.toNat := by omega
      have x1 := h.R.slot x.toNat (by omega)
      have hb := hk.2.1 x.toNat (by omega)
      have q8 : sb (B 4 x.toNat) := x1 ▸ hA _ _
      by_cases d5 : k.testBit x.toNat = true
      · have d6 : ¬ B 4 x.toNat = -1 := hb.mpr d5
        rw [if_pos d5]
        simp (maxDischargeDepth := 9) [EvS, stI, enI, caI, s_push, s_iload, s_aload, s_istore, s_astore, s_iinc, s_bin, s_div, s_i2l, s_lcmp, s_dup, s_dup2, s_pop, s_tab, s_look, s_get, s_put, s_iald, s_lald, s_aald, s_iast, s_last, s_aast, s_len, s_newa, s_new, s_thr, s_min, s_copy, s_obj, s_call, s_iret, s_aret, s_vret, go, ldI, lget_lput, nl_I, nl_R, lv_args, wsum, va_rf, hnd, cvr, cat_i, cat_r, cat_l, oi_of, oi_add, oi_sub, oA_ap, oA_u2, pi_lt, pi_le, pi_eq, pi_eq0, pi_lt0, pi_le0, pi_gt0, pi_ge0, pi_cl, sb_lit, fv4, isB01, nlt0, EvU_0, wO_ne, wL_ne, wC_ne, wN_ne, pO_ne, pU_ne, CN, LN, -Prod.exists, pi_ti, Op.lookupswitch.offset, EvU_at d140_0, EvU_at d140_1, EvU_at d140_2, EvU_at d140_3, EvU_at d140_5, EvU_at d140_6, EvU_at d140_8, EvU_at d140_10, EvU_at d140_12, EvU_at d140_15, EvU_at d140_16, EvU_at d140_19, EvU_at d140_21, EvU_at d140_23, EvU_at d140_24, EvU_at d140_26, EvU_at d140_27, EvU_at d140_30, EvU_at d140_32, EvU_at d140_34, EvU_at d140_36, EvU_at d140_39, EvU_at d140_41, EvU_at d140_42, EvU_at d140_45, EvU_at d140_46, EvU_at d140_47, EvU_at d140_48, EvU_at d140_51, EvU_at d140_53, EvU_at d140_54, EvU_at d140_55, EvU_at d140_58, EvU_at d140_60, EvU_at d140_61, EvU_at d140_63, EvU_at d140_64, EvU_at d140_65, EvU_at d140_67, EvU_at d140_70, EvU_at d140_73, EvU_at d140_74, Z140, LyS hL, LyG hL, hA, g, g0, g2, g3, g4, g5, q0, q1, q2, q3, q7, q8, x1, d2, d3, d4, d6, q4]
      · have d6 : B 4 x.toNat = -1 := Classical.not_not.mp (fun e => d5 (hb.mp e))
        rw [if_neg d5]
        simp (maxDischargeDepth := 9) [EvS, stI, enI, caI, s_push, s_iload, s_aload, s_istore, s_astore, s_iinc, s_bin, s_div, s_i2l, s_lcmp, s_dup, s_dup2, s_pop, s_tab, s_look, s_get, s_put, s_iald, s_lald, s_aald, s_iast, s_last, s_aast, s_len, s_newa, s_new, s_thr, s_min, s_copy, s_obj, s_call, s_iret, s_aret, s_vret, go, ldI, lget_lput, nl_I, nl_R, lv_args, wsum, va_rf, hnd, cvr, cat_i, cat_r, cat_l, oi_of, oi_add, oi_sub, oA_ap, oA_u2, pi_lt, pi_le, pi_eq, pi_eq0, pi_lt0, pi_le0, pi_gt0, pi_ge0, pi_cl, sb_lit, fv4, isB01, nlt0, EvU_0, wO_ne, wL_ne, wC_ne, wN_ne, pO_ne, pU_ne, CN, LN, -Prod.exists, pi_ti, Op.lookupswitch.offset, EvU_at d140_0, EvU_at d140_1, EvU_at d140_2, EvU_at d140_3, EvU_at d140_5, EvU_at d140_6, EvU_at d140_8, EvU_at d140_10, EvU_at d140_12, EvU_at d140_15, EvU_at d140_16, EvU_at d140_19, EvU_at d140_21, EvU_at d140_23, EvU_at d140_24, EvU_at d140_26, EvU_at d140_27, EvU_at d140_30, EvU_at d140_32, EvU_at d140_34, EvU_at d140_36, EvU_at d140_39, EvU_at d140_41, EvU_at d140_42, EvU_at d140_45, EvU_at d140_46, EvU_at d140_47, EvU_at d140_48, EvU_at d140_51, EvU_at d140_53, EvU_at d140_54, EvU_at d140_55, EvU_at d140_58, EvU_at d140_60, EvU_at d140_61, EvU_at d140_63, EvU_at d140_64, EvU_at d140_65, EvU_at d140_67, EvU_at d140_70, EvU_at d140_73, EvU_at d140_74, Z140, LyS hL, LyG hL, hA, g, g0, g2, g3, g4, g5, q0, q1, q2, q3, q7, x1, d2, d3, d4, d6, q4]
        refine ih (j + 1) (x + v) _ (by omega) (by omega) (by omega) ?_ ?_ ?_ ?_ ?_ ?_
        · simp (maxDischargeDepth := 9) [lget_lput, nl_I, nl_R, g]
        · simp (maxDischargeDepth := 9) [lget_lput, nl_I, nl_R, g, g0]
        · simp (maxDischargeDepth := 9) [lget_lput, nl_I, nl_R, g, g2]
        · simp (maxDischargeDepth := 9) [lget_lput, nl_I, nl_R, g, g3]
        · simp (maxDischargeDepth := 9) [lget_lput, nl_I, nl_R, g]
        · simp (maxDischargeDepth := 9) [lget_lput, nl_I, nl_R, g]
set_option maxRecDepth 20000 in
theorem r_bes1 (hA : ∀ k j, sb (A k j)) (hL : Lay sh gr) (h : RW A B) {k : Nat} (hk : OrdAt B k) {v : Int} (hv : v = 1 ∨ v = -1) {s : Int} (s0 : -1 ≤ s + v) (s1 : s + v ≤ 6) : Ev (140, 0, [(0, .ref 199), (1, .int (oi s)), (2, .int (oi v)), (3, .int (oi 1))], [], (sh, oA A, gl, gr), sl) r ↔ r = (.inl (some (.int (oi (besF k v true 6 (s + v))))), (sh, oA A, gl, gr), sl) := by
  rw [EvU_iff (fun p => p == 8) 20]
  simp [EvS, stI, enI, caI, s_push, s_iload, s_aload, s_istore, s_astore, s_iinc, s_bin, s_div, s_i2l, s_lcmp, s_dup, s_dup2, s_pop, s_tab, s_look, s_get, s_put, s_iald, s_lald, s_aald, s_iast, s_last, s_aast, s_len, s_newa, s_new, s_thr, s_min, s_copy, s_obj, s_call, s_iret, s_aret, s_vret, go, ldI, lget, lput, lv_args, wsum, va_rf, hnd, cvr, cat_i, cat_r, cat_l, oi_of, oi_add, oi_sub, oA_ap, oA_u2, pi_lt, pi_le, pi_eq, pi_eq0, pi_lt0, pi_le0, pi_gt0, pi_ge0, pi_cl, sb_lit, fv4, isB01, nlt0, EvU_0, wO_ne, wL_ne, wC_ne, wN_ne, pO_ne, pU_ne, CN, LN, -Prod.exists, pi_ti, Op.lookupswitch.offset, EvU_at d140_0, EvU_at d140_1, EvU_at d140_2, EvU_at d140_3, EvU_at d140_5, EvU_at d140_6, EvU_at d140_8, EvU_at d140_10, EvU_at d140_12, EvU_at d140_15, EvU_at d140_16, EvU_at d140_19, EvU_at d140_21, EvU_at d140_23, EvU_at d140_24, EvU_at d140_26, EvU_at d140_27, EvU_at d140_30, EvU_at d140_32, EvU_at d140_34, EvU_at d140_36, EvU_at d140_39, EvU_at d140_41, EvU_at d140_42, EvU_at d140_45, EvU_at d140_46, EvU_at d140_47, EvU_at d140_48, EvU_at d140_51, EvU_at d140_53, EvU_at d140_54, EvU_at d140_55, EvU_at d140_58, EvU_at d140_60, EvU_at d140_61, EvU_at d140_63, EvU_at d140_64, EvU_at d140_65, EvU_at d140_67, EvU_at d140_70, EvU_at d140_73, EvU_at d140_74, Z140]
  refine l_bes1 hA hL h hk hv 6 0 _ _ rfl s0 s1 ?_ ?_ ?_ ?_ ?_ ?_
  · simp [nl, cat_i, cat_r]
  · simp [lget, cat_i, cat_r]
  · simp [lget, cat_i, cat_r]
  · simp [lget, cat_i, cat_r]
  · simp [lget, cat_i, cat_r]
  · simp [lget, cat_i, cat_r]
def oM (k i : Nat) : Int := ((ordM k).getD i 0 : Nat)
theorem bes_f : ∀ k, k < 64 → ∀ i, i < 6 → i < (ordM k).length → besF k (-1) false 6 (oM k i + -1) = (if i = 0 then -1 else oM k (i - 1)) ∧ besF k 1 false 6 (oM k i + 1) = (if i + 1 = (ordM k).length then -1 else oM k (i + 1)) ∧ besF k (-1) false 6 (6 + -1) = oM k ((ordM k).length - 1) ∧ besF k 1 true 6 (oM k i + 1) = (if i + 1 = (ordM k).length then oM k 0 else oM k (i + 1)) := by decide +kernel
/-- the notch in a slot's window -/
def nt (B : Nat → Nat → Int) (s : Nat) : Int := B (wN (B 4 s).toNat) (B 14 s).toNat
theorem nB_nt {k : Nat} (hk : OrdAt B k) {i : Nat} (hi : i < (ordM k).length) : nB B i = nt B ((ordM k).getD i 0) := by
  unfold nB nt
  rw [hk.2.2.2 i hi, Int.toNat_natCast]
def allF (B : Nat → Nat → Int) : Nat → Nat → Int → Int
  | 0, _, x => x
  | n + 1, s, x => allF B n (s + 1) (if x = 0 then 0 else if B 4 s = -1 then 1 else nt B s)
theorem nt01 (h : RW A B) {s : Nat} (hs : s < 6) (hw : B 4 s ≠ -1) : nt B s = 0 ∨ nt B s = 1 := by
  have s1 := h.M.slot s hs
  have s2 := h.C.pos s hs
  have s3 := h.M.m
  exact h.M.notch _ (by omega) _ (by omega)
set_option maxRecDepth 20000 in
theorem l_all (hA : ∀ k j, sb (A k j)) (hL : Lay sh gr) (h : RW A B) {t : Nat} (ht : t ≤ 6) : ∀ (n s : Nat) (x : Int) (ls : Lc), s + n = t → (x = 0 ∨ x = 1) → nl ls = true → lget ls 0 = some (.ref 199) → lget ls 1 = some (.int (oi (t : Int))) → lget ls 2 = some (.int (oi x)) → lget ls 3 = some (.int (oi (s : Int))) →
    (Ev (141, 4, ls, [], (sh, oA A, gl, gr), sl) r ↔ r = (.inl (some (.int (oi (allF B n s x)))), (sh, oA A, gl, gr), sl)) := by
  have q3 : sb (t : Int) := ⟨by omega, by omega⟩
  intro n
  induction n with
  | zero =>
    intro s x ls hn hx g g0 g1 g2 g3
    obtain rfl : s = t := by omega
    have e2 := isB_oi hx
    rw [EvU_iff (fun _ => false) 10]
    simp (maxDischargeDepth := 9) [EvS, stI, enI, caI, s_push, s_iload, s_aload, s_istore, s_astore, s_iinc, s_bin, s_div, s_i2l, s_lcmp, s_dup, s_dup2, s_pop, s_tab, s_look, s_get, s_put, s_iald, s_lald, s_aald, s_iast, s_last, s_aast, s_len, s_newa, s_new, s_thr, s_min, s_copy, s_obj, s_call, s_iret, s_aret, s_vret, go, ldI, lget_lput, nl_I, nl_R, lv_args, wsum, va_rf, hnd, cvr, cat_i, cat_r, cat_l, oi_of, oi_add, oi_sub, oA_ap, oA_u2, pi_lt, pi_le, pi_eq, pi_eq0, pi_lt0, pi_le0, pi_gt0, pi_ge0, pi_cl, sb_lit, fv4, isB01, nlt0, EvU_0, wO_ne, wL_ne, wC_ne, wN_ne, pO_ne, pU_ne, CN, LN, -Prod.exists, pi_ti, Op.lookupswitch.offset, EvU_at d141_0, EvU_at d141_1, EvU_at d141_2, EvU_at d141_3, EvU_at d141_4, EvU_at d141_5, EvU_at d141_6, EvU_at d141_9, EvU_at d141_10, EvU_at d141_13, EvU_at d141_14, EvU_at d141_17, EvU_at d141_18, EvU_at d141_19, EvU_at d141_20, EvU_at d141_23, EvU_at d141_24, EvU_at d141_25, EvU_at d141_28, EvU_at d141_31, EvU_at d141_32, EvU_at d141_35, EvU_at d141_36, EvU_at d141_37, EvU_at d141_40, EvU_at d141_43, EvU_at d141_44, Z141, LyS hL, LyG hL, hA, g, g0, g1, g2, g3, q3, e2, allF]
  | succ n ih =>
    intro s x ls hn hx g g0 g1 g2 g3
    have hs : s < 6 := by omega
    have q0 : sb (s : Int) := ⟨by omega, by omega⟩
    have q1 : ¬ (t : Int) ≤ (s : Int) := by omega
    have q2 : ¬ t ≤ s := by omega
    have q4 : ¬ 6 ≤ s := by omega
    have x1 := h.R.slot s hs
    have q8 : sb (B 4 s) := x1 ▸ hA _ _
    have fin : ∀ y : Int, (y = 0 ∨ y = 1) → (Ev (141, 4, lput (lput ls 2 (.int (oi y))) 3 (.int (oi ((s : Int) + 1))), [], (sh, oA A, gl, gr), sl) r ↔ r = (.inl (some (.int (oi (allF B n (s + 1) y)))), (sh, oA A, gl, gr), sl)) := by
      intro y hy
      refine ih (s + 1) y _ (by omega) hy ?_ ?_ ?_ ?_ ?_
      · simp (maxDischargeDepth := 9) [lget_lput, nl_I, nl_R, g]
      · simp (maxDischargeDepth := 9) [lget_lput, nl_I, nl_R, g, g0]
      · simp (maxDischargeDepth := 9) [lget_lput, nl_I, nl_R, g, g1]
      · simp (maxDischargeDepth := 9) [lget_lput, nl_I, nl_R, g]
      · simp (maxDischargeDepth := 9) [lget_lput, nl_I, nl_R, g]
    have f0 := fin 0 (Or.inl rfl)
    have f1 := fin 1 (Or.inr rfl)
    rw [EvU_iff (fun _ => false) 1]
    simp (maxDischargeDepth := 9) [EvS, stI, enI, caI, s_push, s_iload, s_aload, s_istore, s_astore, s_iinc, s_bin, s_div, s_i2l, s_lcmp, s_dup, s_dup2, s_pop, s_tab, s_look, s_get, s_put, s_iald, s_lald, s_aald, s_iast, s_last, s_aast, s_len, s_newa, s_new, s_thr, s_min, s_copy, s_obj, s_call, s_iret, s_aret, s_vret, go, ldI, lget_lput, nl_I, nl_R, lv_args, wsum, va_rf, hnd, cvr, cat_i, cat_r, cat_l, oi_of, oi_add, oi_sub, oA_ap, oA_u2, pi_lt, pi_le, pi_eq, pi_eq0, pi_lt0, pi_le0, pi_gt0, pi_ge0, pi_cl, sb_lit, fv4, isB01, nlt0, EvU_0, wO_ne, wL_ne, wC_ne, wN_ne, pO_ne, pU_ne, CN, LN, -Prod.exists, pi_ti, Op.lookupswitch.offset, EvU_at d141_0, EvU_at d141_1, EvU_at d141_2, EvU_at d141_3, EvU_at d141_4, EvU_at d141_5, EvU_at d141_6, EvU_at d141_9, EvU_at d141_10, EvU_at d141_13, EvU_at d141_14, EvU_at d141_17, EvU_at d141_18, EvU_at d141_19, EvU_at d141_20, EvU_at d141_23, EvU_at d141_24, EvU_at d141_25, EvU_at d141_28, EvU_at d141_31, EvU_at d141_32, EvU_at d141_35, EvU_at d141_36, EvU_at d141_37, EvU_at d141_40, EvU_at d141_43, EvU_at d141_44, Z141, LyS hL, LyG hL, hA, g, g0, g1, g2, g3, q0]
    rw [EvU_iff (fun p => p == 4) 60, allF]
    rcases hx with rfl | rfl
    · simp (maxDischargeDepth := 9) [EvS, stI, enI, caI, s_push, s_iload, s_aload, s_istore, s_astore, s_iinc, s_bin, s_div, s_i2l, s_lcmp, s_dup, s_dup2, s_pop, s_tab, s_look, s_get, s_put, s_iald, s_lald, s_aald, s_iast, s_last, s_aast, s_len, s_newa, s_new, s_thr, s_min, s_copy, s_obj, s_call, s_iret, s_aret, s_vret, go, ldI, lget_lput, nl_I, nl_R, lv_args, wsum, va_rf, hnd, cvr, cat_i, cat_r, cat_l, oi_of, oi_add, oi_sub, oA_ap, oA_u2, pi_lt, pi_le, pi_eq, pi_eq0, pi_lt0, pi_le0, pi_gt0, pi_ge0, pi_cl, sb_lit, fv4, isB01, nlt0, EvU_0, wO_ne, wL_ne, wC_ne, wN_ne, pO_ne, pU_ne, CN, LN, -Prod.exists, pi_ti, Op.lookupswitch.offset, EvU_at d141_0, EvU_at d141_1, EvU_at d141_2, EvU_at d141_3, EvU_at d141_4, EvU_at d141_5, EvU_at d141_6, EvU_at d141_9, EvU_at d141_10, EvU_at d141_13, EvU_at d141_14, EvU_at d141_17, EvU_at d141_18, EvU_at d141_19, EvU_at d141_20, EvU_at d141_23, EvU_at d141_24, EvU_at d141_25, EvU_at d141_28, EvU_at d141_31, EvU_at d141_32, EvU_at d141_35, EvU_at d141_36, EvU_at d141_37, EvU_at d141_40, EvU_at d141_43, EvU_at d141_44, Z141, LyS hL, LyG hL, hA, g, g0, g1, g2, g3, q0, q1, q2, q3, q4, f0]
    · by_cases cc : B 4 s = -1
      · simp (maxDischargeDepth := 9) [EvS, stI, enI, caI, s_push, s_iload, s_aload, s_istore, s_astore, s_iinc, s_bin, s_div, s_i2l, s_lcmp, s_dup, s_dup2, s_pop, s_tab, s_look, s_get, s_put, s_iald, s_lald, s_aald, s_iast, s_last, s_aast, s_len, s_newa, s_new, s_thr, s_min, s_copy, s_obj, s_call, s_iret, s_aret, s_vret, go, ldI, lget_lput, nl_I, nl_R, lv_args, wsum, va_rf, hnd, cvr, cat_i, cat_r, cat_l, oi_of, oi_add, oi_sub, oA_ap, oA_u2, pi_lt, pi_le, pi_eq, pi_eq0, pi_lt0, pi_le0, pi_gt0, pi_ge0, pi_cl, sb_lit, fv4, isB01, nlt0, EvU_0, wO_ne, wL_ne, wC_ne, wN_ne, pO_ne, pU_ne, CN, LN, -Prod.exists, pi_ti, Op.lookupswitch.offset, EvU_at d141_0, EvU_at d141_1, EvU_at d141_2, EvU_at d141_3, EvU_at d141_4, EvU_at d141_5, EvU_at d141_6, EvU_at d141_9, EvU_at d141_10, EvU_at d141_13, EvU_at d141_14, EvU_at d141_17, EvU_at d141_18, EvU_at d141_19, EvU_at d141_20, EvU_at d141_23, EvU_at d141_24, EvU_at d141_25, EvU_at d141_28, EvU_at d141_31, EvU_at d141_32, EvU_at d141_35, EvU_at d141_36, EvU_at d141_37, EvU_at d141_40, EvU_at d141_43, EvU_at d141_44, Z141, LyS hL, LyG hL, hA, g, g0, g1, g2, g3, q0, q1, q2, q3, q4, x1, cc, f1]
      · have t1 := fun (sl : Nat) (r : Out) => r_notch (gl := gl) (sl := sl) (r := r) hA hL h hs cc
        have t2 : nt B s = B (wN (B 4 s).toNat) (B 14 s).toNat := rfl
        rw [← t2] at t1
        rcases nt01 h hs cc with e | e
        · rw [e] at t1
          simp (maxDischargeDepth := 9) [EvS, stI, enI, caI, s_push, s_iload, s_aload, s_istore, s_astore, s_iinc, s_bin, s_div, s_i2l, s_lcmp, s_dup, s_dup2, s_pop, s_tab, s_look, s_get, s_put, s_iald, s_lald, s_aald, s_iast, s_last, s_aast, s_len, s_newa, s_new, s_thr, s_min, s_copy, s_obj, s_call, s_iret, s_aret, s_vret, go, ldI, lget_lput, nl_I, nl_R, lv_args, wsum, va_rf, hnd, cvr, cat_i, cat_r, cat_l, oi_of, oi_add, oi_sub, oA_ap, oA_u2, pi_lt, pi_le, pi_eq, pi_eq0, pi_lt0, pi_le0, pi_gt0, pi_ge0, pi_cl, sb_lit, fv4, isB01, nlt0, EvU_0, wO_ne, wL_ne, wC_ne, wN_ne, pO_ne, pU_ne, CN, LN, -Prod.exists, pi_ti, Op.lookupswitch.offset, EvU_at d141_0, EvU_at d141_1, EvU_at d141_2, EvU_at d141_3, EvU_at d141_4, EvU_at d141_5, EvU_at d141_6, EvU_at d141_9, EvU_at d141_10, EvU_at d141_13, EvU_at d141_14, EvU_at d141_17, EvU_at d141_18, EvU_at d141_19, EvU_at d141_20, EvU_at d141_23, EvU_at d141_24, EvU_at d141_25, EvU_at d141_28, EvU_at d141_31, EvU_at d141_32, EvU_at d141_35, EvU_at d141_36, EvU_at d141_37, EvU_at d141_40, EvU_at d141_43, EvU_at d141_44, Z141, Z142, LyS hL, LyG hL, hA, g, g0, g1, g2, g3, q0, q1, q2, q3, q4, q8, x1, cc, t1, e, f0]
        · rw [e] at t1
          simp (maxDischargeDepth := 9) [EvS, stI, enI, caI, s_push, s_iload, s_aload, s_istore, s_astore, s_iinc, s_bin, s_div, s_i2l, s_lcmp, s_dup, s_dup2, s_pop, s_tab, s_look, s_get, s_put, s_iald, s_lald, s_aald, s_iast, s_last, s_aast, s_len, s_newa, s_new, s_thr, s_min, s_copy, s_obj, s_call, s_iret, s_aret, s_vret, go, ldI, lget_lput, nl_I, nl_R, lv_args, wsum, va_rf, hnd, cvr, cat_i, cat_r, cat_l, oi_of, oi_add, oi_sub, oA_ap, oA_u2, pi_lt, pi_le, pi_eq, pi_eq0, pi_lt0, pi_le0, pi_gt0, pi_ge0, pi_cl, sb_lit, fv4, isB01, nlt0, EvU_0, wO_ne, wL_ne, wC_ne, wN_ne, pO_ne, pU_ne, CN, LN, -Prod.exists, pi_ti, Op.lookupswitch.offset, EvU_at d141_0, EvU_at d141_1, EvU_at d141_2, EvU_at d141_3, EvU_at d141_4, EvU_at d141_5, EvU_at d141_6, EvU_at d141_9, EvU_at d141_10, EvU_at d141_13, EvU_at d141_14, EvU_at d141_17, EvU_at d141_18, EvU_at d141_19, EvU_at d141_20, EvU_at d141_23, EvU_at d141_24, EvU_at d141_25, EvU_at d141_28, EvU_at d141_31, EvU_at d141_32, EvU_at d141_35, EvU_at d141_36, EvU_at d141_37, EvU_at d141_40, EvU_at d141_43, EvU_at d141_44, Z141, Z142, LyS hL, LyG hL, hA, g, g0, g1, g2, g3, q0, q1, q2, q3, q4, q8, x1, cc, t1, e, f1]
set_option maxRecDepth 20000 in
theorem r_all (hA : ∀ k j, sb (A k j)) (hL : Lay sh gr) (h : RW A B) {t : Nat} (ht : t ≤ 6) : Ev (141, 0, [(0, .ref 199), (1, .int (oi (t : Int)))], [], (sh, oA A, gl, gr), sl) r ↔ r = (.inl (some (.int (oi (allF B t 0 1)))), (sh, oA A, gl, gr), sl) := by
  rw [EvU_iff (fun p => p == 4) 20]
  simp [EvS, stI, enI, caI, s_push, s_iload, s_aload, s_istore, s_astore, s_iinc, s_bin, s_div, s_i2l, s_lcmp, s_dup, s_dup2, s_pop, s_tab, s_look, s_get, s_put, s_iald, s_lald, s_aald, s_iast, s_last, s_aast, s_len, s_newa, s_new, s_thr, s_min, s_copy, s_obj, s_call, s_iret, s_aret, s_vret, go, ldI, lget, lput, lv_args, wsum, va_rf, hnd, cvr, cat_i, cat_r, cat_l, oi_of, oi_add, oi_sub, oA_ap, oA_u2, pi_lt, pi_le, pi_eq, pi_eq0, pi_lt0, pi_le0, pi_gt0, pi_ge0, pi_cl, sb_lit, fv4, isB01, nlt0, EvU_0, wO_ne, wL_ne, wC_ne, wN_ne, pO_ne, pU_ne, CN, LN, -Prod.exists, pi_ti, Op.lookupswitch.offset, EvU_at d141_0, EvU_at d141_1, EvU_at d141_2, EvU_at d141_3, EvU_at d141_4, EvU_at d141_5, EvU_at d141_6, EvU_at d141_9, EvU_at d141_10, EvU_at d141_13, EvU_at d141_14, EvU_at d141_17, EvU_at d141_18, EvU_at d141_19, EvU_at d141_20, EvU_at d141_23, EvU_at d141_24, EvU_at d141_25, EvU_at d141_28, EvU_at d141_31, EvU_at d141_32, EvU_at d141_35, EvU_at d141_36, EvU_at d141_37, EvU_at d141_40, EvU_at d141_43, EvU_at d141_44, Z141]
  refine l_all hA hL h ht t 0 1 _ (by omega) (Or.inr rfl) ?_ ?_ ?_ ?_ ?_
  · simp [nl, cat_i, cat_r]
  · simp [lget, cat_i, cat_r]
  · simp [lget, cat_i, cat_r]
  · simp [lget, cat_i, cat_r]
  · simp [lget, cat_i, cat_r]
/-- every one of a list -/
def lAll (f : Nat → Int) : List Nat → Int
  | [] => 1
  | s :: l => if f s = 0 then 0 else lAll f l
theorem allF_0 : ∀ n s : Nat, allF B n s 0 = 0 := by
  intro n
  induction n with
  | zero => exact fun s => rfl
  | succ n ih =>
    intro s
    rw [allF, if_pos rfl]
    exact ih _
theorem allF_l (h : RW A B) {k : Nat} (hk : OrdAt B k) : ∀ n s : Nat, s + n ≤ 6 → allF B n s 1 = lAll (nt B) ((List.range' s n).filter (fun s => k.testBit s)) := by
  intro n
  induction n with
  | zero => exact fun s _ => rfl
  | succ n ih =>
    intro s hs
    have hb := hk.2.1 s (by omega)
    rw [allF, if_neg (by omega), List.range'_succ, List.filter_cons]
    by_cases cc : B 4 s = -1
    · have : ¬ k.testBit s = true := fun e => (hb.mpr e) cc
      rw [if_pos cc, if_neg this]
      exact ih _ (by omega)
    · rw [if_neg cc, if_pos (hb.mp cc), lAll]
      rcases nt01 h (s := s) (by omega) cc with e | e
      · rw [e, if_pos rfl, allF_0]
      · rw [e, if_neg (by omega)]
        exact ih _ (by omega)
theorem beforeB_l (h : RW A B) {k : Nat} (hk : OrdAt B k) : ∀ n a : Nat, a + n ≤ (ordM k).length → beforeB B n a = lAll (nt B) (((ordM k).drop a).take n) := by
  intro n
  induction n with
  | zero =>
    intro a ha
    rw [List.take_zero]
    rfl
  | succ n ih =>
    intro a ha
    have hl : a < (ordM k).length := by omega
    have e : (ordM k).getD a 0 = (ordM k)[a] := by
      rw [List.getD_eq_getElem?_getD, List.getElem?_eq_getElem hl]
      rfl
    rw [beforeB, List.drop_eq_getElem_cons hl, List.take_succ_cons, lAll, nB_nt hk hl, e, ih (a + 1) (by omega)]
theorem ord_take : ∀ k, k < 64 → ∀ i, i < 6 → i < (ordM k).length → (List.range' 0 ((ordM k).getD i 0)).filter (fun s => k.testBit s) = ((ordM k).drop 0).take i := by decide +kernel
theorem all_before (h : RW A B) {k : Nat} (hk : OrdAt B k) {i : Nat} (hi : i < (ordM k).length) : allF B ((ordM k).getD i 0) 0 1 = beforeB B i 0 := by
  obtain ⟨o1, o2⟩ := ordM_lt k hk.1
  obtain ⟨o3, o4⟩ := o2 i (by omega) hi
  rw [allF_l h hk _ 0 (by omega), beforeB_l h hk _ 0 (by omega), ord_take k hk.1 i (by omega) hi]
end
