/-! replay -/
section
variable {A : Nat → Nat → Int}
theorem asF_c (A : Nat → Nat → Int) (i a b : Nat) : asF A i a b = if a = 15 ∧ b < 12 then (if 0 < A (pO b) 1 then A (gQ i) b % A (pO b) 1 else 0) else if a = 14 ∧ b < 6 then A (gP i) b else A a b := by
  unfold asF fillR rowC
  by_cases h1 : a = 15
  · subst h1
    by_cases h2 : b < 12
    · simp [h2]
    · simp [h2]
  · by_cases h3 : a = 14
    · subst h3
      by_cases h2 : b < 6
      · simp [h2]
      · simp [h2]
    · simp [h1, h3]
theorem asF_ne (A : Nat → Nat → Int) (i : Nat) {a : Nat} (h1 : a ≠ 14) (h2 : a ≠ 15) (b : Nat) : asF A i a b = A a b := by
  rw [asF_c, if_neg (fun h => h2 h.1), if_neg (fun h => h1 h.1)]
theorem CO.as (h : CO A) {i : Nat} (hi : (i : Int) < A 74 1) : CO (asF A i) := by
  refine ⟨h.M.cg (fun a b _ h1 h2 => asF_ne A i h1 h2 b), ?_, h.U.cg (fun b => asF_ne A i (by omega) (by omega) b) (fun b => asF_ne A i (by omega) (by omega) b), h.G.cg (asF_ne A i (by omega) (by omega) 9) (fun a b _ _ => asF_ne A i (by omega) (by omega) b)⟩
  obtain ⟨b1, b2⟩ := h.G.bg i hi
  refine ⟨fun s hs => ?_, fun k hk => ?_⟩
  · rw [asF_ne A i (by omega) (by omega) 9, asF_c, if_neg (by omega), if_pos ⟨rfl, hs⟩]
    exact b1 s hs
  · have h2 := h.M.len k hk
    have h3 := b2 k hk
    rw [asF_ne A i (by unfold pO; omega) (by unfold pO; omega) 1, asF_c, if_pos ⟨rfl, hk⟩]
    by_cases c : 0 < A (pO k) 1
    · rw [if_pos c]
      exact ⟨Int.emod_nonneg _ (by omega), fun _ => Int.emod_lt_of_pos _ c, fun e => by omega⟩
    · rw [if_neg c]
      exact ⟨by omega, fun e => absurd e c, fun _ => rfl⟩
theorem CO.sbas (h : CO A) (hA : ∀ k j, sb (A k j)) {i : Nat} : ∀ k j, sb (asF A i k j) := by
  intro k j
  rw [asF_c]
  split
  · rename_i c
    have h2 := h.M.len j c.2
    split
    · rename_i c2
      have e1 := Int.emod_nonneg (A (gQ i) j) (show A (pO j) 1 ≠ 0 by omega)
      have e2 := Int.emod_lt_of_pos (A (gQ i) j) c2
      exact ⟨by omega, by omega⟩
    · exact ⟨by omega, by omega⟩
  · split
    · exact hA _ _
    · exact hA _ _
end
section
variable {sh : List (Nat × Nat)} {A : Nat → Nat → Int} {gl : Nat → Nat → Int64} {gr : Nat → Nat → Option Nat} {sl : Nat} {r : Out}
/-- a message's keys again, from its start -/
def repF (A : Nat → Nat → Int) (i : Nat) : Int × (Nat → Nat → Int) := othF i (A (gO i) 3).toNat 0 (asF (keepF A) i)
set_option maxRecDepth 20000 in
theorem p_replay (hA : ∀ k j, sb (A k j)) (hL : Lay sh gr) (hC : sh.length ≤ mxC) (hS : sl + 6 ≤ mxS) (hO : CO A) {x : Int} (hx : sb x) : Ev (106, 0, [(0, .ref 1), (1, .int (oi x))], [], (sh, oA A, gl, gr), sl) r ↔
    r = if ¬ (0 ≤ x ∧ x < A 74 1) then thrw 2 (sh, oA A, gl, gr) sl else if ¬ (¬ (A 74 2 ≠ 0 ∧ x = A 74 1 - 1)) then thrw 1 (sh, oA A, gl, gr) sl else (.inl (some (.int (oi (repF A x.toNat).1))), (sh, oA (bringF (repF A x.toNat).2), gl, gr), sl) := by
  rw [EvU_iff (fun _ => false) 60]
  have f1 := hO.G.ms
  have ir := fun (sl : Nat) (r : Out) => m_isRunning (gl := gl) (sl := sl) (r := r) hA hL hx f1
  by_cases c1 : 0 ≤ x ∧ x < A 74 1
  · have n1 := m_need_ok (n := (A 74 1)) (show sm x from hx) (show sm (A 74 1) from hA _ _) c1.1 c1.2
    obtain ⟨i, rfl⟩ : ∃ n : Nat, x = (n : Int) := ⟨x.toNat, by omega⟩
    have hi : i < 20 := by omega
    have k2 : ¬ 20 ≤ i := by omega
    by_cases c2 : ¬ (A 74 2 ≠ 0 ∧ (i : Int) = A 74 1 - 1)
    · rw [if_neg c2] at ir
      have e1 : ∀ a b, a < 196 → keepF A a b = A a b := fun a b ha => by
        unfold keepF rowC
        rw [if_neg (by omega), if_neg (by omega)]
      have hO1 := hO.keep
      have hi1 : (i : Int) < keepF A 74 1 := by rw [e1 _ _ (by omega)]; exact c1.2
      have s1 := fun (sl : Nat) (r : Out) => m_copy (gl := gl) (sl := sl) (r := r) (A := A) (St_k hL) (St_m hL)
      have s2 := fun (sl : Nat) (r : Out) => m_as (gl := gl) (sl := sl) (r := r) (sb_keep hA) hL hi (fun j hj => ⟨(hO1.M.len j hj).1, (hO1.G.bg i hi1).2 j hj⟩)
      have s3 := fun (sl : Nat) (r : Out) => m_oth (gl := gl) (sl := sl) (r := r) (hO1.sbas (sb_keep hA)) hL (hO1.as hi1) hi (by rw [asF_ne _ _ (by omega) (by omega)]; exact hi1)
      have s4 := fun (A : Nat → Nat → Int) (sl : Nat) (r : Out) => m_copy (gl := gl) (sl := sl) (r := r) (A := A) (St_m hL) (St_k hL)
      have e2 : asF (keepF A) i (gO i) 3 = A (gO i) 3 := by
        rw [asF_ne _ _ (by unfold gO; omega) (by unfold gO; omega), e1 _ _ (by unfold gO; omega)]
      rw [e2] at s3
      rw [if_neg (fun h => h c1), if_neg (fun h => h c2)]
      unfold repF keepF bringF at *
      simp [EvS, stI, enI, caI, s_push, s_iload, s_aload, s_istore, s_astore, s_iinc, s_bin, s_div, s_i2l, s_lcmp, s_dup, s_dup2, s_pop, s_tab, s_look, s_get, s_put, s_iald, s_lald, s_aald, s_iast, s_last, s_aast, s_len, s_newa, s_new, s_thr, s_min, s_copy, s_obj, s_call, s_iret, s_aret, s_vret, go, ldI, lget, lput, lv_args, wsum, va_rf, hnd, cvr, cat_i, cat_r, cat_l, oi_of, oi_add, oi_sub, oA_ap, oA_u2, pi_lt, pi_le, pi_eq, pi_eq0, pi_lt0, pi_le0, pi_gt0, pi_ge0, pi_cl, sb_lit, fv4, isB01, nlt0, EvU_0, wO_ne, wL_ne, wC_ne, wN_ne, pO_ne, pU_ne, CN, LN, -Prod.exists, pi_ti, Op.lookupswitch.offset, EvU_at d106_0, EvU_at d106_1, EvU_at d106_2, EvU_at d106_5, EvU_at d106_8, EvU_at d106_11, EvU_at d106_12, EvU_at d106_15, EvU_at d106_16, EvU_at d106_19, EvU_at d106_22, EvU_at d106_25, EvU_at d106_26, EvU_at d106_28, EvU_at d106_31, EvU_at d106_32, EvU_at d106_33, EvU_at d106_36, EvU_at d106_37, EvU_at d106_40, EvU_at d106_43, EvU_at d106_46, EvU_at d106_47, EvU_at d106_50, EvU_at d106_51, EvU_at d106_54, EvU_at d106_57, EvU_at d106_58, EvU_at d106_59, EvU_at d106_62, EvU_at d106_65, EvU_at d106_66, EvU_at d106_67, EvU_at d106_70, EvU_at d106_73, EvU_at d106_74, EvU_at d106_75, EvU_at d106_78, EvU_at d106_79, EvU_at d106_80, EvU_at d106_83, EvU_at d106_86, EvU_at d106_87, EvU_at d106_90, EvU_at d106_93, EvU_at d106_94, Z106, Z34, Z107, Z94, Z108, Z109, LyS hL, LyG hL, LyM hL hi, hA, hx, n1, k2, ir, s1, s2, s3, s4]
    · rw [if_pos (Classical.not_not.mp c2)] at ir
      rw [if_neg (fun h => h c1), if_pos c2]
      simp [EvS, stI, enI, caI, s_push, s_iload, s_aload, s_istore, s_astore, s_iinc, s_bin, s_div, s_i2l, s_lcmp, s_dup, s_dup2, s_pop, s_tab, s_look, s_get, s_put, s_iald, s_lald, s_aald, s_iast, s_last, s_aast, s_len, s_newa, s_new, s_thr, s_min, s_copy, s_obj, s_call, s_iret, s_aret, s_vret, go, ldI, lget, lput, lv_args, wsum, va_rf, hnd, cvr, cat_i, cat_r, cat_l, oi_of, oi_add, oi_sub, oA_ap, oA_u2, pi_lt, pi_le, pi_eq, pi_eq0, pi_lt0, pi_le0, pi_gt0, pi_ge0, pi_cl, sb_lit, fv4, isB01, nlt0, EvU_0, wO_ne, wL_ne, wC_ne, wN_ne, pO_ne, pU_ne, CN, LN, -Prod.exists, pi_ti, Op.lookupswitch.offset, EvU_at d106_0, EvU_at d106_1, EvU_at d106_2, EvU_at d106_5, EvU_at d106_8, EvU_at d106_11, EvU_at d106_12, EvU_at d106_15, EvU_at d106_16, EvU_at d106_19, EvU_at d106_22, EvU_at d106_25, EvU_at d106_26, EvU_at d106_28, EvU_at d106_31, EvU_at d106_32, EvU_at d106_33, EvU_at d106_36, EvU_at d106_37, EvU_at d106_40, EvU_at d106_43, EvU_at d106_46, EvU_at d106_47, EvU_at d106_50, EvU_at d106_51, EvU_at d106_54, EvU_at d106_57, EvU_at d106_58, EvU_at d106_59, EvU_at d106_62, EvU_at d106_65, EvU_at d106_66, EvU_at d106_67, EvU_at d106_70, EvU_at d106_73, EvU_at d106_74, EvU_at d106_75, EvU_at d106_78, EvU_at d106_79, EvU_at d106_80, EvU_at d106_83, EvU_at d106_86, EvU_at d106_87, EvU_at d106_90, EvU_at d106_93, EvU_at d106_94, Z106, Z34, Z107, LyS hL, LyG hL, hA, hx, n1, ir, thrw, Nat.not_lt.mpr hC, Nat.not_lt.mpr hS]
  · have n1 := fun (r : Out) => m_need_no (n := (A 74 1)) (show sm x from hx) (show sm (A 74 1) from hA _ _) c1 (sh, oA A, gl, gr) sl r hC hS
    rw [if_pos c1]
    simp [EvS, stI, enI, caI, s_push, s_iload, s_aload, s_istore, s_astore, s_iinc, s_bin, s_div, s_i2l, s_lcmp, s_dup, s_dup2, s_pop, s_tab, s_look, s_get, s_put, s_iald, s_lald, s_aald, s_iast, s_last, s_aast, s_len, s_newa, s_new, s_thr, s_min, s_copy, s_obj, s_call, s_iret, s_aret, s_vret, go, ldI, lget, lput, lv_args, wsum, va_rf, hnd, cvr, cat_i, cat_r, cat_l, oi_of, oi_add, oi_sub, oA_ap, oA_u2, pi_lt, pi_le, pi_eq, pi_eq0, pi_lt0, pi_le0, pi_gt0, pi_ge0, pi_cl, sb_lit, fv4, isB01, nlt0, EvU_0, wO_ne, wL_ne, wC_ne, wN_ne, pO_ne, pU_ne, CN, LN, -Prod.exists, pi_ti, Op.lookupswitch.offset, EvU_at d106_0, EvU_at d106_1, EvU_at d106_2, EvU_at d106_5, EvU_at d106_8, EvU_at d106_11, EvU_at d106_12, EvU_at d106_15, EvU_at d106_16, EvU_at d106_19, EvU_at d106_22, EvU_at d106_25, EvU_at d106_26, EvU_at d106_28, EvU_at d106_31, EvU_at d106_32, EvU_at d106_33, EvU_at d106_36, EvU_at d106_37, EvU_at d106_40, EvU_at d106_43, EvU_at d106_46, EvU_at d106_47, EvU_at d106_50, EvU_at d106_51, EvU_at d106_54, EvU_at d106_57, EvU_at d106_58, EvU_at d106_59, EvU_at d106_62, EvU_at d106_65, EvU_at d106_66, EvU_at d106_67, EvU_at d106_70, EvU_at d106_73, EvU_at d106_74, EvU_at d106_75, EvU_at d106_78, EvU_at d106_79, EvU_at d106_80, EvU_at d106_83, EvU_at d106_86, EvU_at d106_87, EvU_at d106_90, EvU_at d106_93, EvU_at d106_94, Z106, Z34, LyS hL, LyG hL, hA, n1, thrw]
end
