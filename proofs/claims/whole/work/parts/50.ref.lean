/-! the reference: a step -/
section
variable {sh : List (Nat × Nat)} {A B : Nat → Nat → Int} {gl : Nat → Nat → Int64} {gr : Nat → Nat → Option Nat} {sl : Nat} {r : Out}
theorem ord_inj : ∀ k, k < 64 → ∀ i, i < 6 → i < (ordM k).length → (oM k i = oM k ((ordM k).length - 1) ↔ i = (ordM k).length - 1) := by decide +kernel
theorem ord_has : ∀ k, k < 64 → ∀ s, s < 6 → k.testBit s = true → ∃ i, i < (ordM k).length ∧ (ordM k).getD i 0 = s := by
  intro k hk s hs hb
  have h1 : s ∈ ordM k := List.mem_filter.mpr ⟨List.mem_range.mpr hs, hb⟩
  obtain ⟨i, hi, he⟩ := List.getElem_of_mem h1
  refine ⟨i, hi, ?_⟩
  rw [List.getD_eq_getElem?_getD, List.getElem?_eq_getElem hi]
  exact he
set_option maxRecDepth 20000 in
theorem r_steps (hA : ∀ k j, sb (A k j)) (hL : Lay sh gr) (h : RW A B) {k : Nat} (hk : OrdAt B k) {i : Nat} (hi : i < (ordM k).length) : Ev (139, 0, [(0, .ref 199), (1, .int (oi (oM k i)))], [], (sh, oA A, gl, gr), sl) r ↔ r = (.inl (some (.int (oi (stepB B i)))), (sh, oA A, gl, gr), sl) := by
  obtain ⟨o1, o2⟩ := ordM_lt k hk.1
  obtain ⟨o3, o4⟩ := o2 i (by omega) hi
  obtain ⟨f1, f2, f3, f4⟩ := bes_f k hk.1 i (by omega) hi
  have hlen := hk.2.2.1
  have hS : oM k i = ((ordM k).getD i 0 : Nat) := rfl
  have w0 : ∀ j, j < (ordM k).length → B 4 ((ordM k).getD j 0) ≠ -1 := by
    intro j hj
    obtain ⟨p1, p2⟩ := o2 j (by omega) hj
    exact (hk.2.1 _ p1).mpr p2
  have b1 := fun (sl : Nat) (r : Out) => r_bes0 (gl := gl) (sl := sl) (r := r) hA hL h hk (v := -1) (Or.inr rfl) (s := oM k i) (by omega) (by omega)
  have b2 := fun (sl : Nat) (r : Out) => r_bes0 (gl := gl) (sl := sl) (r := r) hA hL h hk (v := 1) (Or.inl rfl) (s := oM k i) (by omega) (by omega)
  have b3 := fun (sl : Nat) (r : Out) => r_bes0 (gl := gl) (sl := sl) (r := r) hA hL h hk (v := -1) (Or.inr rfl) (s := 6) (by omega) (by omega)
  have b4 := fun (sl : Nat) (r : Out) => r_bes1 (gl := gl) (sl := sl) (r := r) hA hL h hk (v := 1) (Or.inl rfl) (s := oM k i) (by omega) (by omega)
  rw [f1] at b1
  rw [f2] at b2
  rw [f3] at b3
  rw [f4] at b4
  have nt1 : ∀ j, j < (ordM k).length → ∀ (sl : Nat) (r : Out), Ev (142, 0, [(0, .ref 199), (1, .int (oi (oM k j)))], [], (sh, oA A, gl, gr), sl) r ↔ r = (.inl (some (.int (oi (nB B j)))), (sh, oA A, gl, gr), sl) := by
    intro j hj sl r
    rw [nB_nt hk hj]
    exact r_notch hA hL h (o2 j (by omega) hj).1 (w0 j hj)
  have nt2 : ∀ j, j < (ordM k).length → nB B j = 0 ∨ nB B j = 1 := by
    intro j hj
    rw [nB_nt hk hj]
    exact nt01 h (o2 j (by omega) hj).1 (w0 j hj)
  have so : ∀ j, j < (ordM k).length → sb (oM k j) ∧ ¬ oM k j = -1 := by
    intro j hj
    have := (o2 j (by omega) hj).1
    unfold oM
    exact ⟨⟨by omega, by omega⟩, by omega⟩
  have si := so i hi
  have x0 := h.R.rule
  have x1 := h.M.rule
  have x2 : sb (B 2 11) := ⟨by omega, by omega⟩
  have l9 : ((ordM k).length - 1) < (ordM k).length := by omega
  rw [EvU_iff (fun _ => false) 60]
  unfold stepB
  rcases (show B 2 11 = 0 ∨ B 2 11 = 1 ∨ B 2 11 = 2 ∨ B 2 11 = 3 ∨ B 2 11 = 4 by omega) with d | d | d | d | d
  · have al := fun (sl : Nat) (r : Out) => r_all (gl := gl) (sl := sl) (r := r) hA hL h (t := (ordM k).getD i 0) (by omega)
    rw [all_before h hk hi, ← hS] at al
    have al2 := isB_oi (beforeB01 (A := B) i 0)
    simp [EvS, stI, enI, caI, s_push, s_iload, s_aload, s_istore, s_astore, s_iinc, s_bin, s_div, s_i2l, s_lcmp, s_dup, s_dup2, s_pop, s_tab, s_look, s_get, s_put, s_iald, s_lald, s_aald, s_iast, s_last, s_aast, s_len, s_newa, s_new, s_thr, s_min, s_copy, s_obj, s_call, s_iret, s_aret, s_vret, go, ldI, lget, lput, lv_args, wsum, va_rf, hnd, cvr, cat_i, cat_r, cat_l, oi_of, oi_add, oi_sub, oA_ap, oA_u2, pi_lt, pi_le, pi_eq, pi_eq0, pi_lt0, pi_le0, pi_gt0, pi_ge0, pi_cl, sb_lit, fv4, isB01, nlt0, EvU_0, wO_ne, wL_ne, wC_ne, wN_ne, pO_ne, pU_ne, CN, LN, -Prod.exists, pi_ti, Op.lookupswitch.offset, EvU_at d139_0, EvU_at d139_1, EvU_at d139_2, EvU_at d139_3, EvU_at d139_4, EvU_at d139_7, EvU_at d139_8, EvU_at d139_9, EvU_at d139_10, EvU_at d139_11, EvU_at d139_12, EvU_at d139_15, EvU_at d139_16, EvU_at d139_17, EvU_at d139_19, EvU_at d139_20, EvU_at d139_21, EvU_at d139_24, EvU_at d139_26, EvU_at d139_27, EvU_at d139_30, EvU_at d139_60, EvU_at d139_61, EvU_at d139_62, EvU_at d139_65, EvU_at d139_66, EvU_at d139_67, EvU_at d139_68, EvU_at d139_71, EvU_at d139_72, EvU_at d139_73, EvU_at d139_76, EvU_at d139_79, EvU_at d139_80, EvU_at d139_81, EvU_at d139_84, EvU_at d139_87, EvU_at d139_88, EvU_at d139_89, EvU_at d139_92, EvU_at d139_93, EvU_at d139_96, EvU_at d139_97, EvU_at d139_98, EvU_at d139_99, EvU_at d139_100, EvU_at d139_101, EvU_at d139_102, EvU_at d139_103, EvU_at d139_106, EvU_at d139_109, EvU_at d139_112, EvU_at d139_113, EvU_at d139_116, EvU_at d139_117, EvU_at d139_118, EvU_at d139_119, EvU_at d139_122, EvU_at d139_123, EvU_at d139_124, EvU_at d139_127, EvU_at d139_128, EvU_at d139_129, EvU_at d139_132, EvU_at d139_135, EvU_at d139_136, EvU_at d139_139, EvU_at d139_140, EvU_at d139_141, EvU_at d139_142, EvU_at d139_144, EvU_at d139_147, EvU_at d139_148, EvU_at d139_150, EvU_at d139_153, EvU_at d139_156, EvU_at d139_157, EvU_at d139_160, EvU_at d139_161, Z139, Z140, Z142, LyS hL, LyG hL, hA, b1, b2, b3, x0, x2, d, si, Z141, al, al2]
  · by_cases i0 : i = 0
    · subst i0
      simp [EvS, stI, enI, caI, s_push, s_iload, s_aload, s_istore, s_astore, s_iinc, s_bin, s_div, s_i2l, s_lcmp, s_dup, s_dup2, s_pop, s_tab, s_look, s_get, s_put, s_iald, s_lald, s_aald, s_iast, s_last, s_aast, s_len, s_newa, s_new, s_thr, s_min, s_copy, s_obj, s_call, s_iret, s_aret, s_vret, go, ldI, lget, lput, lv_args, wsum, va_rf, hnd, cvr, cat_i, cat_r, cat_l, oi_of, oi_add, oi_sub, oA_ap, oA_u2, pi_lt, pi_le, pi_eq, pi_eq0, pi_lt0, pi_le0, pi_gt0, pi_ge0, pi_cl, sb_lit, fv4, isB01, nlt0, EvU_0, wO_ne, wL_ne, wC_ne, wN_ne, pO_ne, pU_ne, CN, LN, -Prod.exists, pi_ti, Op.lookupswitch.offset, EvU_at d139_0, EvU_at d139_1, EvU_at d139_2, EvU_at d139_3, EvU_at d139_4, EvU_at d139_7, EvU_at d139_8, EvU_at d139_9, EvU_at d139_10, EvU_at d139_11, EvU_at d139_12, EvU_at d139_15, EvU_at d139_16, EvU_at d139_17, EvU_at d139_19, EvU_at d139_20, EvU_at d139_21, EvU_at d139_24, EvU_at d139_26, EvU_at d139_27, EvU_at d139_30, EvU_at d139_60, EvU_at d139_61, EvU_at d139_62, EvU_at d139_65, EvU_at d139_66, EvU_at d139_67, EvU_at d139_68, EvU_at d139_71, EvU_at d139_72, EvU_at d139_73, EvU_at d139_76, EvU_at d139_79, EvU_at d139_80, EvU_at d139_81, EvU_at d139_84, EvU_at d139_87, EvU_at d139_88, EvU_at d139_89, EvU_at d139_92, EvU_at d139_93, EvU_at d139_96, EvU_at d139_97, EvU_at d139_98, EvU_at d139_99, EvU_at d139_100, EvU_at d139_101, EvU_at d139_102, EvU_at d139_103, EvU_at d139_106, EvU_at d139_109, EvU_at d139_112, EvU_at d139_113, EvU_at d139_116, EvU_at d139_117, EvU_at d139_118, EvU_at d139_119, EvU_at d139_122, EvU_at d139_123, EvU_at d139_124, EvU_at d139_127, EvU_at d139_128, EvU_at d139_129, EvU_at d139_132, EvU_at d139_135, EvU_at d139_136, EvU_at d139_139, EvU_at d139_140, EvU_at d139_141, EvU_at d139_142, EvU_at d139_144, EvU_at d139_147, EvU_at d139_148, EvU_at d139_150, EvU_at d139_153, EvU_at d139_156, EvU_at d139_157, EvU_at d139_160, EvU_at d139_161, Z139, Z140, Z142, LyS hL, LyG hL, hA, b1, b2, b3, x0, x2, d, si]
    · have hp : i - 1 < (ordM k).length := by omega
      have sp := so (i - 1) hp
      have n1 := nt1 (i - 1) hp
      have n2 := nt1 i hi
      rw [if_neg i0] at b1
      rcases nt2 (i - 1) hp with e1 | e1
      · rw [e1] at n1
        rcases nt2 i hi with e2 | e2
        · rw [e2] at n2
          simp [EvS, stI, enI, caI, s_push, s_iload, s_aload, s_istore, s_astore, s_iinc, s_bin, s_div, s_i2l, s_lcmp, s_dup, s_dup2, s_pop, s_tab, s_look, s_get, s_put, s_iald, s_lald, s_aald, s_iast, s_last, s_aast, s_len, s_newa, s_new, s_thr, s_min, s_copy, s_obj, s_call, s_iret, s_aret, s_vret, go, ldI, lget, lput, lv_args, wsum, va_rf, hnd, cvr, cat_i, cat_r, cat_l, oi_of, oi_add, oi_sub, oA_ap, oA_u2, pi_lt, pi_le, pi_eq, pi_eq0, pi_lt0, pi_le0, pi_gt0, pi_ge0, pi_cl, sb_lit, fv4, isB01, nlt0, EvU_0, wO_ne, wL_ne, wC_ne, wN_ne, pO_ne, pU_ne, CN, LN, -Prod.exists, pi_ti, Op.lookupswitch.offset, EvU_at d139_0, EvU_at d139_1, EvU_at d139_2, EvU_at d139_3, EvU_at d139_4, EvU_at d139_7, EvU_at d139_8, EvU_at d139_9, EvU_at d139_10, EvU_at d139_11, EvU_at d139_12, EvU_at d139_15, EvU_at d139_16, EvU_at d139_17, EvU_at d139_19, EvU_at d139_20, EvU_at d139_21, EvU_at d139_24, EvU_at d139_26, EvU_at d139_27, EvU_at d139_30, EvU_at d139_60, EvU_at d139_61, EvU_at d139_62, EvU_at d139_65, EvU_at d139_66, EvU_at d139_67, EvU_at d139_68, EvU_at d139_71, EvU_at d139_72, EvU_at d139_73, EvU_at d139_76, EvU_at d139_79, EvU_at d139_80, EvU_at d139_81, EvU_at d139_84, EvU_at d139_87, EvU_at d139_88, EvU_at d139_89, EvU_at d139_92, EvU_at d139_93, EvU_at d139_96, EvU_at d139_97, EvU_at d139_98, EvU_at d139_99, EvU_at d139_100, EvU_at d139_101, EvU_at d139_102, EvU_at d139_103, EvU_at d139_106, EvU_at d139_109, EvU_at d139_112, EvU_at d139_113, EvU_at d139_116, EvU_at d139_117, EvU_at d139_118, EvU_at d139_119, EvU_at d139_122, EvU_at d139_123, EvU_at d139_124, EvU_at d139_127, EvU_at d139_128, EvU_at d139_129, EvU_at d139_132, EvU_at d139_135, EvU_at d139_136, EvU_at d139_139, EvU_at d139_140, EvU_at d139_141, EvU_at d139_142, EvU_at d139_144, EvU_at d139_147, EvU_at d139_148, EvU_at d139_150, EvU_at d139_153, EvU_at d139_156, EvU_at d139_157, EvU_at d139_160, EvU_at d139_161, Z139, Z140, Z142, LyS hL, LyG hL, hA, b1, b2, b3, x0, x2, d, si, i0, sp, n1, n2, e1, e2]
        · rw [e2] at n2
          by_cases la : i + 1 = (ordM k).length
          · have la2 : (i : Int) = B 2 10 - 1 := by omega
            rw [if_pos la] at b2
            simp [EvS, stI, enI, caI, s_push, s_iload, s_aload, s_istore, s_astore, s_iinc, s_bin, s_div, s_i2l, s_lcmp, s_dup, s_dup2, s_pop, s_tab, s_look, s_get, s_put, s_iald, s_lald, s_aald, s_iast, s_last, s_aast, s_len, s_newa, s_new, s_thr, s_min, s_copy, s_obj, s_call, s_iret, s_aret, s_vret, go, ldI, lget, lput, lv_args, wsum, va_rf, hnd, cvr, cat_i, cat_r, cat_l, oi_of, oi_add, oi_sub, oA_ap, oA_u2, pi_lt, pi_le, pi_eq, pi_eq0, pi_lt0, pi_le0, pi_gt0, pi_ge0, pi_cl, sb_lit, fv4, isB01, nlt0, EvU_0, wO_ne, wL_ne, wC_ne, wN_ne, pO_ne, pU_ne, CN, LN, -Prod.exists, pi_ti, Op.lookupswitch.offset, EvU_at d139_0, EvU_at d139_1, EvU_at d139_2, EvU_at d139_3, EvU_at d139_4, EvU_at d139_7, EvU_at d139_8, EvU_at d139_9, EvU_at d139_10, EvU_at d139_11, EvU_at d139_12, EvU_at d139_15, EvU_at d139_16, EvU_at d139_17, EvU_at d139_19, EvU_at d139_20, EvU_at d139_21, EvU_at d139_24, EvU_at d139_26, EvU_at d139_27, EvU_at d139_30, EvU_at d139_60, EvU_at d139_61, EvU_at d139_62, EvU_at d139_65, EvU_at d139_66, EvU_at d139_67, EvU_at d139_68, EvU_at d139_71, EvU_at d139_72, EvU_at d139_73, EvU_at d139_76, EvU_at d139_79, EvU_at d139_80, EvU_at d139_81, EvU_at d139_84, EvU_at d139_87, EvU_at d139_88, EvU_at d139_89, EvU_at d139_92, EvU_at d139_93, EvU_at d139_96, EvU_at d139_97, EvU_at d139_98, EvU_at d139_99, EvU_at d139_100, EvU_at d139_101, EvU_at d139_102, EvU_at d139_103, EvU_at d139_106, EvU_at d139_109, EvU_at d139_112, EvU_at d139_113, EvU_at d139_116, EvU_at d139_117, EvU_at d139_118, EvU_at d139_119, EvU_at d139_122, EvU_at d139_123, EvU_at d139_124, EvU_at d139_127, EvU_at d139_128, EvU_at d139_129, EvU_at d139_132, EvU_at d139_135, EvU_at d139_136, EvU_at d139_139, EvU_at d139_140, EvU_at d139_141, EvU_at d139_142, EvU_at d139_144, EvU_at d139_147, EvU_at d139_148, EvU_at d139_150, EvU_at d139_153, EvU_at d139_156, EvU_at d139_157, EvU_at d139_160, EvU_at d139_161, Z139, Z140, Z142, LyS hL, LyG hL, hA, b1, b2, b3, x0, x2, d, si, i0, sp, n1, n2, e1, e2, la2]
          · have la2 : ¬ (i : Int) = B 2 10 - 1 := by omega
            have sn := so (i + 1) (by omega)
            rw [if_neg la] at b2
            simp [EvS, stI, enI, caI, s_push, s_iload, s_aload, s_istore, s_astore, s_iinc, s_bin, s_div, s_i2l, s_lcmp, s_dup, s_dup2, s_pop, s_tab, s_look, s_get, s_put, s_iald, s_lald, s_aald, s_iast, s_last, s_aast, s_len, s_newa, s_new, s_thr, s_min, s_copy, s_obj, s_call, s_iret, s_aret, s_vret, go, ldI, lget, lput, lv_args, wsum, va_rf, hnd, cvr, cat_i, cat_r, cat_l, oi_of, oi_add, oi_sub, oA_ap, oA_u2, pi_lt, pi_le, pi_eq, pi_eq0, pi_lt0, pi_le0, pi_gt0, pi_ge0, pi_cl, sb_lit, fv4, isB01, nlt0, EvU_0, wO_ne, wL_ne, wC_ne, wN_ne, pO_ne, pU_ne, CN, LN, -Prod.exists, pi_ti, Op.lookupswitch.offset, EvU_at d139_0, EvU_at d139_1, EvU_at d139_2, EvU_at d139_3, EvU_at d139_4, EvU_at d139_7, EvU_at d139_8, EvU_at d139_9, EvU_at d139_10, EvU_at d139_11, EvU_at d139_12, EvU_at d139_15, EvU_at d139_16, EvU_at d139_17, EvU_at d139_19, EvU_at d139_20, EvU_at d139_21, EvU_at d139_24, EvU_at d139_26, EvU_at d139_27, EvU_at d139_30, EvU_at d139_60, EvU_at d139_61, EvU_at d139_62, EvU_at d139_65, EvU_at d139_66, EvU_at d139_67, EvU_at d139_68, EvU_at d139_71, EvU_at d139_72, EvU_at d139_73, EvU_at d139_76, EvU_at d139_79, EvU_at d139_80, EvU_at d139_81, EvU_at d139_84, EvU_at d139_87, EvU_at d139_88, EvU_at d139_89, EvU_at d139_92, EvU_at d139_93, EvU_at d139_96, EvU_at d139_97, EvU_at d139_98, EvU_at d139_99, EvU_at d139_100, EvU_at d139_101, EvU_at d139_102, EvU_at d139_103, EvU_at d139_106, EvU_at d139_109, EvU_at d139_112, EvU_at d139_113, EvU_at d139_116, EvU_at d139_117, EvU_at d139_118, EvU_at d139_119, EvU_at d139_122, EvU_at d139_123, EvU_at d139_124, EvU_at d139_127, EvU_at d139_128, EvU_at d139_129, EvU_at d139_132, EvU_at d139_135, EvU_at d139_136, EvU_at d139_139, EvU_at d139_140, EvU_at d139_141, EvU_at d139_142, EvU_at d139_144, EvU_at d139_147, EvU_at d139_148, EvU_at d139_150, EvU_at d139_153, EvU_at d139_156, EvU_at d139_157, EvU_at d139_160, EvU_at d139_161, Z139, Z140, Z142, LyS hL, LyG hL, hA, b1, b2, b3, x0, x2, d, si, i0, sp, sn, n1, n2, e1, e2, la2]
      · rw [e1] at n1
        simp [EvS, stI, enI, caI, s_push, s_iload, s_aload, s_istore, s_astore, s_iinc, s_bin, s_div, s_i2l, s_lcmp, s_dup, s_dup2, s_pop, s_tab, s_look, s_get, s_put, s_iald, s_lald, s_aald, s_iast, s_last, s_aast, s_len, s_newa, s_new, s_thr, s_min, s_copy, s_obj, s_call, s_iret, s_aret, s_vret, go, ldI, lget, lput, lv_args, wsum, va_rf, hnd, cvr, cat_i, cat_r, cat_l, oi_of, oi_add, oi_sub, oA_ap, oA_u2, pi_lt, pi_le, pi_eq, pi_eq0, pi_lt0, pi_le0, pi_gt0, pi_ge0, pi_cl, sb_lit, fv4, isB01, nlt0, EvU_0, wO_ne, wL_ne, wC_ne, wN_ne, pO_ne, pU_ne, CN, LN, -Prod.exists, pi_ti, Op.lookupswitch.offset, EvU_at d139_0, EvU_at d139_1, EvU_at d139_2, EvU_at d139_3, EvU_at d139_4, EvU_at d139_7, EvU_at d139_8, EvU_at d139_9, EvU_at d139_10, EvU_at d139_11, EvU_at d139_12, EvU_at d139_15, EvU_at d139_16, EvU_at d139_17, EvU_at d139_19, EvU_at d139_20, EvU_at d139_21, EvU_at d139_24, EvU_at d139_26, EvU_at d139_27, EvU_at d139_30, EvU_at d139_60, EvU_at d139_61, EvU_at d139_62, EvU_at d139_65, EvU_at d139_66, EvU_at d139_67, EvU_at d139_68, EvU_at d139_71, EvU_at d139_72, EvU_at d139_73, EvU_at d139_76, EvU_at d139_79, EvU_at d139_80, EvU_at d139_81, EvU_at d139_84, EvU_at d139_87, EvU_at d139_88, EvU_at d139_89, EvU_at d139_92, EvU_at d139_93, EvU_at d139_96, EvU_at d139_97, EvU_at d139_98, EvU_at d139_99, EvU_at d139_100, EvU_at d139_101, EvU_at d139_102, EvU_at d139_103, EvU_at d139_106, EvU_at d139_109, EvU_at d139_112, EvU_at d139_113, EvU_at d139_116, EvU_at d139_117, EvU_at d139_118, EvU_at d139_119, EvU_at d139_122, EvU_at d139_123, EvU_at d139_124, EvU_at d139_127, EvU_at d139_128, EvU_at d139_129, EvU_at d139_132, EvU_at d139_135, EvU_at d139_136, EvU_at d139_139, EvU_at d139_140, EvU_at d139_141, EvU_at d139_142, EvU_at d139_144, EvU_at d139_147, EvU_at d139_148, EvU_at d139_150, EvU_at d139_153, EvU_at d139_156, EvU_at d139_157, EvU_at d139_160, EvU_at d139_161, Z139, Z140, Z142, LyS hL, LyG hL, hA, b1, b2, b3, x0, x2, d, si, i0, sp, n1, e1]
  · by_cases la : i + 1 = (ordM k).length
    · have la2 : (i : Int) = B 2 10 - 1 := by omega
      rw [if_pos la] at b4
      have n1 := nt1 0 (by omega)
      rcases nt2 0 (by omega) with e1 | e1
      · rw [e1] at n1
        simp [EvS, stI, enI, caI, s_push, s_iload, s_aload, s_istore, s_astore, s_iinc, s_bin, s_div, s_i2l, s_lcmp, s_dup, s_dup2, s_pop, s_tab, s_look, s_get, s_put, s_iald, s_lald, s_aald, s_iast, s_last, s_aast, s_len, s_newa, s_new, s_thr, s_min, s_copy, s_obj, s_call, s_iret, s_aret, s_vret, go, ldI, lget, lput, lv_args, wsum, va_rf, hnd, cvr, cat_i, cat_r, cat_l, oi_of, oi_add, oi_sub, oA_ap, oA_u2, pi_lt, pi_le, pi_eq, pi_eq0, pi_lt0, pi_le0, pi_gt0, pi_ge0, pi_cl, sb_lit, fv4, isB01, nlt0, EvU_0, wO_ne, wL_ne, wC_ne, wN_ne, pO_ne, pU_ne, CN, LN, -Prod.exists, pi_ti, Op.lookupswitch.offset, EvU_at d139_0, EvU_at d139_1, EvU_at d139_2, EvU_at d139_3, EvU_at d139_4, EvU_at d139_7, EvU_at d139_8, EvU_at d139_9, EvU_at d139_10, EvU_at d139_11, EvU_at d139_12, EvU_at d139_15, EvU_at d139_16, EvU_at d139_17, EvU_at d139_19, EvU_at d139_20, EvU_at d139_21, EvU_at d139_24, EvU_at d139_26, EvU_at d139_27, EvU_at d139_30, EvU_at d139_60, EvU_at d139_61, EvU_at d139_62, EvU_at d139_65, EvU_at d139_66, EvU_at d139_67, EvU_at d139_68, EvU_at d139_71, EvU_at d139_72, EvU_at d139_73, EvU_at d139_76, EvU_at d139_79, EvU_at d139_80, EvU_at d139_81, EvU_at d139_84, EvU_at d139_87, EvU_at d139_88, EvU_at d139_89, EvU_at d139_92, EvU_at d139_93, EvU_at d139_96, EvU_at d139_97, EvU_at d139_98, EvU_at d139_99, EvU_at d139_100, EvU_at d139_101, EvU_at d139_102, EvU_at d139_103, EvU_at d139_106, EvU_at d139_109, EvU_at d139_112, EvU_at d139_113, EvU_at d139_116, EvU_at d139_117, EvU_at d139_118, EvU_at d139_119, EvU_at d139_122, EvU_at d139_123, EvU_at d139_124, EvU_at d139_127, EvU_at d139_128, EvU_at d139_129, EvU_at d139_132, EvU_at d139_135, EvU_at d139_136, EvU_at d139_139, EvU_at d139_140, EvU_at d139_141, EvU_at d139_142, EvU_at d139_144, EvU_at d139_147, EvU_at d139_148, EvU_at d139_150, EvU_at d139_153, EvU_at d139_156, EvU_at d139_157, EvU_at d139_160, EvU_at d139_161, Z139, Z140, Z142, LyS hL, LyG hL, hA, b1, b2, b3, x0, x2, d, si, b4, n1, e1, la2]
      · rw [e1] at n1
        simp [EvS, stI, enI, caI, s_push, s_iload, s_aload, s_istore, s_astore, s_iinc, s_bin, s_div, s_i2l, s_lcmp, s_dup, s_dup2, s_pop, s_tab, s_look, s_get, s_put, s_iald, s_lald, s_aald, s_iast, s_last, s_aast, s_len, s_newa, s_new, s_thr, s_min, s_copy, s_obj, s_call, s_iret, s_aret, s_vret, go, ldI, lget, lput, lv_args, wsum, va_rf, hnd, cvr, cat_i, cat_r, cat_l, oi_of, oi_add, oi_sub, oA_ap, oA_u2, pi_lt, pi_le, pi_eq, pi_eq0, pi_lt0, pi_le0, pi_gt0, pi_ge0, pi_cl, sb_lit, fv4, isB01, nlt0, EvU_0, wO_ne, wL_ne, wC_ne, wN_ne, pO_ne, pU_ne, CN, LN, -Prod.exists, pi_ti, Op.lookupswitch.offset, EvU_at d139_0, EvU_at d139_1, EvU_at d139_2, EvU_at d139_3, EvU_at d139_4, EvU_at d139_7, EvU_at d139_8, EvU_at d139_9, EvU_at d139_10, EvU_at d139_11, EvU_at d139_12, EvU_at d139_15, EvU_at d139_16, EvU_at d139_17, EvU_at d139_19, EvU_at d139_20, EvU_at d139_21, EvU_at d139_24, EvU_at d139_26, EvU_at d139_27, EvU_at d139_30, EvU_at d139_60, EvU_at d139_61, EvU_at d139_62, EvU_at d139_65, EvU_at d139_66, EvU_at d139_67, EvU_at d139_68, EvU_at d139_71, EvU_at d139_72, EvU_at d139_73, EvU_at d139_76, EvU_at d139_79, EvU_at d139_80, EvU_at d139_81, EvU_at d139_84, EvU_at d139_87, EvU_at d139_88, EvU_at d139_89, EvU_at d139_92, EvU_at d139_93, EvU_at d139_96, EvU_at d139_97, EvU_at d139_98, EvU_at d139_99, EvU_at d139_100, EvU_at d139_101, EvU_at d139_102, EvU_at d139_103, EvU_at d139_106, EvU_at d139_109, EvU_at d139_112, EvU_at d139_113, EvU_at d139_116, EvU_at d139_117, EvU_at d139_118, EvU_at d139_119, EvU_at d139_122, EvU_at d139_123, EvU_at d139_124, EvU_at d139_127, EvU_at d139_128, EvU_at d139_129, EvU_at d139_132, EvU_at d139_135, EvU_at d139_136, EvU_at d139_139, EvU_at d139_140, EvU_at d139_141, EvU_at d139_142, EvU_at d139_144, EvU_at d139_147, EvU_at d139_148, EvU_at d139_150, EvU_at d139_153, EvU_at d139_156, EvU_at d139_157, EvU_at d139_160, EvU_at d139_161, Z139, Z140, Z142, LyS hL, LyG hL, hA, b1, b2, b3, x0, x2, d, si, b4, n1, e1, la2]
    · have la2 : ¬ (i : Int) = B 2 10 - 1 := by omega
      rw [if_neg la] at b4
      have n1 := nt1 (i + 1) (by omega)
      rcases nt2 (i + 1) (by omega) with e1 | e1
      · rw [e1] at n1
        simp [EvS, stI, enI, caI, s_push, s_iload, s_aload, s_istore, s_astore, s_iinc, s_bin, s_div, s_i2l, s_lcmp, s_dup, s_dup2, s_pop, s_tab, s_look, s_get, s_put, s_iald, s_lald, s_aald, s_iast, s_last, s_aast, s_len, s_newa, s_new, s_thr, s_min, s_copy, s_obj, s_call, s_iret, s_aret, s_vret, go, ldI, lget, lput, lv_args, wsum, va_rf, hnd, cvr, cat_i, cat_r, cat_l, oi_of, oi_add, oi_sub, oA_ap, oA_u2, pi_lt, pi_le, pi_eq, pi_eq0, pi_lt0, pi_le0, pi_gt0, pi_ge0, pi_cl, sb_lit, fv4, isB01, nlt0, EvU_0, wO_ne, wL_ne, wC_ne, wN_ne, pO_ne, pU_ne, CN, LN, -Prod.exists, pi_ti, Op.lookupswitch.offset, EvU_at d139_0, EvU_at d139_1, EvU_at d139_2, EvU_at d139_3, EvU_at d139_4, EvU_at d139_7, EvU_at d139_8, EvU_at d139_9, EvU_at d139_10, EvU_at d139_11, EvU_at d139_12, EvU_at d139_15, EvU_at d139_16, EvU_at d139_17, EvU_at d139_19, EvU_at d139_20, EvU_at d139_21, EvU_at d139_24, EvU_at d139_26, EvU_at d139_27, EvU_at d139_30, EvU_at d139_60, EvU_at d139_61, EvU_at d139_62, EvU_at d139_65, EvU_at d139_66, EvU_at d139_67, EvU_at d139_68, EvU_at d139_71, EvU_at d139_72, EvU_at d139_73, EvU_at d139_76, EvU_at d139_79, EvU_at d139_80, EvU_at d139_81, EvU_at d139_84, EvU_at d139_87, EvU_at d139_88, EvU_at d139_89, EvU_at d139_92, EvU_at d139_93, EvU_at d139_96, EvU_at d139_97, EvU_at d139_98, EvU_at d139_99, EvU_at d139_100, EvU_at d139_101, EvU_at d139_102, EvU_at d139_103, EvU_at d139_106, EvU_at d139_109, EvU_at d139_112, EvU_at d139_113, EvU_at d139_116, EvU_at d139_117, EvU_at d139_118, EvU_at d139_119, EvU_at d139_122, EvU_at d139_123, EvU_at d139_124, EvU_at d139_127, EvU_at d139_128, EvU_at d139_129, EvU_at d139_132, EvU_at d139_135, EvU_at d139_136, EvU_at d139_139, EvU_at d139_140, EvU_at d139_141, EvU_at d139_142, EvU_at d139_144, EvU_at d139_147, EvU_at d139_148, EvU_at d139_150, EvU_at d139_153, EvU_at d139_156, EvU_at d139_157, EvU_at d139_160, EvU_at d139_161, Z139, Z140, Z142, LyS hL, LyG hL, hA, b1, b2, b3, x0, x2, d, si, b4, n1, e1, la2]
      · rw [e1] at n1
        simp [EvS, stI, enI, caI, s_push, s_iload, s_aload, s_istore, s_astore, s_iinc, s_bin, s_div, s_i2l, s_lcmp, s_dup, s_dup2, s_pop, s_tab, s_look, s_get, s_put, s_iald, s_lald, s_aald, s_iast, s_last, s_aast, s_len, s_newa, s_new, s_thr, s_min, s_copy, s_obj, s_call, s_iret, s_aret, s_vret, go, ldI, lget, lput, lv_args, wsum, va_rf, hnd, cvr, cat_i, cat_r, cat_l, oi_of, oi_add, oi_sub, oA_ap, oA_u2, pi_lt, pi_le, pi_eq, pi_eq0, pi_lt0, pi_le0, pi_gt0, pi_ge0, pi_cl, sb_lit, fv4, isB01, nlt0, EvU_0, wO_ne, wL_ne, wC_ne, wN_ne, pO_ne, pU_ne, CN, LN, -Prod.exists, pi_ti, Op.lookupswitch.offset, EvU_at d139_0, EvU_at d139_1, EvU_at d139_2, EvU_at d139_3, EvU_at d139_4, EvU_at d139_7, EvU_at d139_8, EvU_at d139_9, EvU_at d139_10, EvU_at d139_11, EvU_at d139_12, EvU_at d139_15, EvU_at d139_16, EvU_at d139_17, EvU_at d139_19, EvU_at d139_20, EvU_at d139_21, EvU_at d139_24, EvU_at d139_26, EvU_at d139_27, EvU_at d139_30, EvU_at d139_60, EvU_at d139_61, EvU_at d139_62, EvU_at d139_65, EvU_at d139_66, EvU_at d139_67, EvU_at d139_68, EvU_at d139_71, EvU_at d139_72, EvU_at d139_73, EvU_at d139_76, EvU_at d139_79, EvU_at d139_80, EvU_at d139_81, EvU_at d139_84, EvU_at d139_87, EvU_at d139_88, EvU_at d139_89, EvU_at d139_92, EvU_at d139_93, EvU_at d139_96, EvU_at d139_97, EvU_at d139_98, EvU_at d139_99, EvU_at d139_100, EvU_at d139_101, EvU_at d139_102, EvU_at d139_103, EvU_at d139_106, EvU_at d139_109, EvU_at d139_112, EvU_at d139_113, EvU_at d139_116, EvU_at d139_117, EvU_at d139_118, EvU_at d139_119, EvU_at d139_122, EvU_at d139_123, EvU_at d139_124, EvU_at d139_127, EvU_at d139_128, EvU_at d139_129, EvU_at d139_132, EvU_at d139_135, EvU_at d139_136, EvU_at d139_139, EvU_at d139_140, EvU_at d139_141, EvU_at d139_142, EvU_at d139_144, EvU_at d139_147, EvU_at d139_148, EvU_at d139_150, EvU_at d139_153, EvU_at d139_156, EvU_at d139_157, EvU_at d139_160, EvU_at d139_161, Z139, Z140, Z142, LyS hL, LyG hL, hA, b1, b2, b3, x0, x2, d, si, b4, n1, e1, la2]
  · have y1 := h.R.len ((ordM k).getD i 0) (by omega)
    have y2 := h.M.len ((ordM k).getD i 0) (by omega)
    have y3 := fun (sl : Nat) (r : Out) => r_active (gl := gl) (sl := sl) (r := r) hA hL h (k := (ordM k).getD i 0) (by omega)
    have y4 : (B 5 i).toNat = (ordM k).getD i 0 := by rw [hk.2.2.2 i hi, Int.toNat_natCast]
    have y5 : (oM k i).toNat = (ordM k).getD i 0 := by rw [hS, Int.toNat_natCast]
    have y6 : ¬ oM k i < 0 := by omega
    have y7 : ¬ 12 ≤ (ordM k).getD i 0 := by omega
    have y8 : sb (B (pO ((ordM k).getD i 0)) 1) := ⟨by omega, by omega⟩
    rw [← hS] at y3
    rw [y4]
    generalize (ordM k).getD i 0 = S at *
    by_cases z1 : B (pO S) 1 = 0
    · simp [EvS, stI, enI, caI, s_push, s_iload, s_aload, s_istore, s_astore, s_iinc, s_bin, s_div, s_i2l, s_lcmp, s_dup, s_dup2, s_pop, s_tab, s_look, s_get, s_put, s_iald, s_lald, s_aald, s_iast, s_last, s_aast, s_len, s_newa, s_new, s_thr, s_min, s_copy, s_obj, s_call, s_iret, s_aret, s_vret, go, ldI, lget, lput, lv_args, wsum, va_rf, hnd, cvr, cat_i, cat_r, cat_l, oi_of, oi_add, oi_sub, oA_ap, oA_u2, pi_lt, pi_le, pi_eq, pi_eq0, pi_lt0, pi_le0, pi_gt0, pi_ge0, pi_cl, sb_lit, fv4, isB01, nlt0, EvU_0, wO_ne, wL_ne, wC_ne, wN_ne, pO_ne, pU_ne, CN, LN, -Prod.exists, pi_ti, Op.lookupswitch.offset, EvU_at d139_0, EvU_at d139_1, EvU_at d139_2, EvU_at d139_3, EvU_at d139_4, EvU_at d139_7, EvU_at d139_8, EvU_at d139_9, EvU_at d139_10, EvU_at d139_11, EvU_at d139_12, EvU_at d139_15, EvU_at d139_16, EvU_at d139_17, EvU_at d139_19, EvU_at d139_20, EvU_at d139_21, EvU_at d139_24, EvU_at d139_26, EvU_at d139_27, EvU_at d139_30, EvU_at d139_60, EvU_at d139_61, EvU_at d139_62, EvU_at d139_65, EvU_at d139_66, EvU_at d139_67, EvU_at d139_68, EvU_at d139_71, EvU_at d139_72, EvU_at d139_73, EvU_at d139_76, EvU_at d139_79, EvU_at d139_80, EvU_at d139_81, EvU_at d139_84, EvU_at d139_87, EvU_at d139_88, EvU_at d139_89, EvU_at d139_92, EvU_at d139_93, EvU_at d139_96, EvU_at d139_97, EvU_at d139_98, EvU_at d139_99, EvU_at d139_100, EvU_at d139_101, EvU_at d139_102, EvU_at d139_103, EvU_at d139_106, EvU_at d139_109, EvU_at d139_112, EvU_at d139_113, EvU_at d139_116, EvU_at d139_117, EvU_at d139_118, EvU_at d139_119, EvU_at d139_122, EvU_at d139_123, EvU_at d139_124, EvU_at d139_127, EvU_at d139_128, EvU_at d139_129, EvU_at d139_132, EvU_at d139_135, EvU_at d139_136, EvU_at d139_139, EvU_at d139_140, EvU_at d139_141, EvU_at d139_142, EvU_at d139_144, EvU_at d139_147, EvU_at d139_148, EvU_at d139_150, EvU_at d139_153, EvU_at d139_156, EvU_at d139_157, EvU_at d139_160, EvU_at d139_161, Z139, Z140, Z142, LyS hL, LyG hL, hA, b1, b2, b3, x0, x2, d, si, y1, y5, y6, y7, z1]
    · rcases upB01 B S with z2 | z2
      · rw [z2] at y3
        simp [EvS, stI, enI, caI, s_push, s_iload, s_aload, s_istore, s_astore, s_iinc, s_bin, s_div, s_i2l, s_lcmp, s_dup, s_dup2, s_pop, s_tab, s_look, s_get, s_put, s_iald, s_lald, s_aald, s_iast, s_last, s_aast, s_len, s_newa, s_new, s_thr, s_min, s_copy, s_obj, s_call, s_iret, s_aret, s_vret, go, ldI, lget, lput, lv_args, wsum, va_rf, hnd, cvr, cat_i, cat_r, cat_l, oi_of, oi_add, oi_sub, oA_ap, oA_u2, pi_lt, pi_le, pi_eq, pi_eq0, pi_lt0, pi_le0, pi_gt0, pi_ge0, pi_cl, sb_lit, fv4, isB01, nlt0, EvU_0, wO_ne, wL_ne, wC_ne, wN_ne, pO_ne, pU_ne, CN, LN, -Prod.exists, pi_ti, Op.lookupswitch.offset, EvU_at d139_0, EvU_at d139_1, EvU_at d139_2, EvU_at d139_3, EvU_at d139_4, EvU_at d139_7, EvU_at d139_8, EvU_at d139_9, EvU_at d139_10, EvU_at d139_11, EvU_at d139_12, EvU_at d139_15, EvU_at d139_16, EvU_at d139_17, EvU_at d139_19, EvU_at d139_20, EvU_at d139_21, EvU_at d139_24, EvU_at d139_26, EvU_at d139_27, EvU_at d139_30, EvU_at d139_60, EvU_at d139_61, EvU_at d139_62, EvU_at d139_65, EvU_at d139_66, EvU_at d139_67, EvU_at d139_68, EvU_at d139_71, EvU_at d139_72, EvU_at d139_73, EvU_at d139_76, EvU_at d139_79, EvU_at d139_80, EvU_at d139_81, EvU_at d139_84, EvU_at d139_87, EvU_at d139_88, EvU_at d139_89, EvU_at d139_92, EvU_at d139_93, EvU_at d139_96, EvU_at d139_97, EvU_at d139_98, EvU_at d139_99, EvU_at d139_100, EvU_at d139_101, EvU_at d139_102, EvU_at d139_103, EvU_at d139_106, EvU_at d139_109, EvU_at d139_112, EvU_at d139_113, EvU_at d139_116, EvU_at d139_117, EvU_at d139_118, EvU_at d139_119, EvU_at d139_122, EvU_at d139_123, EvU_at d139_124, EvU_at d139_127, EvU_at d139_128, EvU_at d139_129, EvU_at d139_132, EvU_at d139_135, EvU_at d139_136, EvU_at d139_139, EvU_at d139_140, EvU_at d139_141, EvU_at d139_142, EvU_at d139_144, EvU_at d139_147, EvU_at d139_148, EvU_at d139_150, EvU_at d139_153, EvU_at d139_156, EvU_at d139_157, EvU_at d139_160, EvU_at d139_161, Z139, Z140, Z142, LyS hL, LyG hL, hA, b1, b2, b3, x0, x2, d, si, Z143, y1, y3, y5, y6, y7, y8, z1, z2]
      · rw [z2] at y3
        simp [EvS, stI, enI, caI, s_push, s_iload, s_aload, s_istore, s_astore, s_iinc, s_bin, s_div, s_i2l, s_lcmp, s_dup, s_dup2, s_pop, s_tab, s_look, s_get, s_put, s_iald, s_lald, s_aald, s_iast, s_last, s_aast, s_len, s_newa, s_new, s_thr, s_min, s_copy, s_obj, s_call, s_iret, s_aret, s_vret, go, ldI, lget, lput, lv_args, wsum, va_rf, hnd, cvr, cat_i, cat_r, cat_l, oi_of, oi_add, oi_sub, oA_ap, oA_u2, pi_lt, pi_le, pi_eq, pi_eq0, pi_lt0, pi_le0, pi_gt0, pi_ge0, pi_cl, sb_lit, fv4, isB01, nlt0, EvU_0, wO_ne, wL_ne, wC_ne, wN_ne, pO_ne, pU_ne, CN, LN, -Prod.exists, pi_ti, Op.lookupswitch.offset, EvU_at d139_0, EvU_at d139_1, EvU_at d139_2, EvU_at d139_3, EvU_at d139_4, EvU_at d139_7, EvU_at d139_8, EvU_at d139_9, EvU_at d139_10, EvU_at d139_11, EvU_at d139_12, EvU_at d139_15, EvU_at d139_16, EvU_at d139_17, EvU_at d139_19, EvU_at d139_20, EvU_at d139_21, EvU_at d139_24, EvU_at d139_26, EvU_at d139_27, EvU_at d139_30, EvU_at d139_60, EvU_at d139_61, EvU_at d139_62, EvU_at d139_65, EvU_at d139_66, EvU_at d139_67, EvU_at d139_68, EvU_at d139_71, EvU_at d139_72, EvU_at d139_73, EvU_at d139_76, EvU_at d139_79, EvU_at d139_80, EvU_at d139_81, EvU_at d139_84, EvU_at d139_87, EvU_at d139_88, EvU_at d139_89, EvU_at d139_92, EvU_at d139_93, EvU_at d139_96, EvU_at d139_97, EvU_at d139_98, EvU_at d139_99, EvU_at d139_100, EvU_at d139_101, EvU_at d139_102, EvU_at d139_103, EvU_at d139_106, EvU_at d139_109, EvU_at d139_112, EvU_at d139_113, EvU_at d139_116, EvU_at d139_117, EvU_at d139_118, EvU_at d139_119, EvU_at d139_122, EvU_at d139_123, EvU_at d139_124, EvU_at d139_127, EvU_at d139_128, EvU_at d139_129, EvU_at d139_132, EvU_at d139_135, EvU_at d139_136, EvU_at d139_139, EvU_at d139_140, EvU_at d139_141, EvU_at d139_142, EvU_at d139_144, EvU_at d139_147, EvU_at d139_148, EvU_at d139_150, EvU_at d139_153, EvU_at d139_156, EvU_at d139_157, EvU_at d139_160, EvU_at d139_161, Z139, Z140, Z142, LyS hL, LyG hL, hA, b1, b2, b3, x0, x2, d, si, Z143, y1, y3, y5, y6, y7, y8, z1, z2]
  · have oj := ord_inj k hk.1 i (by omega) hi
    have sl9 := so _ l9
    by_cases la : i = (ordM k).length - 1
    · have la2 : (i : Int) = B 2 10 - 1 := by omega
      have la3 := oj.mpr la
      rw [← la3] at b3
      simp [EvS, stI, enI, caI, s_push, s_iload, s_aload, s_istore, s_astore, s_iinc, s_bin, s_div, s_i2l, s_lcmp, s_dup, s_dup2, s_pop, s_tab, s_look, s_get, s_put, s_iald, s_lald, s_aald, s_iast, s_last, s_aast, s_len, s_newa, s_new, s_thr, s_min, s_copy, s_obj, s_call, s_iret, s_aret, s_vret, go, ldI, lget, lput, lv_args, wsum, va_rf, hnd, cvr, cat_i, cat_r, cat_l, oi_of, oi_add, oi_sub, oA_ap, oA_u2, pi_lt, pi_le, pi_eq, pi_eq0, pi_lt0, pi_le0, pi_gt0, pi_ge0, pi_cl, sb_lit, fv4, isB01, nlt0, EvU_0, wO_ne, wL_ne, wC_ne, wN_ne, pO_ne, pU_ne, CN, LN, -Prod.exists, pi_ti, Op.lookupswitch.offset, EvU_at d139_0, EvU_at d139_1, EvU_at d139_2, EvU_at d139_3, EvU_at d139_4, EvU_at d139_7, EvU_at d139_8, EvU_at d139_9, EvU_at d139_10, EvU_at d139_11, EvU_at d139_12, EvU_at d139_15, EvU_at d139_16, EvU_at d139_17, EvU_at d139_19, EvU_at d139_20, EvU_at d139_21, EvU_at d139_24, EvU_at d139_26, EvU_at d139_27, EvU_at d139_30, EvU_at d139_60, EvU_at d139_61, EvU_at d139_62, EvU_at d139_65, EvU_at d139_66, EvU_at d139_67, EvU_at d139_68, EvU_at d139_71, EvU_at d139_72, EvU_at d139_73, EvU_at d139_76, EvU_at d139_79, EvU_at d139_80, EvU_at d139_81, EvU_at d139_84, EvU_at d139_87, EvU_at d139_88, EvU_at d139_89, EvU_at d139_92, EvU_at d139_93, EvU_at d139_96, EvU_at d139_97, EvU_at d139_98, EvU_at d139_99, EvU_at d139_100, EvU_at d139_101, EvU_at d139_102, EvU_at d139_103, EvU_at d139_106, EvU_at d139_109, EvU_at d139_112, EvU_at d139_113, EvU_at d139_116, EvU_at d139_117, EvU_at d139_118, EvU_at d139_119, EvU_at d139_122, EvU_at d139_123, EvU_at d139_124, EvU_at d139_127, EvU_at d139_128, EvU_at d139_129, EvU_at d139_132, EvU_at d139_135, EvU_at d139_136, EvU_at d139_139, EvU_at d139_140, EvU_at d139_141, EvU_at d139_142, EvU_at d139_144, EvU_at d139_147, EvU_at d139_148, EvU_at d139_150, EvU_at d139_153, EvU_at d139_156, EvU_at d139_157, EvU_at d139_160, EvU_at d139_161, Z139, Z140, Z142, LyS hL, LyG hL, hA, b1, b2, b3, x0, x2, d, si, la2]
    · have la2 : ¬ (i : Int) = B 2 10 - 1 := by omega
      have la3 : ¬ oM k i = oM k ((ordM k).length - 1) := fun e => la (oj.mp e)
      have la4 : (B 2 10 - 1).toNat = (ordM k).length - 1 := by omega
      have n1 := nt1 _ l9
      rw [la4]
      generalize (ordM k).length - 1 = J at *
      rcases nt2 J l9 with e1 | e1
      · rw [e1] at n1
        simp [EvS, stI, enI, caI, s_push, s_iload, s_aload, s_istore, s_astore, s_iinc, s_bin, s_div, s_i2l, s_lcmp, s_dup, s_dup2, s_pop, s_tab, s_look, s_get, s_put, s_iald, s_lald, s_aald, s_iast, s_last, s_aast, s_len, s_newa, s_new, s_thr, s_min, s_copy, s_obj, s_call, s_iret, s_aret, s_vret, go, ldI, lget, lput, lv_args, wsum, va_rf, hnd, cvr, cat_i, cat_r, cat_l, oi_of, oi_add, oi_sub, oA_ap, oA_u2, pi_lt, pi_le, pi_eq, pi_eq0, pi_lt0, pi_le0, pi_gt0, pi_ge0, pi_cl, sb_lit, fv4, isB01, nlt0, EvU_0, wO_ne, wL_ne, wC_ne, wN_ne, pO_ne, pU_ne, CN, LN, -Prod.exists, pi_ti, Op.lookupswitch.offset, EvU_at d139_0, EvU_at d139_1, EvU_at d139_2, EvU_at d139_3, EvU_at d139_4, EvU_at d139_7, EvU_at d139_8, EvU_at d139_9, EvU_at d139_10, EvU_at d139_11, EvU_at d139_12, EvU_at d139_15, EvU_at d139_16, EvU_at d139_17, EvU_at d139_19, EvU_at d139_20, EvU_at d139_21, EvU_at d139_24, EvU_at d139_26, EvU_at d139_27, EvU_at d139_30, EvU_at d139_60, EvU_at d139_61, EvU_at d139_62, EvU_at d139_65, EvU_at d139_66, EvU_at d139_67, EvU_at d139_68, EvU_at d139_71, EvU_at d139_72, EvU_at d139_73, EvU_at d139_76, EvU_at d139_79, EvU_at d139_80, EvU_at d139_81, EvU_at d139_84, EvU_at d139_87, EvU_at d139_88, EvU_at d139_89, EvU_at d139_92, EvU_at d139_93, EvU_at d139_96, EvU_at d139_97, EvU_at d139_98, EvU_at d139_99, EvU_at d139_100, EvU_at d139_101, EvU_at d139_102, EvU_at d139_103, EvU_at d139_106, EvU_at d139_109, EvU_at d139_112, EvU_at d139_113, EvU_at d139_116, EvU_at d139_117, EvU_at d139_118, EvU_at d139_119, EvU_at d139_122, EvU_at d139_123, EvU_at d139_124, EvU_at d139_127, EvU_at d139_128, EvU_at d139_129, EvU_at d139_132, EvU_at d139_135, EvU_at d139_136, EvU_at d139_139, EvU_at d139_140, EvU_at d139_141, EvU_at d139_142, EvU_at d139_144, EvU_at d139_147, EvU_at d139_148, EvU_at d139_150, EvU_at d139_153, EvU_at d139_156, EvU_at d139_157, EvU_at d139_160, EvU_at d139_161, Z139, Z140, Z142, LyS hL, LyG hL, hA, b1, b2, b3, x0, x2, d, si, n1, e1, la2, la3, sl9]
      · rw [e1] at n1
        simp [EvS, stI, enI, caI, s_push, s_iload, s_aload, s_istore, s_astore, s_iinc, s_bin, s_div, s_i2l, s_lcmp, s_dup, s_dup2, s_pop, s_tab, s_look, s_get, s_put, s_iald, s_lald, s_aald, s_iast, s_last, s_aast, s_len, s_newa, s_new, s_thr, s_min, s_copy, s_obj, s_call, s_iret, s_aret, s_vret, go, ldI, lget, lput, lv_args, wsum, va_rf, hnd, cvr, cat_i, cat_r, cat_l, oi_of, oi_add, oi_sub, oA_ap, oA_u2, pi_lt, pi_le, pi_eq, pi_eq0, pi_lt0, pi_le0, pi_gt0, pi_ge0, pi_cl, sb_lit, fv4, isB01, nlt0, EvU_0, wO_ne, wL_ne, wC_ne, wN_ne, pO_ne, pU_ne, CN, LN, -Prod.exists, pi_ti, Op.lookupswitch.offset, EvU_at d139_0, EvU_at d139_1, EvU_at d139_2, EvU_at d139_3, EvU_at d139_4, EvU_at d139_7, EvU_at d139_8, EvU_at d139_9, EvU_at d139_10, EvU_at d139_11, EvU_at d139_12, EvU_at d139_15, EvU_at d139_16, EvU_at d139_17, EvU_at d139_19, EvU_at d139_20, EvU_at d139_21, EvU_at d139_24, EvU_at d139_26, EvU_at d139_27, EvU_at d139_30, EvU_at d139_60, EvU_at d139_61, EvU_at d139_62, EvU_at d139_65, EvU_at d139_66, EvU_at d139_67, EvU_at d139_68, EvU_at d139_71, EvU_at d139_72, EvU_at d139_73, EvU_at d139_76, EvU_at d139_79, EvU_at d139_80, EvU_at d139_81, EvU_at d139_84, EvU_at d139_87, EvU_at d139_88, EvU_at d139_89, EvU_at d139_92, EvU_at d139_93, EvU_at d139_96, EvU_at d139_97, EvU_at d139_98, EvU_at d139_99, EvU_at d139_100, EvU_at d139_101, EvU_at d139_102, EvU_at d139_103, EvU_at d139_106, EvU_at d139_109, EvU_at d139_112, EvU_at d139_113, EvU_at d139_116, EvU_at d139_117, EvU_at d139_118, EvU_at d139_119, EvU_at d139_122, EvU_at d139_123, EvU_at d139_124, EvU_at d139_127, EvU_at d139_128, EvU_at d139_129, EvU_at d139_132, EvU_at d139_135, EvU_at d139_136, EvU_at d139_139, EvU_at d139_140, EvU_at d139_141, EvU_at d139_142, EvU_at d139_144, EvU_at d139_147, EvU_at d139_148, EvU_at d139_150, EvU_at d139_153, EvU_at d139_156, EvU_at d139_157, EvU_at d139_160, EvU_at d139_161, Z139, Z140, Z142, LyS hL, LyG hL, hA, b1, b2, b3, x0, x2, d, si, n1, e1, la2, la3, sl9]
theorem movedF_bit {k : Nat} (hk : OrdAt B k) (s : Nat) : ∀ (n i c : Nat), i + n ≤ (ordM k).length → ((movedF B n i c).testBit s = true ↔ c.testBit s = true ∨ ∃ j, i ≤ j ∧ j < i + n ∧ stepB B j = 1 ∧ (ordM k).getD j 0 = s) := by
  intro n
  induction n with
  | zero =>
    intro i c hi
    rw [movedF]
    constructor
    · exact Or.inl
    · rintro (e | ⟨j, j1, j2, _⟩)
      · exact e
      · omega
  | succ n ih =>
    intro i c hi
    have e5 : (B 5 i).toNat = (ordM k).getD i 0 := by rw [hk.2.2.2 i (by omega), Int.toNat_natCast]
    rw [movedF, ih (i + 1) _ (by omega), e5]
    by_cases c1 : stepB B i = 1
    · rw [if_pos c1, Nat.testBit_or, Bool.or_eq_true, Nat.testBit_two_pow, decide_eq_true_eq]
      constructor
      · rintro ((e | e) | ⟨j, j1, j2, j3⟩)
        · exact Or.inl e
        · exact Or.inr ⟨i, by omega, by omega, c1, e⟩
        · exact Or.inr ⟨j, by omega, by omega, j3⟩
      · rintro (e | ⟨j, j1, j2, j3, j4⟩)
        · exact Or.inl (Or.inl e)
        · by_cases ej : j = i
          · subst ej
            exact Or.inl (Or.inr j4)
          · exact Or.inr ⟨j, by omega, by omega, j3, j4⟩
    · rw [if_neg c1]
      constructor
      · rintro (e | ⟨j, j1, j2, j3⟩)
        · exact Or.inl e
        · exact Or.inr ⟨j, by omega, by omega, j3⟩
      · rintro (e | ⟨j, j1, j2, j3, j4⟩)
        · exact Or.inl e
        · by_cases ej : j = i
          · subst ej
            exact absurd j3 c1
          · exact Or.inr ⟨j, by omega, by omega, j3, j4⟩
theorem ord_inj3 : ∀ k, k < 64 → ∀ x, x < 36 → x / 6 < (ordM k).length → x % 6 < (ordM k).length → (ordM k).getD (x / 6) 0 = (ordM k).getD (x % 6) 0 → x / 6 = x % 6 := by decide +kernel
theorem ord_inj2 (k : Nat) (hk : k < 64) (i : Nat) (hi : i < 6) (j : Nat) (hj : j < 6) (h1 : i < (ordM k).length) (h2 : j < (ordM k).length) (e : (ordM k).getD i 0 = (ordM k).getD j 0) : i = j := by
  have e1 : (6 * i + j) / 6 = i := by omega
  have e2 : (6 * i + j) % 6 = j := by omega
  have h3 := ord_inj3 k hk (6 * i + j) (by omega)
  rw [e1, e2] at h3
  exact h3 h1 h2 e
theorem bits_none {k : Nat} (hk : OrdAt B k) {s : Nat} (hs : s < 6) (hw : B 4 s = -1) : (bitsF B).testBit s = false := by
  have e : (B 2 10).toNat = (ordM k).length := by have := hk.2.2.1; omega
  obtain ⟨o1, o2⟩ := ordM_lt k hk.1
  unfold bitsF
  rw [Bool.eq_false_iff, e]
  intro hc
  rcases (movedF_bit hk s _ 0 0 (by omega)).mp hc with h0 | ⟨j, _, j2, _, j4⟩
  · simp at h0
  · have := (o2 j (by omega) (by omega)).2
    rw [j4] at this
    exact (hk.2.1 s hs).mpr this hw
theorem bits_ord {k : Nat} (hk : OrdAt B k) {i : Nat} (hi : i < (ordM k).length) : (bitsF B).testBit ((ordM k).getD i 0) = true ↔ stepB B i = 1 := by
  have e : (B 2 10).toNat = (ordM k).length := by have := hk.2.2.1; omega
  obtain ⟨o1, o2⟩ := ordM_lt k hk.1
  unfold bitsF
  rw [e, movedF_bit hk _ _ 0 0 (by omega)]
  constructor
  · rintro (h0 | ⟨j, _, j2, j3, j4⟩)
    · simp at h0
    · have := ord_inj2 k hk.1 j (by omega) i (by omega) (by omega) hi j4
      rw [← this]
      exact j3
  · intro h1
    exact Or.inr ⟨i, by omega, by omega, h1, rfl⟩
/-- which slots step, by slots -/
def mvB (B : Nat → Nat → Int) (s : Nat) : Int := if (bitsF B).testBit s = true then 1 else 0
end
