/-! the class's own small methods -/
def thrw (E : Nat) (h : Hp) (sl : Nat) : Out := (.inr (h.1.length, E), (h.1 ++ [(10 + E, 0)], h.2), sl + 6)
theorem m_round {a n : Int} (ha : sm a) (hn : sm n) (h : Hp) (sl : Nat) (r : Out) : Ev (21, 0, [(0, .int (oi a)), (1, .int (oi n))], [], h, sl) r ↔ r = (.inl (some (.int (oi (rd a n)))), h, sl) := by
  obtain ⟨sh, gi, gl, gr⟩ := h
  rw [EvU_iff (fun _ => false) 20]
  unfold rd
  by_cases h1 : a < 0
  · simp [EvU, sx, stI, enI, caI, s_push, s_iload, s_aload, s_istore, s_astore, s_iinc, s_bin, s_div, s_i2l, s_lcmp, s_dup, s_dup2, s_pop, s_tab, s_look, s_get, s_put, s_iald, s_lald, s_aald, s_iast, s_last, s_aast, s_len, s_newa, s_new, s_thr, s_min, s_copy, s_obj, s_call, s_iret, s_aret, s_vret, go, ldI, lget, lput, lv_args, wsum, isB, va_rf, hnd, cvr, Value.category, oi_of, oi_add, oi_sub, oA_ap, oA_u2, pi_lt, pi_le, pi_eq, pi_eq0, pi_lt0, pi_le0, pi_gt0, pi_ge0, pi_cl, sb_lit, CN, D21, Z21, oi_lt0 ha, oi_ge0 ha, h1, oi_add, Int.not_le.mpr h1]
  · by_cases h2 : n ≤ a
    · simp [EvU, sx, stI, enI, caI, s_push, s_iload, s_aload, s_istore, s_astore, s_iinc, s_bin, s_div, s_i2l, s_lcmp, s_dup, s_dup2, s_pop, s_tab, s_look, s_get, s_put, s_iald, s_lald, s_aald, s_iast, s_last, s_aast, s_len, s_newa, s_new, s_thr, s_min, s_copy, s_obj, s_call, s_iret, s_aret, s_vret, go, ldI, lget, lput, lv_args, wsum, isB, va_rf, hnd, cvr, Value.category, oi_of, oi_add, oi_sub, oA_ap, oA_u2, pi_lt, pi_le, pi_eq, pi_eq0, pi_lt0, pi_le0, pi_gt0, pi_ge0, pi_cl, sb_lit, CN, D21, Z21, oi_lt0 ha, oi_ge0 ha, oi_lt ha hn, oi_le hn ha, h1, h2, oi_sub, Int.not_lt.mpr h2]
    · simp [EvU, sx, stI, enI, caI, s_push, s_iload, s_aload, s_istore, s_astore, s_iinc, s_bin, s_div, s_i2l, s_lcmp, s_dup, s_dup2, s_pop, s_tab, s_look, s_get, s_put, s_iald, s_lald, s_aald, s_iast, s_last, s_aast, s_len, s_newa, s_new, s_thr, s_min, s_copy, s_obj, s_call, s_iret, s_aret, s_vret, go, ldI, lget, lput, lv_args, wsum, isB, va_rf, hnd, cvr, Value.category, oi_of, oi_add, oi_sub, oA_ap, oA_u2, pi_lt, pi_le, pi_eq, pi_eq0, pi_lt0, pi_le0, pi_gt0, pi_ge0, pi_cl, sb_lit, CN, D21, Z21, oi_lt0 ha, oi_ge0 ha, oi_lt ha hn, oi_le hn ha, h1, h2, Int.not_le.mp h2]
theorem m_need_ok {a n : Int} (ha : sm a) (hn : sm n) (h0 : 0 ≤ a) (h1 : a < n) (h : Hp) (sl : Nat) (r : Out) : Ev (34, 0, [(0, .int (oi a)), (1, .int (oi n))], [], h, sl) r ↔ r = (.inl none, h, sl) := by
  obtain ⟨sh, gi, gl, gr⟩ := h
  rw [EvU_iff (fun _ => false) 20]
  simp [EvU, sx, stI, enI, caI, s_push, s_iload, s_aload, s_istore, s_astore, s_iinc, s_bin, s_div, s_i2l, s_lcmp, s_dup, s_dup2, s_pop, s_tab, s_look, s_get, s_put, s_iald, s_lald, s_aald, s_iast, s_last, s_aast, s_len, s_newa, s_new, s_thr, s_min, s_copy, s_obj, s_call, s_iret, s_aret, s_vret, go, ldI, lget, lput, lv_args, wsum, isB, va_rf, hnd, cvr, Value.category, oi_of, oi_add, oi_sub, oA_ap, oA_u2, pi_lt, pi_le, pi_eq, pi_eq0, pi_lt0, pi_le0, pi_gt0, pi_ge0, pi_cl, sb_lit, CN, D34, Z34, oi_lt0 ha, oi_ge0 ha, oi_lt ha hn, oi_le hn ha, Int.not_lt.mpr h0, Int.not_le.mpr h1, h1]
theorem m_need_no {a n : Int} (ha : sm a) (hn : sm n) (h0 : ¬ (0 ≤ a ∧ a < n)) (h : Hp) (sl : Nat) (r : Out) (hC : h.1.length ≤ mxC) (hS : sl + 6 ≤ mxS) : Ev (34, 0, [(0, .int (oi a)), (1, .int (oi n))], [], h, sl) r ↔ r = thrw 2 h sl := by
  obtain ⟨sh, gi, gl, gr⟩ := h
  rw [EvU_iff (fun _ => false) 20]
  unfold thrw
  by_cases h1 : a < 0
  · simp [EvU, sx, stI, enI, caI, s_push, s_iload, s_aload, s_istore, s_astore, s_iinc, s_bin, s_div, s_i2l, s_lcmp, s_dup, s_dup2, s_pop, s_tab, s_look, s_get, s_put, s_iald, s_lald, s_aald, s_iast, s_last, s_aast, s_len, s_newa, s_new, s_thr, s_min, s_copy, s_obj, s_call, s_iret, s_aret, s_vret, go, ldI, lget, lput, lv_args, wsum, isB, va_rf, hnd, cvr, Value.category, oi_of, oi_add, oi_sub, oA_ap, oA_u2, pi_lt, pi_le, pi_eq, pi_eq0, pi_lt0, pi_le0, pi_gt0, pi_ge0, pi_cl, sb_lit, CN, D34, Z34, oi_lt0 ha, h1, Nat.not_lt.mpr hC, Nat.not_lt.mpr hS]
  · have h2 : n ≤ a := by omega
    simp [EvU, sx, stI, enI, caI, s_push, s_iload, s_aload, s_istore, s_astore, s_iinc, s_bin, s_div, s_i2l, s_lcmp, s_dup, s_dup2, s_pop, s_tab, s_look, s_get, s_put, s_iald, s_lald, s_aald, s_iast, s_last, s_aast, s_len, s_newa, s_new, s_thr, s_min, s_copy, s_obj, s_call, s_iret, s_aret, s_vret, go, ldI, lget, lput, lv_args, wsum, isB, va_rf, hnd, cvr, Value.category, oi_of, oi_add, oi_sub, oA_ap, oA_u2, pi_lt, pi_le, pi_eq, pi_eq0, pi_lt0, pi_le0, pi_gt0, pi_ge0, pi_cl, sb_lit, CN, D34, Z34, oi_lt0 ha, oi_ge0 ha, oi_lt ha hn, oi_le hn ha, h1, h2, Int.not_lt.mpr h2, Nat.not_lt.mpr hC, Nat.not_lt.mpr hS]
