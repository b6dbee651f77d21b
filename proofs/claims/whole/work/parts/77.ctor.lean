/-! the constructors: what they make -/
def zr (m : Nat) (g : Nat → Nat → Int32) : Nat → Nat → Int32 := fun a b => if 1 ≤ a ∧ a < m then 0 else g a b
theorem zr_s (g : Nat → Nat → Int32) {m : Nat} (hm : 1 ≤ m) : rw0 (zr m g) m 0 = zr (m + 1) g := by
  funext a b
  unfold rw0 zr
  by_cases h : a = m
  · rw [if_pos h, if_pos (by omega)]
    try rfl
  · rw [if_neg h]
    by_cases h2 : 1 ≤ a ∧ a < m
    · rw [if_pos h2, if_pos (by omega)]
    · rw [if_neg h2, if_neg (by omega)]
def z64 : Nat → Nat → Int64 := fun _ _ => 0
theorem z64_s (m : Nat) : rw0 z64 m 0 = z64 := by
  funext a b
  unfold rw0 z64
  split <;> rfl
def Fr (gr : Nat → Nat → Option Nat) (n : Nat) : Prop := ∀ a j, n ≤ a → gr a j = none
section
variable {gr : Nat → Nat → Option Nat} {n m q j : Nat} {v : Option Nat}
theorem Fr.le (h : Fr gr n) (hm : n ≤ m) : Fr gr m := fun a j ha => h a j (by omega)
theorem rwF (h : Fr gr m) : rw0 gr m none = gr := by
  funext a b
  unfold rw0
  by_cases c : a = m
  · rw [if_pos c, h a b (by omega)]
    try rfl
  · rw [if_neg c]
theorem Fr_u (hq : q < m) (h : Fr gr m) : Fr (u2 gr q j v) m := by
  intro a b ha
  unfold u2
  rw [if_neg (by omega)]
  exact h a b ha
end
section
variable {sh : List (Nat × Nat)} {g : Nat → Nat → Int32} {gr : Nat → Nat → Option Nat} {sl n q : Nat} {r : Out}
theorem ap {z : Nat × Nat} (h : sh[q]? = some z) (l : List (Nat × Nat)) : (sh ++ l)[q]? = some z := by
  rw [List.getElem?_append_left (List.getElem?_eq_some_iff.mp h).1]
  exact h
theorem mS9 {sl : Nat} (h : sl ≤ 90000) (k : Nat) (hk : k ≤ 9000) : ¬ mxS < sl + k := by
  unfold mxS
  omega
theorem mC9 {n : Nat} (h : n ≤ 1000) (k : Nat) (hk : k ≤ 1000) : ¬ mxC < n + k := by
  unfold mxC
  omega
theorem mC90 {n : Nat} (h : n ≤ 1000) : ¬ mxC < n := by
  unfold mxC
  omega
set_option maxRecDepth 20000 in
theorem c_pairs (hl : sh.length = n) (hq : sh[q]? = some (4, 2)) (hf : Fr gr n) (h1 : 1 ≤ n) (h2 : n ≤ 900) (hs : sl ≤ 90000) (qn : q < n) : Ev (3, 0, [(0, .ref q)], [], (sh, zr n g, z64, gr), sl) r ↔ r = (.inl none, (sh ++ [(100, 32)], zr (n + 1) g, z64, u2 gr q 0 (some n)), sl + 32) := by
  rw [EvU_iff (fun _ => false) 20]
  have m0 := mC90 (show n ≤ 1000 by omega)
  have m1 := mS9 hs
  have a1 := ap hq
  simp [EvS, stI, enI, caI, s_push, s_iload, s_aload, s_istore, s_astore, s_iinc, s_bin, s_div, s_i2l, s_lcmp, s_dup, s_dup2, s_pop, s_tab, s_look, s_get, s_put, s_iald, s_lald, s_aald, s_iast, s_last, s_aast, s_len, s_newa, s_new, s_thr, s_min, s_copy, s_obj, s_call, s_iret, s_aret, s_vret, go, ldI, lget, lput, lv_args, wsum, va_rf, hnd, cvr, cat_i, cat_r, cat_l, oi_of, oi_add, oi_sub, oA_ap, oA_u2, pi_lt, pi_le, pi_eq, pi_eq0, pi_lt0, pi_le0, pi_gt0, pi_ge0, pi_cl, sb_lit, fv4, isB01, nlt0, EvU_0, wO_ne, wL_ne, wC_ne, wN_ne, pO_ne, pU_ne, CN, LN, -Prod.exists, pi_ti, Op.lookupswitch.offset, EvU_at d3_0, EvU_at d3_1, EvU_at d3_4, EvU_at d3_5, EvU_at d3_7, EvU_at d3_9, EvU_at d3_12, Z3, hl, hq, a1, hf, h1, rwF, zr_s, z64_s, Nat.add_assoc, m0, m1]
set_option maxRecDepth 20000 in
theorem c_stand (hl : sh.length = n) (hq : sh[q]? = some (6, 2)) (hf : Fr gr n) (h1 : 1 ≤ n) (h2 : n ≤ 900) (hs : sl ≤ 90000) (qn : q < n) : Ev (4, 0, [(0, .ref q)], [], (sh, zr n g, z64, gr), sl) r ↔ r = (.inl none, (sh ++ [(100, 6), (100, 12)], zr (n + 2) g, z64, u2 (u2 gr q 0 (some n)) q 1 (some (n + 1))), sl + 18) := by
  rw [EvU_iff (fun _ => false) 20]
  have m0 := mC90 (show n ≤ 1000 by omega)
  have m1 := mS9 hs
  have m2 := mC9 (show n ≤ 1000 by omega)
  have a1 := ap hq
  have f1 : Fr (u2 gr q 0 (some n)) (n + 1) := Fr_u (by omega) (hf.le (by omega))
  simp [EvS, stI, enI, caI, s_push, s_iload, s_aload, s_istore, s_astore, s_iinc, s_bin, s_div, s_i2l, s_lcmp, s_dup, s_dup2, s_pop, s_tab, s_look, s_get, s_put, s_iald, s_lald, s_aald, s_iast, s_last, s_aast, s_len, s_newa, s_new, s_thr, s_min, s_copy, s_obj, s_call, s_iret, s_aret, s_vret, go, ldI, lget, lput, lv_args, wsum, va_rf, hnd, cvr, cat_i, cat_r, cat_l, oi_of, oi_add, oi_sub, oA_ap, oA_u2, pi_lt, pi_le, pi_eq, pi_eq0, pi_lt0, pi_le0, pi_gt0, pi_ge0, pi_cl, sb_lit, fv4, isB01, nlt0, EvU_0, wO_ne, wL_ne, wC_ne, wN_ne, pO_ne, pU_ne, CN, LN, -Prod.exists, pi_ti, Op.lookupswitch.offset, EvU_at d4_0, EvU_at d4_1, EvU_at d4_4, EvU_at d4_5, EvU_at d4_7, EvU_at d4_9, EvU_at d4_12, EvU_at d4_13, EvU_at d4_15, EvU_at d4_17, EvU_at d4_20, Z4, hl, hq, a1, hf, f1, h1, rwF, zr_s, z64_s, Nat.add_assoc, m0, m1, m2]
set_option maxRecDepth 20000 in
theorem c_wheel (hl : sh.length = n) (hq : sh[q]? = some (8, 4)) (hf : Fr gr n) (h1 : 1 ≤ n) (h2 : n ≤ 900) (hs : sl ≤ 90000) (qn : q < n) : Ev (5, 0, [(0, .ref q)], [], (sh, zr n g, z64, gr), sl) r ↔ r = (.inl none, (sh ++ [(100, 32), (100, 32), (101, 32)], zr (n + 3) g, z64, u2 (u2 (u2 gr q 0 (some n)) q 1 (some (n + 1))) q 2 (some (n + 2))), sl + 96) := by
  rw [EvU_iff (fun _ => false) 20]
  have m0 := mC90 (show n ≤ 1000 by omega)
  have m1 := mS9 hs
  have m2 := mC9 (show n ≤ 1000 by omega)
  have a1 := ap hq
  have f1 : Fr (u2 gr q 0 (some n)) (n + 1) := Fr_u (by omega) (hf.le (by omega))
  have f2 : Fr (u2 (u2 gr q 0 (some n)) q 1 (some (n + 1))) (n + 2) := Fr_u (by omega) (Fr_u (by omega) (hf.le (by omega)))
  simp [EvS, stI, enI, caI, s_push, s_iload, s_aload, s_istore, s_astore, s_iinc, s_bin, s_div, s_i2l, s_lcmp, s_dup, s_dup2, s_pop, s_tab, s_look, s_get, s_put, s_iald, s_lald, s_aald, s_iast, s_last, s_aast, s_len, s_newa, s_new, s_thr, s_min, s_copy, s_obj, s_call, s_iret, s_aret, s_vret, go, ldI, lget, lput, lv_args, wsum, va_rf, hnd, cvr, cat_i, cat_r, cat_l, oi_of, oi_add, oi_sub, oA_ap, oA_u2, pi_lt, pi_le, pi_eq, pi_eq0, pi_lt0, pi_le0, pi_gt0, pi_ge0, pi_cl, sb_lit, fv4, isB01, nlt0, EvU_0, wO_ne, wL_ne, wC_ne, wN_ne, pO_ne, pU_ne, CN, LN, -Prod.exists, pi_ti, Op.lookupswitch.offset, EvU_at d5_0, EvU_at d5_1, EvU_at d5_4, EvU_at d5_5, EvU_at d5_7, EvU_at d5_9, EvU_at d5_12, EvU_at d5_13, EvU_at d5_15, EvU_at d5_17, EvU_at d5_20, EvU_at d5_21, EvU_at d5_23, EvU_at d5_25, EvU_at d5_28, Z5, hl, hq, a1, hf, f1, f2, h1, rwF, zr_s, z64_s, Nat.add_assoc, m0, m1, m2]
set_option maxRecDepth 20000 in
theorem c_pin (hl : sh.length = n) (hq : sh[q]? = some (5, 2)) (hf : Fr gr n) (h1 : 1 ≤ n) (h2 : n ≤ 900) (hs : sl ≤ 90000) (qn : q < n) : Ev (6, 0, [(0, .ref q)], [], (sh, zr n g, z64, gr), sl) r ↔ r = (.inl none, (sh ++ [(101, 61)], zr (n + 1) g, z64, u2 gr q 0 (some n)), sl + 61) := by
  rw [EvU_iff (fun _ => false) 20]
  have m0 := mC90 (show n ≤ 1000 by omega)
  have m1 := mS9 hs
  have a1 := ap hq
  simp [EvS, stI, enI, caI, s_push, s_iload, s_aload, s_istore, s_astore, s_iinc, s_bin, s_div, s_i2l, s_lcmp, s_dup, s_dup2, s_pop, s_tab, s_look, s_get, s_put, s_iald, s_lald, s_aald, s_iast, s_last, s_aast, s_len, s_newa, s_new, s_thr, s_min, s_copy, s_obj, s_call, s_iret, s_aret, s_vret, go, ldI, lget, lput, lv_args, wsum, va_rf, hnd, cvr, cat_i, cat_r, cat_l, oi_of, oi_add, oi_sub, oA_ap, oA_u2, pi_lt, pi_le, pi_eq, pi_eq0, pi_lt0, pi_le0, pi_gt0, pi_ge0, pi_cl, sb_lit, fv4, isB01, nlt0, EvU_0, wO_ne, wL_ne, wC_ne, wN_ne, pO_ne, pU_ne, CN, LN, -Prod.exists, pi_ti, Op.lookupswitch.offset, EvU_at d6_0, EvU_at d6_1, EvU_at d6_4, EvU_at d6_5, EvU_at d6_7, EvU_at d6_9, EvU_at d6_12, Z6, hl, hq, a1, hf, h1, rwF, zr_s, z64_s, Nat.add_assoc, m0, m1]
set_option maxRecDepth 20000 in
theorem c_steps (hl : sh.length = n) (hq : sh[q]? = some (7, 3)) (hf : Fr gr n) (h1 : 1 ≤ n) (h2 : n ≤ 900) (hs : sl ≤ 90000) (qn : q < n) : Ev (7, 0, [(0, .ref q)], [], (sh, zr n g, z64, gr), sl) r ↔ r = (.inl none, (sh ++ [(100, 40)], zr (n + 1) g, z64, u2 gr q 0 (some n)), sl + 40) := by
  rw [EvU_iff (fun _ => false) 20]
  have m0 := mC90 (show n ≤ 1000 by omega)
  have m1 := mS9 hs
  have a1 := ap hq
  simp [EvS, stI, enI, caI, s_push, s_iload, s_aload, s_istore, s_astore, s_iinc, s_bin, s_div, s_i2l, s_lcmp, s_dup, s_dup2, s_pop, s_tab, s_look, s_get, s_put, s_iald, s_lald, s_aald, s_iast, s_last, s_aast, s_len, s_newa, s_new, s_thr, s_min, s_copy, s_obj, s_call, s_iret, s_aret, s_vret, go, ldI, lget, lput, lv_args, wsum, va_rf, hnd, cvr, cat_i, cat_r, cat_l, oi_of, oi_add, oi_sub, oA_ap, oA_u2, pi_lt, pi_le, pi_eq, pi_eq0, pi_lt0, pi_le0, pi_gt0, pi_ge0, pi_cl, sb_lit, fv4, isB01, nlt0, EvU_0, wO_ne, wL_ne, wC_ne, wN_ne, pO_ne, pU_ne, CN, LN, -Prod.exists, pi_ti, Op.lookupswitch.offset, EvU_at d7_0, EvU_at d7_1, EvU_at d7_4, EvU_at d7_5, EvU_at d7_7, EvU_at d7_9, EvU_at d7_12, Z7, hl, hq, a1, hf, h1, rwF, zr_s, z64_s, Nat.add_assoc, m0, m1]
set_option maxRecDepth 20000 in
theorem c_message (hl : sh.length = n) (hq : sh[q]? = some (3, 4)) (hf : Fr gr n) (h1 : 1 ≤ n) (h2 : n ≤ 800) (hs : sl ≤ 80000) (qn : q < n) : Ev (9, 0, [(0, .ref q)], [], (sh, zr n g, z64, gr), sl) r ↔ r = (.inl none, (sh ++ [(6, 2), (100, 6), (100, 12), (100, 60), (100, 60)], zr (n + 5) g, z64, u2 (u2 (u2 (u2 (u2 gr n 0 (some (n + 1))) n 1 (some (n + 2))) q 0 (some n)) q 1 (some (n + 3))) q 2 (some (n + 4))), sl + 140) := by
  rw [EvU_iff (fun _ => false) 20]
  have m0 := mC90 (show n ≤ 1000 by omega)
  have m1 := mS9 (show sl ≤ 90000 by omega)
  have m2 := mC9 (show n ≤ 1000 by omega)
  have a1 := ap hq
  have f0 : Fr gr (n + 1) := hf.le (by omega)
  have a2 : (sh ++ [(6, 2)])[n]? = some (6, 2) := by
    rw [List.getElem?_append_right (by omega), hl]
    simp
  have cs := fun (r : Out) => c_stand (sh := sh ++ [(6, 2)]) (g := g) (gr := gr) (sl := sl + 2) (n := n + 1) (q := n) (r := r) (by simp [hl]) a2 f0 (by omega) (by omega) (by omega) (by omega)
  have f1 : Fr (u2 (u2 (u2 gr n 0 (some (n + 1))) n 1 (some (n + 2))) q 0 (some n)) (n + 3) := Fr_u (by omega) (Fr_u (by omega) (Fr_u (by omega) (hf.le (by omega))))
  have f2 : Fr (u2 (u2 (u2 (u2 gr n 0 (some (n + 1))) n 1 (some (n + 2))) q 0 (some n)) q 1 (some (n + 3))) (n + 4) := Fr_u (by omega) (f1.le (by omega))
  simp [EvS, stI, enI, caI, s_push, s_iload, s_aload, s_istore, s_astore, s_iinc, s_bin, s_div, s_i2l, s_lcmp, s_dup, s_dup2, s_pop, s_tab, s_look, s_get, s_put, s_iald, s_lald, s_aald, s_iast, s_last, s_aast, s_len, s_newa, s_new, s_thr, s_min, s_copy, s_obj, s_call, s_iret, s_aret, s_vret, go, ldI, lget, lput, lv_args, wsum, va_rf, hnd, cvr, cat_i, cat_r, cat_l, oi_of, oi_add, oi_sub, oA_ap, oA_u2, pi_lt, pi_le, pi_eq, pi_eq0, pi_lt0, pi_le0, pi_gt0, pi_ge0, pi_cl, sb_lit, fv4, isB01, nlt0, EvU_0, wO_ne, wL_ne, wC_ne, wN_ne, pO_ne, pU_ne, CN, LN, -Prod.exists, pi_ti, Op.lookupswitch.offset, EvU_at d9_0, EvU_at d9_1, EvU_at d9_4, EvU_at d9_5, EvU_at d9_8, EvU_at d9_9, EvU_at d9_12, EvU_at d9_15, EvU_at d9_16, EvU_at d9_18, EvU_at d9_20, EvU_at d9_23, EvU_at d9_24, EvU_at d9_26, EvU_at d9_28, EvU_at d9_31, Z9, Z4, hl, hq, a1, a2, hf, f1, f2, h1, rwF, zr_s, z64_s, Nat.add_assoc, m0, m1, m2, cs]
end
