/-! the constructors' loops -/
def pwS : Nat → List (Nat × Nat)
  | 0 => []
  | m + 1 => (5, 2) :: (101, 61) :: pwS m
def pwG : Nat → Nat → (Nat → Nat → Option Nat) → Nat → Nat → Option Nat
  | 0, _, gr => gr
  | m + 1, k, gr => pwG m (k + 1) (u2 (u2 gr (48 + 2 * k) 0 (some (48 + 2 * k + 1))) 6 k (some (48 + 2 * k)))
def whS : Nat → List (Nat × Nat)
  | 0 => []
  | m + 1 => (8, 4) :: (100, 32) :: (100, 32) :: (101, 32) :: whS m
def whG : Nat → Nat → (Nat → Nat → Option Nat) → Nat → Nat → Option Nat
  | 0, _, gr => gr
  | m + 1, k, gr => whG m (k + 1) (u2 (u2 (u2 (u2 gr (16 + 4 * k) 0 (some (16 + 4 * k + 1))) (16 + 4 * k) 1 (some (16 + 4 * k + 2))) (16 + 4 * k) 2 (some (16 + 4 * k + 3))) 3 k (some (16 + 4 * k)))
def msS : Nat → List (Nat × Nat)
  | 0 => []
  | m + 1 => (3, 4) :: (6, 2) :: (100, 6) :: (100, 12) :: (100, 60) :: (100, 60) :: msS m
def msG : Nat → Nat → (Nat → Nat → Option Nat) → Nat → Nat → Option Nat
  | 0, _, gr => gr
  | m + 1, k, gr => msG m (k + 1) (u2 (u2 (u2 (u2 (u2 (u2 gr (76 + 6 * k + 1) 0 (some (76 + 6 * k + 2))) (76 + 6 * k + 1) 1 (some (76 + 6 * k + 3))) (76 + 6 * k) 0 (some (76 + 6 * k + 1))) (76 + 6 * k) 1 (some (76 + 6 * k + 4))) (76 + 6 * k) 2 (some (76 + 6 * k + 5))) 75 k (some (76 + 6 * k)))
section
variable {g : Nat → Nat → Int32} {r : Out}
theorem elc3 : elc 103 = 3 ∧ elc 104 = 5 ∧ elc 105 = 8 := ⟨rfl, rfl, rfl⟩
theorem uG {gr : Nat → Nat → Option Nat} {a q : Nat} (h : a ≠ q) (j i : Nat) (v : Option Nat) : u2 gr q j v a i = gr a i := by
  unfold u2
  rw [if_neg h]
set_option maxRecDepth 20000 in
theorem l_pw : ∀ (m k n : Nat) (sh : List (Nat × Nat)) (gr : Nat → Nat → Option Nat) (sl : Nat) (ls : Lc), k + m = 12 → n = 48 + 2 * k → sh.length = n → sh[2]? = some (2, 14) → sh[6]? = some (104, 12) → gr 2 3 = some 6 → Fr gr n → sl ≤ 10000 + 100 * k → nl ls = true → lget ls 0 = some (.ref 2) → lget ls 1 = some (.int (oi (k : Int))) →
    (Ev (2, 116, ls, [], (sh, zr n g, z64, gr), sl) r ↔ r = (.inl none, (sh ++ pwS m, zr (n + 2 * m) g, z64, pwG m k gr), sl + 63 * m)) := by
  intro m
  induction m with
  | zero =>
    intro k n sh gr sl ls hk hn hl h2 h6 g2 hf hs gg g0 g1
    obtain rfl : k = 12 := by omega
    have e0 : sb ((12 : Nat) : Int) := ⟨by omega, by omega⟩
    have e1 : (12 : Int) ≤ ((12 : Nat) : Int) := by omega
    rw [EvU_iff (fun _ => false) 10]
    simp (maxDischargeDepth := 9) [EvS, stI, enI, caI, s_push, s_iload, s_aload, s_istore, s_astore, s_iinc, s_bin, s_div, s_i2l, s_lcmp, s_dup, s_dup2, s_pop, s_tab, s_look, s_get, s_put, s_iald, s_lald, s_aald, s_iast, s_last, s_aast, s_len, s_newa, s_new, s_thr, s_min, s_copy, s_obj, s_call, s_iret, s_aret, s_vret, go, ldI, lget_lput, nl_I, nl_R, lv_args, wsum, va_rf, hnd, cvr, cat_i, cat_r, cat_l, oi_of, oi_add, oi_sub, oA_ap, oA_u2, pi_lt, pi_le, pi_eq, pi_eq0, pi_lt0, pi_le0, pi_gt0, pi_ge0, pi_cl, sb_lit, fv4, isB01, nlt0, EvU_0, wO_ne, wL_ne, wC_ne, wN_ne, pO_ne, pU_ne, CN, LN, -Prod.exists, pi_ti, Op.lookupswitch.offset, EvU_at d2_116, EvU_at d2_117, EvU_at d2_119, EvU_at d2_122, EvU_at d2_123, EvU_at d2_126, EvU_at d2_127, EvU_at d2_130, EvU_at d2_131, EvU_at d2_134, EvU_at d2_135, EvU_at d2_138, EvU_at d2_141, Z2, gg, g0, g1, e0, e1, pwS, pwG]
  | succ m ih =>
    intro k n sh gr sl ls hk hn hl h2 h6 g2 hf hs gg g0 g1
    have e0 : sb (k : Int) := ⟨by omega, by omega⟩
    have e1 : ¬ (12 : Int) ≤ (k : Int) := by omega
    have e2 : ¬ 12 ≤ k := by omega
    have m0 := mC90 (show n ≤ 1000 by omega)
    have m1 := mS9 (show sl ≤ 90000 by omega)
    have m2 := mC9 (show n ≤ 1000 by omega)
    have h1 : 1 ≤ n := by omega
    have a2 := ap h2
    have a6 := ap h6
    have f0 : Fr gr (n + 1) := hf.le (by omega)
    have b1 : (sh ++ [(5, 2)])[n]? = some (5, 2) := by
      rw [List.getElem?_append_right (by omega), hl]
      simp
    have b2 : (sh ++ [(5, 2), (101, 61)])[n]? = some (5, 2) := by
      rw [List.getElem?_append_right (by omega), hl]
      simp
    have cp := fun (r : Out) => c_pin (sh := sh ++ [(5, 2)]) (g := g) (gr := gr) (sl := sl + 2) (n := n + 1) (q := n) (r := r) (by simp [hl]) b1 f0 (by omega) (by omega) (by omega) (by omega)
    have key := ih (k + 1) (n + 2) (sh ++ [(5, 2), (101, 61)]) (u2 (u2 gr n 0 (some (n + 1))) 6 k (some n)) (sl + 63) (lput ls 1 (.int (oi ((k : Int) + 1)))) (by omega) (by omega) (by simp [hl]) (a2 _) (a6 _) (by rw [uG (by omega), uG (by omega)]; exact g2) (Fr_u (by omega) (Fr_u (by omega) (hf.le (by omega)))) (by omega) (by simp (maxDischargeDepth := 9) [lget_lput, nl_I, nl_R, gg]) (by simp (maxDischargeDepth := 9) [lget_lput, nl_I, nl_R, gg, g0]) (by simp (maxDischargeDepth := 9) [lget_lput, nl_I, nl_R, gg])
    have ez : pwG (m + 1) k gr = pwG m (k + 1) (u2 (u2 gr n 0 (some (n + 1))) 6 k (some n)) := by
      rw [pwG, hn]
    have es : sh ++ pwS (m + 1) = sh ++ [(5, 2), (101, 61)] ++ pwS m := by
      rw [pwS, List.append_assoc]
      rfl
    rw [ez, es, show n + 2 * (m + 1) = n + 2 + 2 * m by omega, show sl + 63 * (m + 1) = sl + 63 + 63 * m by omega, ← key]
    rw [EvU_iff (fun _ => false) 1]
    simp (maxDischargeDepth := 9) [EvS, stI, enI, caI, s_push, s_iload, s_aload, s_istore, s_astore, s_iinc, s_bin, s_div, s_i2l, s_lcmp, s_dup, s_dup2, s_pop, s_tab, s_look, s_get, s_put, s_iald, s_lald, s_aald, s_iast, s_last, s_aast, s_len, s_newa, s_new, s_thr, s_min, s_copy, s_obj, s_call, s_iret, s_aret, s_vret, go, ldI, lget_lput, nl_I, nl_R, lv_args, wsum, va_rf, hnd, cvr, cat_i, cat_r, cat_l, oi_of, oi_add, oi_sub, oA_ap, oA_u2, pi_lt, pi_le, pi_eq, pi_eq0, pi_lt0, pi_le0, pi_gt0, pi_ge0, pi_cl, sb_lit, fv4, isB01, nlt0, EvU_0, wO_ne, wL_ne, wC_ne, wN_ne, pO_ne, pU_ne, CN, LN, -Prod.exists, pi_ti, Op.lookupswitch.offset, EvU_at d2_116, EvU_at d2_117, EvU_at d2_119, EvU_at d2_122, EvU_at d2_123, EvU_at d2_126, EvU_at d2_127, EvU_at d2_130, EvU_at d2_131, EvU_at d2_134, EvU_at d2_135, EvU_at d2_138, EvU_at d2_141, Z2, gg, g0, g1]
    rw [EvU_iff (fun p => p == 116) 60]
    simp (maxDischargeDepth := 9) [EvS, stI, enI, caI, s_push, s_iload, s_aload, s_istore, s_astore, s_iinc, s_bin, s_div, s_i2l, s_lcmp, s_dup, s_dup2, s_pop, s_tab, s_look, s_get, s_put, s_iald, s_lald, s_aald, s_iast, s_last, s_aast, s_len, s_newa, s_new, s_thr, s_min, s_copy, s_obj, s_call, s_iret, s_aret, s_vret, go, ldI, lget_lput, nl_I, nl_R, lv_args, wsum, va_rf, hnd, cvr, cat_i, cat_r, cat_l, oi_of, oi_add, oi_sub, oA_ap, oA_u2, pi_lt, pi_le, pi_eq, pi_eq0, pi_lt0, pi_le0, pi_gt0, pi_ge0, pi_cl, sb_lit, fv4, isB01, nlt0, EvU_0, wO_ne, wL_ne, wC_ne, wN_ne, pO_ne, pU_ne, CN, LN, -Prod.exists, pi_ti, Op.lookupswitch.offset, EvU_at d2_116, EvU_at d2_117, EvU_at d2_119, EvU_at d2_122, EvU_at d2_123, EvU_at d2_126, EvU_at d2_127, EvU_at d2_130, EvU_at d2_131, EvU_at d2_134, EvU_at d2_135, EvU_at d2_138, EvU_at d2_141, Z2, Z6, gg, g0, g1, e0, e1, e2, hl, h2, h6, g2, a2, a6, b1, b2, hf, h1, rwF, zr_s, z64_s, Nat.add_assoc, m0, m1, m2, cp, elc3]
set_option maxRecDepth 20000 in
theorem l_wh : ∀ (m k n : Nat) (sh : List (Nat × Nat)) (gr : Nat → Nat → Option Nat) (sl : Nat) (ls : Lc), k + m = 8 → n = 16 + 4 * k → sh.length = n → sh[2]? = some (2, 14) → sh[3]? = some (105, 8) → sh[6]? = some (104, 12) → gr 2 0 = some 3 → gr 2 3 = some 6 → Fr gr n → sl ≤ 1000 + 100 * k → nl ls = true → lget ls 0 = some (.ref 2) → lget ls 1 = some (.int (oi (k : Int))) →
    (Ev (2, 89, ls, [], (sh, zr n g, z64, gr), sl) r ↔ r = (.inl none, (sh ++ whS m ++ pwS 12, zr 72 g, z64, pwG 12 0 (whG m k gr)), sl + 100 * m + 756)) := by
  intro m
  induction m with
  | zero =>
    intro k n sh gr sl ls hk hn hl h2 h3 h6 g20 g23 hf hs gg g0 g1
    obtain rfl : k = 8 := by omega
    obtain rfl : n = 48 := by omega
    have e0 : sb ((8 : Nat) : Int) := ⟨by omega, by omega⟩
    have e1 : (8 : Int) ≤ ((8 : Nat) : Int) := by omega
    have key := l_pw (g := g) (r := r) 12 0 48 sh gr sl (lput ls 1 (.int (oi ((0 : Nat) : Int)))) rfl rfl hl h2 h6 g23 hf (by omega) (by simp (maxDischargeDepth := 9) [lget_lput, nl_I, nl_R, gg]) (by simp (maxDischargeDepth := 9) [lget_lput, nl_I, nl_R, gg, g0]) (by simp (maxDischargeDepth := 9) [lget_lput, nl_I, nl_R, gg])
    rw [whS, whG, List.append_nil, show sl + 100 * 0 + 756 = sl + 63 * 12 by omega, show (72 : Nat) = 48 + 2 * 12 from rfl, ← key, EvU_iff (fun p => p == 116) 10]
    simp (maxDischargeDepth := 9) [EvS, stI, enI, caI, s_push, s_iload, s_aload, s_istore, s_astore, s_iinc, s_bin, s_div, s_i2l, s_lcmp, s_dup, s_dup2, s_pop, s_tab, s_look, s_get, s_put, s_iald, s_lald, s_aald, s_iast, s_last, s_aast, s_len, s_newa, s_new, s_thr, s_min, s_copy, s_obj, s_call, s_iret, s_aret, s_vret, go, ldI, lget_lput, nl_I, nl_R, lv_args, wsum, va_rf, hnd, cvr, cat_i, cat_r, cat_l, oi_of, oi_add, oi_sub, oA_ap, oA_u2, pi_lt, pi_le, pi_eq, pi_eq0, pi_lt0, pi_le0, pi_gt0, pi_ge0, pi_cl, sb_lit, fv4, isB01, nlt0, EvU_0, wO_ne, wL_ne, wC_ne, wN_ne, pO_ne, pU_ne, CN, LN, -Prod.exists, pi_ti, Op.lookupswitch.offset, EvU_at d2_89, EvU_at d2_90, EvU_at d2_92, EvU_at d2_95, EvU_at d2_96, EvU_at d2_99, EvU_at d2_100, EvU_at d2_103, EvU_at d2_104, EvU_at d2_107, EvU_at d2_108, EvU_at d2_111, EvU_at d2_114, EvU_at d2_115, EvU_at d2_116, Z2, gg, g0, g1, e0, e1]
  | succ m ih =>
    intro k n sh gr sl ls hk hn hl h2 h3 h6 g20 g23 hf hs gg g0 g1
    have e0 : sb (k : Int) := ⟨by omega, by omega⟩
    have e1 : ¬ (8 : Int) ≤ (k : Int) := by omega
    have e2 : ¬ 8 ≤ k := by omega
    have m0 := mC90 (show n ≤ 1000 by omega)
    have m1 := mS9 (show sl ≤ 90000 by omega)
    have m2 := mC9 (show n ≤ 1000 by omega)
    have h1 : 1 ≤ n := by omega
    have a2 := ap h2
    have a3 := ap h3
    have a6 := ap h6
    have f0 : Fr gr (n + 1) := hf.le (by omega)
    have b1 : (sh ++ [(8, 4)])[n]? = some (8, 4) := by
      rw [List.getElem?_append_right (by omega), hl]
      simp
    have b2 : (sh ++ [(8, 4), (100, 32), (100, 32), (101, 32)])[n]? = some (8, 4) := by
      rw [List.getElem?_append_right (by omega), hl]
      simp
    have b3 : ∀ h : 3 < (sh ++ [(8, 4), (100, 32), (100, 32), (101, 32)]).length, (sh ++ [(8, 4), (100, 32), (100, 32), (101, 32)])[3]'h = (105, 8) := by
      intro h
      have := a3 [(8, 4), (100, 32), (100, 32), (101, 32)]
      rw [List.getElem?_eq_getElem h] at this
      exact Option.some.inj this
    have cp := fun (r : Out) => c_wheel (sh := sh ++ [(8, 4)]) (g := g) (gr := gr) (sl := sl + 4) (n := n + 1) (q := n) (r := r) (by simp [hl]) b1 f0 (by omega) (by omega) (by omega) (by omega)
    have key := ih (k + 1) (n + 4) (sh ++ [(8, 4), (100, 32), (100, 32), (101, 32)]) (u2 (u2 (u2 (u2 gr n 0 (some (n + 1))) n 1 (some (n + 2))) n 2 (some (n + 3))) 3 k (some n)) (sl + 100) (lput ls 1 (.int (oi ((k : Int) + 1)))) (by omega) (by omega) (by simp [hl]) (a2 _) (a3 _) (a6 _) (by rw [uG (by omega), uG (by omega), uG (by omega), uG (by omega)]; exact g20) (by rw [uG (by omega), uG (by omega), uG (by omega), uG (by omega)]; exact g23) (Fr_u (by omega) (Fr_u (by omega) (Fr_u (by omega) (Fr_u (by omega) (hf.le (by omega)))))) (by omega) (by simp (maxDischargeDepth := 9) [lget_lput, nl_I, nl_R, gg]) (by simp (maxDischargeDepth := 9) [lget_lput, nl_I, nl_R, gg, g0]) (by simp (maxDischargeDepth := 9) [lget_lput, nl_I, nl_R, gg])
    have ez : whG (m + 1) k gr = whG m (k + 1) (u2 (u2 (u2 (u2 gr n 0 (some (n + 1))) n 1 (some (n + 2))) n 2 (some (n + 3))) 3 k (some n)) := by
      rw [whG, hn]
    have es : sh ++ whS (m + 1) = sh ++ [(8, 4), (100, 32), (100, 32), (101, 32)] ++ whS m := by
      rw [whS, List.append_assoc]
      rfl
    rw [ez, es, show sl + 100 * (m + 1) + 756 = sl + 100 + 100 * m + 756 by omega, ← key]
    rw [EvU_iff (fun _ => false) 1]
    simp (maxDischargeDepth := 9) [EvS, stI, enI, caI, s_push, s_iload, s_aload, s_istore, s_astore, s_iinc, s_bin, s_div, s_i2l, s_lcmp, s_dup, s_dup2, s_pop, s_tab, s_look, s_get, s_put, s_iald, s_lald, s_aald, s_iast, s_last, s_aast, s_len, s_newa, s_new, s_thr, s_min, s_copy, s_obj, s_call, s_iret, s_aret, s_vret, go, ldI, lget_lput, nl_I, nl_R, lv_args, wsum, va_rf, hnd, cvr, cat_i, cat_r, cat_l, oi_of, oi_add, oi_sub, oA_ap, oA_u2, pi_lt, pi_le, pi_eq, pi_eq0, pi_lt0, pi_le0, pi_gt0, pi_ge0, pi_cl, sb_lit, fv4, isB01, nlt0, EvU_0, wO_ne, wL_ne, wC_ne, wN_ne, pO_ne, pU_ne, CN, LN, -Prod.exists, pi_ti, Op.lookupswitch.offset, EvU_at d2_89, EvU_at d2_90, EvU_at d2_92, EvU_at d2_95, EvU_at d2_96, EvU_at d2_99, EvU_at d2_100, EvU_at d2_103, EvU_at d2_104, EvU_at d2_107, EvU_at d2_108, EvU_at d2_111, EvU_at d2_114, EvU_at d2_115, EvU_at d2_116, Z2, gg, g0, g1]
    rw [EvU_iff (fun p => p == 89) 60]
    simp (maxDischargeDepth := 9) [EvS, stI, enI, caI, s_push, s_iload, s_aload, s_istore, s_astore, s_iinc, s_bin, s_div, s_i2l, s_lcmp, s_dup, s_dup2, s_pop, s_tab, s_look, s_get, s_put, s_iald, s_lald, s_aald, s_iast, s_last, s_aast, s_len, s_newa, s_new, s_thr, s_min, s_copy, s_obj, s_call, s_iret, s_aret, s_vret, go, ldI, lget_lput, nl_I, nl_R, lv_args, wsum, va_rf, hnd, cvr, cat_i, cat_r, cat_l, oi_of, oi_add, oi_sub, oA_ap, oA_u2, pi_lt, pi_le, pi_eq, pi_eq0, pi_lt0, pi_le0, pi_gt0, pi_ge0, pi_cl, sb_lit, fv4, isB01, nlt0, EvU_0, wO_ne, wL_ne, wC_ne, wN_ne, pO_ne, pU_ne, CN, LN, -Prod.exists, pi_ti, Op.lookupswitch.offset, EvU_at d2_89, EvU_at d2_90, EvU_at d2_92, EvU_at d2_95, EvU_at d2_96, EvU_at d2_99, EvU_at d2_100, EvU_at d2_103, EvU_at d2_104, EvU_at d2_107, EvU_at d2_108, EvU_at d2_111, EvU_at d2_114, EvU_at d2_115, EvU_at d2_116, Z2, Z5, gg, g0, g1, e0, e1, e2, hl, h2, h3, g20, a2, a3, b1, b2, b3, hf, h1, rwF, zr_s, z64_s, Nat.add_assoc, m0, m1, m2, cp, elc3]
set_option maxRecDepth 20000 in
theorem l_ms : ∀ (m k n : Nat) (sh : List (Nat × Nat)) (gr : Nat → Nat → Option Nat) (sl : Nat) (ls : Lc), k + m = 20 → n = 76 + 6 * k → sh.length = n → sh[74]? = some (1, 3) → sh[75]? = some (103, 20) → gr 74 0 = some 75 → Fr gr n → sl ≤ 20000 + 200 * k → nl ls = true → lget ls 0 = some (.ref 74) → lget ls 1 = some (.int (oi (k : Int))) →
    (Ev (8, 15, ls, [], (sh, zr n g, z64, gr), sl) r ↔ r = (.inl none, (sh ++ msS m, zr (n + 6 * m) g, z64, msG m k gr), sl + 144 * m)) := by
  intro m
  induction m with
  | zero =>
    intro k n sh gr sl ls hk hn hl h2 h3 g20 hf hs gg g0 g1
    obtain rfl : k = 20 := by omega
    have e0 : sb ((20 : Nat) : Int) := ⟨by omega, by omega⟩
    have e1 : (20 : Int) ≤ ((20 : Nat) : Int) := by omega
    rw [EvU_iff (fun _ => false) 10]
    simp (maxDischargeDepth := 9) [EvS, stI, enI, caI, s_push, s_iload, s_aload, s_istore, s_astore, s_iinc, s_bin, s_div, s_i2l, s_lcmp, s_dup, s_dup2, s_pop, s_tab, s_look, s_get, s_put, s_iald, s_lald, s_aald, s_iast, s_last, s_aast, s_len, s_newa, s_new, s_thr, s_min, s_copy, s_obj, s_call, s_iret, s_aret, s_vret, go, ldI, lget_lput, nl_I, nl_R, lv_args, wsum, va_rf, hnd, cvr, cat_i, cat_r, cat_l, oi_of, oi_add, oi_sub, oA_ap, oA_u2, pi_lt, pi_le, pi_eq, pi_eq0, pi_lt0, pi_le0, pi_gt0, pi_ge0, pi_cl, sb_lit, fv4, isB01, nlt0, EvU_0, wO_ne, wL_ne, wC_ne, wN_ne, pO_ne, pU_ne, CN, LN, -Prod.exists, pi_ti, Op.lookupswitch.offset, EvU_at d8_0, EvU_at d8_1, EvU_at d8_4, EvU_at d8_5, EvU_at d8_7, EvU_at d8_10, EvU_at d8_13, EvU_at d8_14, EvU_at d8_15, EvU_at d8_16, EvU_at d8_18, EvU_at d8_21, EvU_at d8_22, EvU_at d8_25, EvU_at d8_26, EvU_at d8_29, EvU_at d8_30, EvU_at d8_33, EvU_at d8_34, EvU_at d8_37, EvU_at d8_40, Z8, gg, g0, g1, e0, e1, msS, msG]
  | succ m ih =>
    intro k n sh gr sl ls hk hn hl h2 h3 g20 hf hs gg g0 g1
    have e0 : sb (k : Int) := ⟨by omega, by omega⟩
    have e1 : ¬ (20 : Int) ≤ (k : Int) := by omega
    have e2 : ¬ 20 ≤ k := by omega
    have m0 := mC90 (show n ≤ 1000 by omega)
    have m1 := mS9 (show sl ≤ 90000 by omega)
    have m2 := mC9 (show n ≤ 1000 by omega)
    have h1 : 1 ≤ n := by omega
    have a2 := ap h2
    have a3 := ap h3
    have f0 : Fr gr (n + 1) := hf.le (by omega)
    have b1 : (sh ++ [(3, 4)])[n]? = some (3, 4) := by
      rw [List.getElem?_append_right (by omega), hl]
      simp
    have b2 : (sh ++ [(3, 4), (6, 2), (100, 6), (100, 12), (100, 60), (100, 60)])[n]? = some (3, 4) := by
      rw [List.getElem?_append_right (by omega), hl]
      simp
    have cp := fun (r : Out) => c_message (sh := sh ++ [(3, 4)]) (g := g) (gr := gr) (sl := sl + 4) (n := n + 1) (q := n) (r := r) (by simp [hl]) b1 f0 (by omega) (by omega) (by omega) (by omega)
    have key := ih (k + 1) (n + 6) (sh ++ [(3, 4), (6, 2), (100, 6), (100, 12), (100, 60), (100, 60)]) (u2 (u2 (u2 (u2 (u2 (u2 gr (n + 1) 0 (some (n + 2))) (n + 1) 1 (some (n + 3))) n 0 (some (n + 1))) n 1 (some (n + 4))) n 2 (some (n + 5))) 75 k (some n)) (sl + 144) (lput ls 1 (.int (oi ((k : Int) + 1)))) (by omega) (by omega) (by simp [hl]) (a2 _) (a3 _) (by rw [uG (by omega), uG (by omega), uG (by omega), uG (by omega), uG (by omega), uG (by omega)]; exact g20) (Fr_u (by omega) (Fr_u (by omega) (Fr_u (by omega) (Fr_u (by omega) (Fr_u (by omega) (Fr_u (by omega) (hf.le (by omega)))))))) (by omega) (by simp (maxDischargeDepth := 9) [lget_lput, nl_I, nl_R, gg]) (by simp (maxDischargeDepth := 9) [lget_lput, nl_I, nl_R, gg, g0]) (by simp (maxDischargeDepth := 9) [lget_lput, nl_I, nl_R, gg])
    have ez : msG (m + 1) k gr = msG m (k + 1) (u2 (u2 (u2 (u2 (u2 (u2 gr (n + 1) 0 (some (n + 2))) (n + 1) 1 (some (n + 3))) n 0 (some (n + 1))) n 1 (some (n + 4))) n 2 (some (n + 5))) 75 k (some n)) := by
      rw [msG, hn]
    have es : sh ++ msS (m + 1) = sh ++ [(3, 4), (6, 2), (100, 6), (100, 12), (100, 60), (100, 60)] ++ msS m := by
      rw [msS, List.append_assoc]
      rfl
    rw [ez, es, show sl + 144 * (m + 1) = sl + 144 + 144 * m by omega, show n + 6 * (m + 1) = n + 6 + 6 * m by omega, ← key]
    rw [EvU_iff (fun _ => false) 1]
    simp (maxDischargeDepth := 9) [EvS, stI, enI, caI, s_push, s_iload, s_aload, s_istore, s_astore, s_iinc, s_bin, s_div, s_i2l, s_lcmp, s_dup, s_dup2, s_pop, s_tab, s_look, s_get, s_put, s_iald, s_lald, s_aald, s_iast, s_last, s_aast, s_len, s_newa, s_new, s_thr, s_min, s_copy, s_obj, s_call, s_iret, s_aret, s_vret, go, ldI, lget_lput, nl_I, nl_R, lv_args, wsum, va_rf, hnd, cvr, cat_i, cat_r, cat_l, oi_of, oi_add, oi_sub, oA_ap, oA_u2, pi_lt, pi_le, pi_eq, pi_eq0, pi_lt0, pi_le0, pi_gt0, pi_ge0, pi_cl, sb_lit, fv4, isB01, nlt0, EvU_0, wO_ne, wL_ne, wC_ne, wN_ne, pO_ne, pU_ne, CN, LN, -Prod.exists, pi_ti, Op.lookupswitch.offset, EvU_at d8_0, EvU_at d8_1, EvU_at d8_4, EvU_at d8_5, EvU_at d8_7, EvU_at d8_10, EvU_at d8_13, EvU_at d8_14, EvU_at d8_15, EvU_at d8_16, EvU_at d8_18, EvU_at d8_21, EvU_at d8_22, EvU_at d8_25, EvU_at d8_26, EvU_at d8_29, EvU_at d8_30, EvU_at d8_33, EvU_at d8_34, EvU_at d8_37, EvU_at d8_40, Z8, gg, g0, g1]
    rw [EvU_iff (fun p => p == 15) 60]
    simp (maxDischargeDepth := 9) [EvS, stI, enI, caI, s_push, s_iload, s_aload, s_istore, s_astore, s_iinc, s_bin, s_div, s_i2l, s_lcmp, s_dup, s_dup2, s_pop, s_tab, s_look, s_get, s_put, s_iald, s_lald, s_aald, s_iast, s_last, s_aast, s_len, s_newa, s_new, s_thr, s_min, s_copy, s_obj, s_call, s_iret, s_aret, s_vret, go, ldI, lget_lput, nl_I, nl_R, lv_args, wsum, va_rf, hnd, cvr, cat_i, cat_r, cat_l, oi_of, oi_add, oi_sub, oA_ap, oA_u2, pi_lt, pi_le, pi_eq, pi_eq0, pi_lt0, pi_le0, pi_gt0, pi_ge0, pi_cl, sb_lit, fv4, isB01, nlt0, EvU_0, wO_ne, wL_ne, wC_ne, wN_ne, pO_ne, pU_ne, CN, LN, -Prod.exists, pi_ti, Op.lookupswitch.offset, EvU_at d8_0, EvU_at d8_1, EvU_at d8_4, EvU_at d8_5, EvU_at d8_7, EvU_at d8_10, EvU_at d8_13, EvU_at d8_14, EvU_at d8_15, EvU_at d8_16, EvU_at d8_18, EvU_at d8_21, EvU_at d8_22, EvU_at d8_25, EvU_at d8_26, EvU_at d8_29, EvU_at d8_30, EvU_at d8_33, EvU_at d8_34, EvU_at d8_37, EvU_at d8_40, Z8, Z9, gg, g0, g1, e0, e1, e2, hl, h2, h3, g20, a2, a3, b1, b2, hf, h1, rwF, zr_s, z64_s, Nat.add_assoc, m0, m1, m2, cp, elc3]
end
