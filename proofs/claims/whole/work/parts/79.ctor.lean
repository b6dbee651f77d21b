/-! the constructors -/
def mB9 : List (Nat × Nat) := [(105, 8), (100, 6), (100, 6), (104, 12), (100, 27), (100, 27), (4, 2), (100, 32), (4, 2), (100, 32), (6, 2), (100, 6), (100, 12)]
def mG (gr : Nat → Nat → Option Nat) : Nat → Nat → Option Nat := (u2 (u2 (u2 (u2 (u2 (u2 (u2 (u2 (u2 (u2 (u2 (u2 (u2 gr 2 0 (some 3)) 2 1 (some 4)) 2 2 (some 5)) 2 3 (some 6)) 2 4 (some 7)) 2 5 (some 8)) 9 0 (some 10)) 2 6 (some 9)) 11 0 (some 12)) 2 7 (some 11)) 13 0 (some 14)) 13 1 (some 15)) 2 8 (some 13))
section
variable {sh : List (Nat × Nat)} {g : Nat → Nat → Int32} {gr : Nat → Nat → Option Nat} {sl : Nat} {r : Out}
set_option maxRecDepth 20000 in
theorem c_machine (hl : sh.length = 3) (hq : sh[2]? = some (2, 14)) (hf : Fr gr 3) (hs : sl ≤ 500) : Ev (2, 0, [(0, .ref 2)], [], (sh, zr 3 g, z64, gr), sl) r ↔ r = (.inl none, (sh ++ mB9 ++ whS 8 ++ pwS 12, zr 72 g, z64, pwG 12 0 (whG 8 0 (mG gr))), sl + 1730) := by
  have a1 := ap hq
  have m1 := mS9 (show sl ≤ 90000 by omega)
  have hf' : ∀ m, 3 ≤ m → Fr gr m := fun m hm => hf.le hm
  have c2 : ∀ h : 2 < sh.length, sh[2]'h = (2, 14) := fun h => by
    rw [List.getElem?_eq_getElem h] at hq
    exact Option.some.inj hq
  have b9 : (sh ++ [(105, 8), (100, 6), (100, 6), (104, 12), (100, 27), (100, 27), (4, 2)])[9]? = some (4, 2) := by rw [List.getElem?_append_right (by omega), hl]; rfl
  have b11 : (sh ++ [(105, 8), (100, 6), (100, 6), (104, 12), (100, 27), (100, 27), (4, 2), (100, 32), (4, 2)])[11]? = some (4, 2) := by rw [List.getElem?_append_right (by omega), hl]; rfl
  have b13 : (sh ++ [(105, 8), (100, 6), (100, 6), (104, 12), (100, 27), (100, 27), (4, 2), (100, 32), (4, 2), (100, 32), (6, 2)])[13]? = some (6, 2) := by rw [List.getElem?_append_right (by omega), hl]; rfl
  have d3 : (sh ++ mB9)[3]? = some (105, 8) := by rw [List.getElem?_append_right (by omega), hl]; rfl
  have d6 : (sh ++ mB9)[6]? = some (104, 12) := by rw [List.getElem?_append_right (by omega), hl]; rfl
  have p1 := fun (r : Out) => c_pairs (sh := sh ++ [(105, 8), (100, 6), (100, 6), (104, 12), (100, 27), (100, 27), (4, 2)]) (g := g) (gr := (u2 (u2 (u2 (u2 (u2 (u2 gr 2 0 (some 3)) 2 1 (some 4)) 2 2 (some 5)) 2 3 (some 6)) 2 4 (some 7)) 2 5 (some 8))) (sl := sl + 88) (n := 10) (q := 9) (r := r) (by simp [hl]) b9 (by repeat (first | exact hf.le (by omega) | refine Fr_u (by omega) ?_)) (by omega) (by omega) (by omega) (by omega)
  have p2 := fun (r : Out) => c_pairs (sh := sh ++ [(105, 8), (100, 6), (100, 6), (104, 12), (100, 27), (100, 27), (4, 2), (100, 32), (4, 2)]) (g := g) (gr := (u2 (u2 (u2 (u2 (u2 (u2 (u2 (u2 gr 2 0 (some 3)) 2 1 (some 4)) 2 2 (some 5)) 2 3 (some 6)) 2 4 (some 7)) 2 5 (some 8)) 9 0 (some 10)) 2 6 (some 9))) (sl := sl + 122) (n := 12) (q := 11) (r := r) (by simp [hl]) b11 (by repeat (first | exact hf.le (by omega) | refine Fr_u (by omega) ?_)) (by omega) (by omega) (by omega) (by omega)
  have p3 := fun (r : Out) => c_stand (sh := sh ++ [(105, 8), (100, 6), (100, 6), (104, 12), (100, 27), (100, 27), (4, 2), (100, 32), (4, 2), (100, 32), (6, 2)]) (g := g) (gr := (u2 (u2 (u2 (u2 (u2 (u2 (u2 (u2 (u2 (u2 gr 2 0 (some 3)) 2 1 (some 4)) 2 2 (some 5)) 2 3 (some 6)) 2 4 (some 7)) 2 5 (some 8)) 9 0 (some 10)) 2 6 (some 9)) 11 0 (some 12)) 2 7 (some 11))) (sl := sl + 156) (n := 14) (q := 13) (r := r) (by simp [hl]) b13 (by repeat (first | exact hf.le (by omega) | refine Fr_u (by omega) ?_)) (by omega) (by omega) (by omega) (by omega)
  have key := l_wh (g := g) (r := r) 8 0 16 (sh ++ mB9) (mG gr) (sl + 174) [(1, .int (oi 0)), (0, .ref 2)] rfl rfl (by simp [hl, mB9]) (a1 _) d3 d6 (by simp [mG, u2]) (by simp [mG, u2]) (by unfold mG; repeat (first | exact hf.le (by omega) | refine Fr_u (by omega) ?_)) (by omega) (by simp [nl, cat_i, cat_r]) (by simp [lget, cat_i, cat_r]) (by simp [lget, cat_i, cat_r])
  rw [show sl + 1730 = sl + 174 + 100 * 8 + 756 by omega, ← key, EvU_iff (fun p => p == 89) 60]
  unfold mB9 mG
  simp (maxDischargeDepth := 40) [EvS, stI, enI, caI, s_push, s_iload, s_aload, s_istore, s_astore, s_iinc, s_bin, s_div, s_i2l, s_lcmp, s_dup, s_dup2, s_pop, s_tab, s_look, s_get, s_put, s_iald, s_lald, s_aald, s_iast, s_last, s_aast, s_len, s_newa, s_new, s_thr, s_min, s_copy, s_obj, s_call, s_iret, s_aret, s_vret, go, ldI, lget, lput, lv_args, wsum, va_rf, hnd, cvr, cat_i, cat_r, cat_l, oi_of, oi_add, oi_sub, oA_ap, oA_u2, pi_lt, pi_le, pi_eq, pi_eq0, pi_lt0, pi_le0, pi_gt0, pi_ge0, pi_cl, sb_lit, fv4, isB01, nlt0, EvU_0, wO_ne, wL_ne, wC_ne, wN_ne, pO_ne, pU_ne, CN, LN, -Prod.exists, pi_ti, Op.lookupswitch.offset, EvU_at d2_0, EvU_at d2_1, EvU_at d2_4, EvU_at d2_5, EvU_at d2_7, EvU_at d2_10, EvU_at d2_13, EvU_at d2_14, EvU_at d2_16, EvU_at d2_18, EvU_at d2_21, EvU_at d2_22, EvU_at d2_24, EvU_at d2_26, EvU_at d2_29, EvU_at d2_30, EvU_at d2_32, EvU_at d2_35, EvU_at d2_38, EvU_at d2_39, EvU_at d2_41, EvU_at d2_43, EvU_at d2_46, EvU_at d2_47, EvU_at d2_49, EvU_at d2_51, EvU_at d2_54, EvU_at d2_55, EvU_at d2_58, EvU_at d2_59, EvU_at d2_62, EvU_at d2_65, EvU_at d2_66, EvU_at d2_69, EvU_at d2_70, EvU_at d2_73, EvU_at d2_76, EvU_at d2_77, EvU_at d2_80, EvU_at d2_81, EvU_at d2_84, EvU_at d2_87, EvU_at d2_88, EvU_at d2_89, Z2, Z3, Z4, hl, hq, a1, c2, b9, b11, b13, hf', Fr_u, rwF, zr_s, z64_s, Nat.add_assoc, m1, mxC, p1, p2, p3]
set_option maxRecDepth 20000 in
theorem c_log9 (hl : sh.length = 75) (hq : sh[74]? = some (1, 3)) (hf : Fr gr 75) (hs : sl ≤ 5000) : Ev (8, 0, [(0, .ref 74)], [], (sh, zr 75 g, z64, gr), sl) r ↔ r = (.inl none, (sh ++ [(103, 20)] ++ msS 20, zr 196 g, z64, msG 20 0 (u2 gr 74 0 (some 75))), sl + 2900) := by
  have a1 := ap hq
  have m1 := mS9 (show sl ≤ 90000 by omega)
  have c2 : ∀ h : 74 < sh.length, sh[74]'h = (1, 3) := fun h => by
    rw [List.getElem?_eq_getElem h] at hq
    exact Option.some.inj hq
  have d3 : (sh ++ [(103, 20)])[75]? = some (103, 20) := by rw [List.getElem?_append_right (by omega), hl]; rfl
  have key := l_ms (g := g) (r := r) 20 0 76 (sh ++ [(103, 20)]) (u2 gr 74 0 (some 75)) (sl + 20) [(1, .int (oi 0)), (0, .ref 74)] rfl rfl (by simp [hl]) (a1 _) d3 (by simp [u2]) (Fr_u (by omega) (hf.le (by omega))) (by omega) (by simp [nl, cat_i, cat_r]) (by simp [lget, cat_i, cat_r]) (by simp [lget, cat_i, cat_r])
  rw [show sl + 2900 = sl + 20 + 144 * 20 by omega, show (196 : Nat) = 76 + 6 * 20 from rfl, ← key, EvU_iff (fun p => p == 15) 60]
  simp [EvS, stI, enI, caI, s_push, s_iload, s_aload, s_istore, s_astore, s_iinc, s_bin, s_div, s_i2l, s_lcmp, s_dup, s_dup2, s_pop, s_tab, s_look, s_get, s_put, s_iald, s_lald, s_aald, s_iast, s_last, s_aast, s_len, s_newa, s_new, s_thr, s_min, s_copy, s_obj, s_call, s_iret, s_aret, s_vret, go, ldI, lget, lput, lv_args, wsum, va_rf, hnd, cvr, cat_i, cat_r, cat_l, oi_of, oi_add, oi_sub, oA_ap, oA_u2, pi_lt, pi_le, pi_eq, pi_eq0, pi_lt0, pi_le0, pi_gt0, pi_ge0, pi_cl, sb_lit, fv4, isB01, nlt0, EvU_0, wO_ne, wL_ne, wC_ne, wN_ne, pO_ne, pU_ne, CN, LN, -Prod.exists, pi_ti, Op.lookupswitch.offset, EvU_at d8_0, EvU_at d8_1, EvU_at d8_4, EvU_at d8_5, EvU_at d8_7, EvU_at d8_10, EvU_at d8_13, EvU_at d8_14, EvU_at d8_15, EvU_at d8_16, EvU_at d8_18, EvU_at d8_21, EvU_at d8_22, EvU_at d8_25, EvU_at d8_26, EvU_at d8_29, EvU_at d8_30, EvU_at d8_33, EvU_at d8_34, EvU_at d8_37, EvU_at d8_40, Z8, hl, hq, a1, c2, hf, rwF, zr_s, z64_s, Nat.add_assoc, m1, mxC]
theorem Fr_wh : ∀ (m k n : Nat) (gr : Nat → Nat → Option Nat), Fr gr n → 16 + 4 * (k + m) ≤ n → Fr (whG m k gr) n := by
  intro m
  induction m with
  | zero => exact fun k n gr h _ => h
  | succ m ih =>
    intro k n gr h hn
    rw [whG]
    exact ih _ _ _ (Fr_u (by omega) (Fr_u (by omega) (Fr_u (by omega) (Fr_u (by omega) h)))) (by omega)
theorem Fr_pw : ∀ (m k n : Nat) (gr : Nat → Nat → Option Nat), Fr gr n → 48 + 2 * (k + m) ≤ n → Fr (pwG m k gr) n := by
  intro m
  induction m with
  | zero => exact fun k n gr h _ => h
  | succ m ih =>
    intro k n gr h hn
    rw [pwG]
    exact ih _ _ _ (Fr_u (by omega) (Fr_u (by omega) h)) (by omega)
theorem Fr_ms : ∀ (m k n : Nat) (gr : Nat → Nat → Option Nat), Fr gr n → 76 + 6 * (k + m) ≤ n → Fr (msG m k gr) n := by
  intro m
  induction m with
  | zero => exact fun k n gr h _ => h
  | succ m ih =>
    intro k n gr h hn
    rw [msG]
    exact ih _ _ _ (Fr_u (by omega) (Fr_u (by omega) (Fr_u (by omega) (Fr_u (by omega) (Fr_u (by omega) (Fr_u (by omega) h)))))) (by omega)
end
/-! the cells and references, all made -/
def g00 : Nat → Nat → Option Nat := fun _ _ => none
def bG1 : Nat → Nat → Option Nat := pwG 12 0 (whG 8 0 (mG g00))
def bG2 : Nat → Nat → Option Nat := msG 20 0 (u2 (u2 (u2 (u2 bG1 1 0 (some 2)) 72 0 (some 73)) 1 1 (some 72)) 74 0 (some 75))
def bG3 : Nat → Nat → Option Nat := u2 (u2 (u2 (u2 bG2 1 2 (some 74)) 196 0 (some 197)) 196 1 (some 198)) 1 3 (some 196)
def bS1 (L : Nat) : List (Nat × Nat) := [(100, L), (0, 4), (2, 14)] ++ mB9 ++ whS 8 ++ pwS 12
def bS2 (L : Nat) : List (Nat × Nat) := bS1 L ++ [(7, 3), (100, 40), (1, 3)] ++ [(103, 20)] ++ msS 20
def bS3 (L : Nat) : List (Nat × Nat) := bS2 L ++ [(6, 2), (100, 6), (100, 12)]
theorem fr0 (n : Nat) : Fr g00 n := fun _ _ _ => rfl
theorem frM (n : Nat) (h : 16 ≤ n) : Fr (mG g00) n := by
  unfold mG
  exact Fr_u (by omega) (Fr_u (by omega) (Fr_u (by omega) (Fr_u (by omega) (Fr_u (by omega) (Fr_u (by omega) (Fr_u (by omega) (Fr_u (by omega) (Fr_u (by omega) (Fr_u (by omega) (Fr_u (by omega) (Fr_u (by omega) (Fr_u (by omega) (fr0 n)))))))))))))
theorem frG1 (n : Nat) (h : 72 ≤ n) : Fr bG1 n := by
  unfold bG1
  exact Fr_pw 12 0 n (whG 8 0 (mG g00)) (Fr_wh 8 0 n (mG g00) (frM n (by omega)) (by omega)) (by omega)
theorem frG2 (n : Nat) (h : 196 ≤ n) : Fr bG2 n := by
  unfold bG2
  exact Fr_ms 20 0 n (u2 (u2 (u2 (u2 bG1 1 0 (some 2)) 72 0 (some 73)) 1 1 (some 72)) 74 0 (some 75)) (Fr_u (by omega) (Fr_u (by omega) (Fr_u (by omega) (Fr_u (by omega) (frG1 n (by omega)))))) (by omega)
theorem frG3 (n : Nat) (h : 199 ≤ n) : Fr bG3 n := by
  unfold bG3
  exact Fr_u (by omega) (Fr_u (by omega) (Fr_u (by omega) (Fr_u (by omega) (frG2 n (by omega)))))
theorem whS_l : ∀ m, (whS m).length = 4 * m := by
  intro m
  induction m with
  | zero => rfl
  | succ m ih =>
    rw [whS]
    simp only [List.length_cons, ih]
    omega
theorem pwS_l : ∀ m, (pwS m).length = 2 * m := by
  intro m
  induction m with
  | zero => rfl
  | succ m ih =>
    rw [pwS]
    simp only [List.length_cons, ih]
    omega
theorem msS_l : ∀ m, (msS m).length = 6 * m := by
  intro m
  induction m with
  | zero => rfl
  | succ m ih =>
    rw [msS]
    simp only [List.length_cons, ih]
    omega
theorem bS1_f (L : Nat) : (bS1 L).length = 72 ∧ (bS1 L)[1]? = some (0, 4) ∧ (bS1 L)[2]? = some (2, 14) := by
  unfold bS1
  simp [whS_l, pwS_l, mB9]
theorem bS2_f (L : Nat) : (bS2 L).length = 196 ∧ (bS2 L)[1]? = some (0, 4) ∧ (bS2 L)[2]? = some (2, 14) := by
  obtain ⟨h1, h2, h3⟩ := bS1_f L
  unfold bS2
  refine ⟨by simp [h1, msS_l], ?_, ?_⟩
  · rw [List.append_assoc, List.append_assoc]
    exact ap h2 _
  · rw [List.append_assoc, List.append_assoc]
    exact ap h3 _
theorem bS3_f (L : Nat) : (bS3 L).length = 199 ∧ (bS3 L)[1]? = some (0, 4) ∧ (bS3 L)[2]? = some (2, 14) := by
  obtain ⟨h1, h2, h3⟩ := bS2_f L
  unfold bS3
  exact ⟨by simp [h1], ap h2 _, ap h3 _⟩
theorem grT_j (k j : Nat) (hj : 24 ≤ j) : grT k j = none := by
  unfold grT
  repeat' split
  all_goals first | rfl | omega
def okG (K k j : Nat) (G : Nat → Nat → Option Nat) : Bool := match grT k j with
  | none => true
  | some v => decide (K < v) || decide (G k j = some v)
theorem okG_use {K k j v : Nat} {G : Nat → Nat → Option Nat} (h : okG K k j G = true) (hv : v ≤ K) (e : grT k j = some v) : G k j = some v := by
  unfold okG at h
  rw [e] at h
  simp only [Bool.or_eq_true, decide_eq_true_eq] at h
  exact h.resolve_left (by omega)
theorem okG3 : ∀ k, k < 199 → ∀ j, j < 24 → okG 198 k j bG3 = true := by decide +kernel
def bX3 : List (Nat × Nat) := [(0, 4), (2, 14)] ++ mB9 ++ whS 8 ++ pwS 12 ++ [(7, 3), (100, 40), (1, 3)] ++ [(103, 20)] ++ msS 20 ++ [(6, 2), (100, 6), (100, 12)]
theorem bX3_T : bX3 = shT.take 198 := by decide +kernel
theorem lay3 (L : Nat) : LayK 198 (bS3 L) bG3 := by
  refine ⟨fun k z hk hz => ?_, fun k j v hk hv e => ?_⟩
  · have : (bS3 L)[k + 1]? = bX3[k]? := rfl
    rw [this, bX3_T, List.getElem?_take_of_lt hk]
    exact hz
  · by_cases hj : j < 24
    · exact okG_use (okG3 k (by omega) j hj) hv e
    · rw [grT_j k j (by omega)] at e
      cases e
