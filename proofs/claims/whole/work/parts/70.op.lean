/-! the calls, one after another (gen69.py) -/
section
variable {sh : List (Nat × Nat)} {A : Nat → Nat → Int} {gl : Nat → Nat → Int64} {gr : Nat → Nat → Option Nat} {sl L n : Nat}
theorem sb_putL : ∀ (n s : Nat) (A : Nat → Nat → Int), (∀ k j, sb (A k j)) → 0 ≤ A 2 10 → A 2 10 ≤ s → s + n ≤ 6 → ∀ k j, sb (putL n s A k j) := by
  intro n
  induction n with
  | zero => exact fun s A h _ _ _ => h
  | succ n ih =>
    intro s A h h0 h1 h2
    rw [putL]
    by_cases c : A 4 s = -1
    · rw [if_pos c]
      exact ih _ _ h h0 (by omega) (by omega)
    · rw [if_neg c]
      refine ih _ _ (sb_u2 (sb_u2 h ⟨by omega, by omega⟩ _ _) ⟨by omega, by omega⟩ _ _) ?_ ?_ (by omega)
      · rw [ue_eq]; omega
      · rw [ue_eq]; omega
theorem sb_clrW : ∀ (n w : Nat) (A : Nat → Nat → Int), (∀ k j, sb (A k j)) → ∀ k j, sb (clrW n w A k j) := by
  intro n
  induction n with
  | zero => exact fun w A h => h
  | succ n ih =>
    intro w A h
    rw [clrW]
    refine ih _ _ (sb_u2 (fun k j => ?_) ⟨by decide, by decide⟩ _ _)
    unfold wclr
    split
    · exact ⟨by omega, by omega⟩
    · split
      · exact ⟨by decide, by decide⟩
      · exact h k j
theorem sb_clrP : ∀ (n w : Nat) (A : Nat → Nat → Int), (∀ k j, sb (A k j)) → ∀ k j, sb (clrP n w A k j) := by
  intro n
  induction n with
  | zero => exact fun w A h => h
  | succ n ih =>
    intro w A h
    rw [clrP]
    exact ih _ _ (sb_u2 (sb_fillR h _ _ _ (fun _ _ => ⟨by decide, by decide⟩)) ⟨by decide, by decide⟩ _ _)
theorem sb_clrF (hA : ∀ k j, sb (A k j)) {m : Int} (hm : sb m) : ∀ k j, sb (clrF A m k j) := by
  unfold clrF clrM
  have z : sb 0 := ⟨by decide, by decide⟩
  have z1 : sb (-1) := ⟨by decide, by decide⟩
  have zj : ∀ j : Nat, j < 32 → sb (j : Int) := fun j hj => ⟨by omega, by omega⟩
  exact sb_u2 (sb_u2 (sb_u2 (sb_u2 (sb_u2 (sb_fillR (sb_fillR (sb_u2 (sb_fillR (sb_u2 (sb_fillR (sb_fillR (sb_fillR (sb_fillR (sb_clrP _ _ _ (sb_clrW _ _ _ hA)) _ _ _ (fun _ _ => z1)) _ _ _ (fun _ _ => z1)) _ _ _ (fun _ _ => z1)) _ _ _ zj) z _ _) _ _ _ zj) z _ _) _ _ _ (fun _ _ => z)) _ _ _ (fun _ _ => z)) hm _ _) z _ _) z _ _) z _ _) z _ _
theorem sb_resF (hA : ∀ k j, sb (A k j)) : ∀ k j, sb (resF A k j) := by
  unfold resF
  have z : sb 0 := ⟨by decide, by decide⟩
  have z1 : sb (-1) := ⟨by decide, by decide⟩
  have zj : ∀ j : Nat, sb ((j : Int) % 32) := fun j => ⟨by omega, by omega⟩
  exact sb_u2 (sb_u2 (sb_u2 (sb_u2 (sb_u2 (sb_u2 (sb_fillR (sb_fillR (sb_fillR (sb_fillR (sb_fillR (sb_fillR (sb_fillR (sb_fillR hA _ _ _ (fun j _ => zj j)) _ _ _ (fun _ _ => z)) _ _ _ (fun j _ => zj j)) _ _ _ (fun _ _ => z)) _ _ _ (fun _ _ => z1)) _ _ _ (fun _ _ => z)) _ _ _ (fun _ _ => z1)) _ _ _ (fun _ _ => z)) z _ _) z _ _) z _ _) z _ _) z _ _) z _ _
theorem elsR_c {w : Int} {t : Nat} : (w = -1 ∨ elseF A w t 6 0 = 0) ↔ elsR A (t : Int) w 6 0 0 = 0 := by
  by_cases c : w = -1
  · subst c
    rw [elsR_n]
    exact ⟨fun _ => rfl, fun _ => Or.inl rfl⟩
  · rw [elsR_else c]
    exact ⟨fun e => e.resolve_left c, Or.inr⟩
set_option maxRecDepth 20000 in
theorem o_contacts (hI : Iv L sh A gr sl n) (hn : n < 600) {x : Int} (hx : sb x) : Good L 27 [(0, .ref 1), (1, .int (oi x)), (2, .ref 216)] 116 [(0, .ref 199), (1, .int (oi x))] false False sh A gl gr sl n := by
  have hI2 := hI
  obtain ⟨hC, hS⟩ := hI.c hn
  obtain ⟨hA, hL, h, hC2, hS2, h0⟩ := hI2
  have ms := h.O.G.ms
  have hm := h.O.m
  have p := fun (r : Out) => p_contacts (gl := gl) (sl := sl) (r := r) hA hL hC hS hx
  by_cases c1 : x = 10 ∨ x = 26 ∨ x = 32
  · have k1 := c1
    by_cases c2 : A 74 2 = 0
    · have k2 := c2
      simp only [if_neg (not_not_intro c1), if_neg (not_not_intro c2)] at p
      have hA1 : ∀ c0 d0, sb ((u2 (u2 (clrF A x) 72 2 0) 74 1 0) c0 d0) := sb_u2 (sb_u2 (sb_clrF hA hx) (show sb 0 from ⟨by decide, by decide⟩) _ _) (show sb 0 from ⟨by decide, by decide⟩) _ _
      have h1 : RL (u2 (u2 (clrF A x) 72 2 0) 74 1 0) A := h.cg (fun a b g1 g2 g3 => by rw [uk_ne (by omega), uk_ne (by omega), (clr_all A x).2.2.2 a b (by omega)])
      refine good_ok hI (A' := (u2 (u2 (clrF A x) 72 2 0) 74 1 0)) (A'' := (resF (u2 (u2 (u2 (u2 (clrF A x) 72 2 0) 74 1 0) 199 0 0) 199 1 x))) (gl' := (u2 gl 216 0 (oi (A 2 9)).toInt64)) (v := (A 2 9)) (fun r => ?_) (fun r => ?_) (fun j => by rw [uk_ne (by omega), uk_ne (by omega)]; unfold clrF; rw [clrM_ne _ _ (by omega), clrP_ne _ _ _ (fun u _ _ => by unfold pO pU; omega), clrW_ne _ _ _ (fun u _ _ => by unfold wO wL wC wN; omega)]) (fun e => e.elim) (Or.inl (g216 _ _)) ?_ ?_ ?_ ?_
      · rw [EvU_iff (fun _ => false) 30]
        simp [EvS, stI, enI, caI, s_push, s_iload, s_aload, s_istore, s_astore, s_iinc, s_bin, s_div, s_i2l, s_lcmp, s_dup, s_dup2, s_pop, s_tab, s_look, s_get, s_put, s_iald, s_lald, s_aald, s_iast, s_last, s_aast, s_len, s_newa, s_new, s_thr, s_min, s_copy, s_obj, s_call, s_iret, s_aret, s_vret, go, ldI, lget, lput, lv_args, wsum, va_rf, hnd, cvr, cat_i, cat_r, cat_l, oi_of, oi_add, oi_sub, oA_ap, oA_u2, pi_lt, pi_le, pi_eq, pi_eq0, pi_lt0, pi_le0, pi_gt0, pi_ge0, pi_cl, sb_lit, fv4, isB01, nlt0, EvU_0, wO_ne, wL_ne, wC_ne, wN_ne, pO_ne, pU_ne, CN, LN, -Prod.exists, pi_ti, Op.lookupswitch.offset, EvU_at d27_0, EvU_at d27_1, EvU_at d27_2, EvU_at d27_3, EvU_at d27_4, EvU_at d27_7, EvU_at d27_8, EvU_at d27_9, EvU_at d27_12, EvU_at d27_13, EvU_at d27_14, EvU_at d27_15, EvU_at d27_16, EvU_at d27_17, EvU_at d27_18, EvU_at d27_19, Z27, Z28, LyS hL, LyG hL, p]
      · have q := q_contacts (A := (u2 (u2 (clrF A x) 72 2 0) 74 1 0)) (B := A) (gl := (u2 gl 216 0 (oi (A 2 9)).toInt64)) (sl := sl) (r := r) hA1 hL h1 hx
        simp only [if_neg (not_not_intro c1), if_neg (not_not_intro c2)] at q
        exact q
      · exact sb_resF (sb_u2 (sb_u2 hA1 (show sb 0 from ⟨by decide, by decide⟩) _ _) hx _ _)
      · rw [(res_all _).2.2.2.2.2.2.2.1.2.2.2.2.2.2.2, uj_ne (by omega), ue_eq]
      · exact rl_clear c1 (ue_eq _ _ _) h.O.U.nx h.O.U.mv c2
      · exact fun a b ha => by rw [(res_all _).2.2.2.2.2.2.2.2 a b (by omega), uk_ne (by omega), uk_ne (by omega)]
    · simp only [if_neg (not_not_intro c1), if_pos c2] at p
      refine good_fail hI (k := 2) (E := 1) (by omega) (fun r => ?_) (fun r => ?_)
      · rw [EvU_iff (fun _ => false) 30]
        simp [EvS, stI, enI, caI, s_push, s_iload, s_aload, s_istore, s_astore, s_iinc, s_bin, s_div, s_i2l, s_lcmp, s_dup, s_dup2, s_pop, s_tab, s_look, s_get, s_put, s_iald, s_lald, s_aald, s_iast, s_last, s_aast, s_len, s_newa, s_new, s_thr, s_min, s_copy, s_obj, s_call, s_iret, s_aret, s_vret, go, ldI, lget, lput, lv_args, wsum, va_rf, hnd, cvr, cat_i, cat_r, cat_l, oi_of, oi_add, oi_sub, oA_ap, oA_u2, pi_lt, pi_le, pi_eq, pi_eq0, pi_lt0, pi_le0, pi_gt0, pi_ge0, pi_cl, sb_lit, fv4, isB01, nlt0, EvU_0, wO_ne, wL_ne, wC_ne, wN_ne, pO_ne, pU_ne, CN, LN, -Prod.exists, pi_ti, Op.lookupswitch.offset, EvU_at d27_0, EvU_at d27_1, EvU_at d27_2, EvU_at d27_3, EvU_at d27_4, EvU_at d27_7, EvU_at d27_8, EvU_at d27_9, EvU_at d27_12, EvU_at d27_13, EvU_at d27_14, EvU_at d27_15, EvU_at d27_16, EvU_at d27_17, EvU_at d27_18, EvU_at d27_19, Z27, Z28, LyS hL, LyG hL, p, thrw]
      · have q := q_contacts (A := A) (B := A) (gl := gl) (sl := (sl + 6)) (r := r) hA (hL.app (11, 0)) h hx
        simp only [if_neg (not_not_intro c1), if_pos c2] at q
        exact q
  · simp only [if_pos c1] at p
    refine good_fail hI (k := 1) (E := 0) (by omega) (fun r => ?_) (fun r => ?_)
    · rw [EvU_iff (fun _ => false) 30]
      simp [EvS, stI, enI, caI, s_push, s_iload, s_aload, s_istore, s_astore, s_iinc, s_bin, s_div, s_i2l, s_lcmp, s_dup, s_dup2, s_pop, s_tab, s_look, s_get, s_put, s_iald, s_lald, s_aald, s_iast, s_last, s_aast, s_len, s_newa, s_new, s_thr, s_min, s_copy, s_obj, s_call, s_iret, s_aret, s_vret, go, ldI, lget, lput, lv_args, wsum, va_rf, hnd, cvr, cat_i, cat_r, cat_l, oi_of, oi_add, oi_sub, oA_ap, oA_u2, pi_lt, pi_le, pi_eq, pi_eq0, pi_lt0, pi_le0, pi_gt0, pi_ge0, pi_cl, sb_lit, fv4, isB01, nlt0, EvU_0, wO_ne, wL_ne, wC_ne, wN_ne, pO_ne, pU_ne, CN, LN, -Prod.exists, pi_ti, Op.lookupswitch.offset, EvU_at d27_0, EvU_at d27_1, EvU_at d27_2, EvU_at d27_3, EvU_at d27_4, EvU_at d27_7, EvU_at d27_8, EvU_at d27_9, EvU_at d27_12, EvU_at d27_13, EvU_at d27_14, EvU_at d27_15, EvU_at d27_16, EvU_at d27_17, EvU_at d27_18, EvU_at d27_19, Z27, Z28, LyS hL, LyG hL, p, thrw]
    · have q := q_contacts (A := A) (B := A) (gl := gl) (sl := (sl + 6)) (r := r) hA (hL.app (10, 0)) h hx
      simp only [if_pos c1] at q
      exact q
set_option maxRecDepth 20000 in
theorem o_fill (hI : Iv L sh A gr sl n) (hn : n < 600) {t : Nat} (ht : t < 6) {w : Int} (hw : sb w) : Good L 42 [(0, .ref 1), (1, .int (oi (t : Int))), (2, .int (oi w)), (3, .ref 216)] 123 [(0, .ref 199), (1, .int (oi (t : Int))), (2, .int (oi w))] false False sh A gl gr sl n := by
  have hI2 := hI
  obtain ⟨hC, hS⟩ := hI.c hn
  obtain ⟨hA, hL, h, hC2, hS2, h0⟩ := hI2
  have ms := h.O.G.ms
  have hm := h.O.m
  have z1 : (0 : Int) ≤ (t : Int) ∧ (t : Int) < 6 := ⟨by omega, by omega⟩
  have p := fun (r : Out) => p_fill (gl := gl) (sl := sl) (r := r) hA hL hC hS ht hw
  by_cases c1 : w = -1 ∨ 0 ≤ w ∧ w < 8
  · have k1 := c1
    by_cases c2 : A 74 2 = 0
    · have k2 := c2
      by_cases c3 : w = -1 ∨ elseF A w t 6 0 = 0
      · have k3 := c3
        simp only [if_neg (not_not_intro c1), if_neg (not_not_intro c2), if_neg (not_not_intro c3)] at p
        have hA1 : ∀ c0 d0, sb ((putL 6 0 (u2 (u2 A 4 t w) 2 10 0)) c0 d0) := sb_putL 6 0 _ (sb_u2 (sb_u2 hA hw _ _) (show sb 0 from ⟨by decide, by decide⟩) _ _) (by rw [ue_eq]; omega) (by rw [ue_eq]; omega) (by omega)
        have h1 : RL (putL 6 0 (u2 (u2 A 4 t w) 2 10 0)) A := h.cg (fun a b g1 g2 g3 => by rw [putL_ne 6 0 _ (by omega) (by omega), uk_ne (by omega), uk_ne (by omega)])
        refine good_ok hI (A' := (putL 6 0 (u2 (u2 A 4 t w) 2 10 0))) (A'' := (u2 (u2 (putL 6 0 (u2 (u2 A 4 t w) 2 10 0)) 199 0 0) 203 t w)) (gl' := (u2 gl 216 0 (oi (A 4 t)).toInt64)) (v := (A 4 t)) (fun r => ?_) (fun r => ?_) (fun j => by rw [putL_ne 6 0 _ (by omega) (by omega), uk_ne (by omega), uk_ne (by omega)]) (fun e => e.elim) (Or.inl (g216 _ _)) ?_ ?_ ?_ ?_
        · rw [EvU_iff (fun _ => false) 30]
          simp [EvS, stI, enI, caI, s_push, s_iload, s_aload, s_istore, s_astore, s_iinc, s_bin, s_div, s_i2l, s_lcmp, s_dup, s_dup2, s_pop, s_tab, s_look, s_get, s_put, s_iald, s_lald, s_aald, s_iast, s_last, s_aast, s_len, s_newa, s_new, s_thr, s_min, s_copy, s_obj, s_call, s_iret, s_aret, s_vret, go, ldI, lget, lput, lv_args, wsum, va_rf, hnd, cvr, cat_i, cat_r, cat_l, oi_of, oi_add, oi_sub, oA_ap, oA_u2, pi_lt, pi_le, pi_eq, pi_eq0, pi_lt0, pi_le0, pi_gt0, pi_ge0, pi_cl, sb_lit, fv4, isB01, nlt0, EvU_0, wO_ne, wL_ne, wC_ne, wN_ne, pO_ne, pU_ne, CN, LN, -Prod.exists, pi_ti, Op.lookupswitch.offset, EvU_at d42_0, EvU_at d42_1, EvU_at d42_2, EvU_at d42_3, EvU_at d42_4, EvU_at d42_5, EvU_at d42_8, EvU_at d42_9, EvU_at d42_10, EvU_at d42_13, EvU_at d42_15, EvU_at d42_16, EvU_at d42_17, EvU_at d42_19, EvU_at d42_20, EvU_at d42_21, EvU_at d42_22, Z42, Z43, LyS hL, LyG hL, p]
        · have q := q_fill (A := (putL 6 0 (u2 (u2 A 4 t w) 2 10 0))) (B := A) (gl := (u2 gl 216 0 (oi (A 4 t)).toInt64)) (sl := sl) (r := r) hA1 hL h1 (x := (t : Int)) ⟨by omega, by omega⟩ hw
          rw [if_neg (not_not_intro z1), Int.toNat_natCast] at q
          simp only [← elsR_c (A := A)] at q
          simp only [if_neg (not_not_intro c1), if_neg (not_not_intro c2), if_neg (not_not_intro c3)] at q
          exact q
        · exact sb_u2 (sb_u2 hA1 (show sb 0 from ⟨by decide, by decide⟩) _ _) hw _ _
        · rw [uk_ne (by omega), ue_eq]
        · exact rl_fill h1 ht (by omega)
        · exact fun a b ha => by rw [uk_ne (by omega), uk_ne (by omega)]
      · simp only [if_neg (not_not_intro c1), if_neg (not_not_intro c2), if_pos c3] at p
        refine good_fail hI (k := 2) (E := 1) (by omega) (fun r => ?_) (fun r => ?_)
        · rw [EvU_iff (fun _ => false) 30]
          simp [EvS, stI, enI, caI, s_push, s_iload, s_aload, s_istore, s_astore, s_iinc, s_bin, s_div, s_i2l, s_lcmp, s_dup, s_dup2, s_pop, s_tab, s_look, s_get, s_put, s_iald, s_lald, s_aald, s_iast, s_last, s_aast, s_len, s_newa, s_new, s_thr, s_min, s_copy, s_obj, s_call, s_iret, s_aret, s_vret, go, ldI, lget, lput, lv_args, wsum, va_rf, hnd, cvr, cat_i, cat_r, cat_l, oi_of, oi_add, oi_sub, oA_ap, oA_u2, pi_lt, pi_le, pi_eq, pi_eq0, pi_lt0, pi_le0, pi_gt0, pi_ge0, pi_cl, sb_lit, fv4, isB01, nlt0, EvU_0, wO_ne, wL_ne, wC_ne, wN_ne, pO_ne, pU_ne, CN, LN, -Prod.exists, pi_ti, Op.lookupswitch.offset, EvU_at d42_0, EvU_at d42_1, EvU_at d42_2, EvU_at d42_3, EvU_at d42_4, EvU_at d42_5, EvU_at d42_8, EvU_at d42_9, EvU_at d42_10, EvU_at d42_13, EvU_at d42_15, EvU_at d42_16, EvU_at d42_17, EvU_at d42_19, EvU_at d42_20, EvU_at d42_21, EvU_at d42_22, Z42, Z43, LyS hL, LyG hL, p, thrw]
        · have q := q_fill (A := A) (B := A) (gl := gl) (sl := (sl + 6)) (r := r) hA (hL.app (11, 0)) h (x := (t : Int)) ⟨by omega, by omega⟩ hw
          rw [if_neg (not_not_intro z1), Int.toNat_natCast] at q
          simp only [← elsR_c (A := A)] at q
          simp only [if_neg (not_not_intro c1), if_neg (not_not_intro c2), if_pos c3] at q
          exact q
    · simp only [if_neg (not_not_intro c1), if_pos c2] at p
      refine good_fail hI (k := 2) (E := 1) (by omega) (fun r => ?_) (fun r => ?_)
      · rw [EvU_iff (fun _ => false) 30]
        simp [EvS, stI, enI, caI, s_push, s_iload, s_aload, s_istore, s_astore, s_iinc, s_bin, s_div, s_i2l, s_lcmp, s_dup, s_dup2, s_pop, s_tab, s_look, s_get, s_put, s_iald, s_lald, s_aald, s_iast, s_last, s_aast, s_len, s_newa, s_new, s_thr, s_min, s_copy, s_obj, s_call, s_iret, s_aret, s_vret, go, ldI, lget, lput, lv_args, wsum, va_rf, hnd, cvr, cat_i, cat_r, cat_l, oi_of, oi_add, oi_sub, oA_ap, oA_u2, pi_lt, pi_le, pi_eq, pi_eq0, pi_lt0, pi_le0, pi_gt0, pi_ge0, pi_cl, sb_lit, fv4, isB01, nlt0, EvU_0, wO_ne, wL_ne, wC_ne, wN_ne, pO_ne, pU_ne, CN, LN, -Prod.exists, pi_ti, Op.lookupswitch.offset, EvU_at d42_0, EvU_at d42_1, EvU_at d42_2, EvU_at d42_3, EvU_at d42_4, EvU_at d42_5, EvU_at d42_8, EvU_at d42_9, EvU_at d42_10, EvU_at d42_13, EvU_at d42_15, EvU_at d42_16, EvU_at d42_17, EvU_at d42_19, EvU_at d42_20, EvU_at d42_21, EvU_at d42_22, Z42, Z43, LyS hL, LyG hL, p, thrw]
      · have q := q_fill (A := A) (B := A) (gl := gl) (sl := (sl + 6)) (r := r) hA (hL.app (11, 0)) h (x := (t : Int)) ⟨by omega, by omega⟩ hw
        rw [if_neg (not_not_intro z1), Int.toNat_natCast] at q
        simp only [← elsR_c (A := A)] at q
        simp only [if_neg (not_not_intro c1), if_pos c2] at q
        exact q
  · simp only [if_pos c1] at p
    refine good_fail hI (k := 1) (E := 2) (by omega) (fun r => ?_) (fun r => ?_)
    · rw [EvU_iff (fun _ => false) 30]
      simp [EvS, stI, enI, caI, s_push, s_iload, s_aload, s_istore, s_astore, s_iinc, s_bin, s_div, s_i2l, s_lcmp, s_dup, s_dup2, s_pop, s_tab, s_look, s_get, s_put, s_iald, s_lald, s_aald, s_iast, s_last, s_aast, s_len, s_newa, s_new, s_thr, s_min, s_copy, s_obj, s_call, s_iret, s_aret, s_vret, go, ldI, lget, lput, lv_args, wsum, va_rf, hnd, cvr, cat_i, cat_r, cat_l, oi_of, oi_add, oi_sub, oA_ap, oA_u2, pi_lt, pi_le, pi_eq, pi_eq0, pi_lt0, pi_le0, pi_gt0, pi_ge0, pi_cl, sb_lit, fv4, isB01, nlt0, EvU_0, wO_ne, wL_ne, wC_ne, wN_ne, pO_ne, pU_ne, CN, LN, -Prod.exists, pi_ti, Op.lookupswitch.offset, EvU_at d42_0, EvU_at d42_1, EvU_at d42_2, EvU_at d42_3, EvU_at d42_4, EvU_at d42_5, EvU_at d42_8, EvU_at d42_9, EvU_at d42_10, EvU_at d42_13, EvU_at d42_15, EvU_at d42_16, EvU_at d42_17, EvU_at d42_19, EvU_at d42_20, EvU_at d42_21, EvU_at d42_22, Z42, Z43, LyS hL, LyG hL, p, thrw]
    · have q := q_fill (A := A) (B := A) (gl := gl) (sl := (sl + 6)) (r := r) hA (hL.app (12, 0)) h (x := (t : Int)) ⟨by omega, by omega⟩ hw
      rw [if_neg (not_not_intro z1), Int.toNat_natCast] at q
      simp only [← elsR_c (A := A)] at q
      simp only [if_pos c1] at q
      exact q
set_option maxRecDepth 20000 in
theorem o_pins (hI : Iv L sh A gr sl n) (hn : n < 600) {k x : Int} (hk : sb k) (hx : sb x) : Good L 57 [(0, .ref 1), (1, .int (oi k)), (2, .int (oi x)), (3, .ref 216)] 128 [(0, .ref 199), (1, .int (oi k)), (2, .int (oi x))] false False sh A gl gr sl n := by
  have hI2 := hI
  obtain ⟨hC, hS⟩ := hI.c hn
  obtain ⟨hA, hL, h, hC2, hS2, h0⟩ := hI2
  have ms := h.O.G.ms
  have hm := h.O.m
  have p := fun (r : Out) => p_pins (gl := gl) (sl := sl) (r := r) hA hL hC hS hk hx
  by_cases c1 : 0 ≤ k ∧ k < 12
  · have k1 := c1
    by_cases c2 : 0 ≤ x ∧ x ≤ 61
    · have k2 := c2
      by_cases c3 : A 74 2 = 0
      · have k3 := c3
        simp only [if_neg (not_not_intro c1), if_neg (not_not_intro c2), if_neg (not_not_intro c3)] at p
        have hA1 : ∀ c0 d0, sb ((u2 (u2 (u2 (fillR A (pU k.toNat) 0 61 (fun _ => 0)) (pO k.toNat) 1 x) 15 k.toNat 0) 72 2 0) c0 d0) := sb_u2 (sb_u2 (sb_u2 (sb_fillR hA _ _ _ (fun _ _ => (show sb 0 from ⟨by decide, by decide⟩))) hx _ _) (show sb 0 from ⟨by decide, by decide⟩) _ _) (show sb 0 from ⟨by decide, by decide⟩) _ _
        have h1 : RL (u2 (u2 (u2 (fillR A (pU k.toNat) 0 61 (fun _ => 0)) (pO k.toNat) 1 x) 15 k.toNat 0) 72 2 0) A := h.cg (fun a b g1 g2 g3 => by rw [uk_ne (by omega), uk_ne (by omega), uk_ne (by unfold pO; omega)]; unfold fillR; rw [if_neg (by unfold pU; omega)])
        refine good_ok hI (A' := (u2 (u2 (u2 (fillR A (pU k.toNat) 0 61 (fun _ => 0)) (pO k.toNat) 1 x) 15 k.toNat 0) 72 2 0)) (A'' := (u2 (u2 (fillR (u2 (u2 (u2 (u2 (u2 (fillR A (pU k.toNat) 0 61 (fun _ => 0)) (pO k.toNat) 1 x) 15 k.toNat 0) 72 2 0) 199 0 0) 205 k.toNat x) 206 (64 * k.toNat + 0) (64 * k.toNat + 64) (fun _ => 0)) 208 (6 + k.toNat) 0) 199 16 0)) (gl' := (u2 gl 216 0 (oi (A (pO k.toNat) 1)).toInt64)) (v := (A (pO k.toNat) 1)) (fun r => ?_) (fun r => ?_) (fun j => by rw [uk_ne (by omega), uk_ne (by omega), uk_ne (by unfold pO; omega)]; unfold fillR; rw [if_neg (by unfold pU; omega)]) (fun e => e.elim) (Or.inl (g216 _ _)) ?_ ?_ ?_ ?_
        · rw [EvU_iff (fun _ => false) 30]
          simp [EvS, stI, enI, caI, s_push, s_iload, s_aload, s_istore, s_astore, s_iinc, s_bin, s_div, s_i2l, s_lcmp, s_dup, s_dup2, s_pop, s_tab, s_look, s_get, s_put, s_iald, s_lald, s_aald, s_iast, s_last, s_aast, s_len, s_newa, s_new, s_thr, s_min, s_copy, s_obj, s_call, s_iret, s_aret, s_vret, go, ldI, lget, lput, lv_args, wsum, va_rf, hnd, cvr, cat_i, cat_r, cat_l, oi_of, oi_add, oi_sub, oA_ap, oA_u2, pi_lt, pi_le, pi_eq, pi_eq0, pi_lt0, pi_le0, pi_gt0, pi_ge0, pi_cl, sb_lit, fv4, isB01, nlt0, EvU_0, wO_ne, wL_ne, wC_ne, wN_ne, pO_ne, pU_ne, CN, LN, -Prod.exists, pi_ti, Op.lookupswitch.offset, EvU_at d57_0, EvU_at d57_1, EvU_at d57_2, EvU_at d57_3, EvU_at d57_4, EvU_at d57_5, EvU_at d57_8, EvU_at d57_9, EvU_at d57_10, EvU_at d57_13, EvU_at d57_15, EvU_at d57_16, EvU_at d57_17, EvU_at d57_19, EvU_at d57_20, EvU_at d57_21, EvU_at d57_23, EvU_at d57_24, EvU_at d57_25, EvU_at d57_26, Z57, Z58, LyS hL, LyG hL, p]
        · have q := q_pins (A := (u2 (u2 (u2 (fillR A (pU k.toNat) 0 61 (fun _ => 0)) (pO k.toNat) 1 x) 15 k.toNat 0) 72 2 0)) (B := A) (gl := (u2 gl 216 0 (oi (A (pO k.toNat) 1)).toInt64)) (sl := sl) (r := r) hA1 hL h1 hk hx
          simp only [if_neg (not_not_intro c1), if_neg (not_not_intro c2), if_neg (not_not_intro c3)] at q
          exact q
        · exact sb_u2 (sb_u2 (sb_fillR (sb_u2 (sb_u2 hA1 (show sb 0 from ⟨by decide, by decide⟩) _ _) hx _ _) _ _ _ (fun _ _ => (show sb 0 from ⟨by decide, by decide⟩))) (show sb 0 from ⟨by decide, by decide⟩) _ _) (show sb 0 from ⟨by decide, by decide⟩) _ _
        · rw [uj_ne (by omega), uk_ne (by omega)]; unfold fillR; rw [if_neg (by omega), uk_ne (by omega), ue_eq]
        · exact rl_pins h1 (by omega) c2
        · exact fun a b ha => by rw [uk_ne (by omega), uk_ne (by omega)]; unfold fillR; rw [if_neg (by omega), uk_ne (by omega), uk_ne (by omega)]
      · simp only [if_neg (not_not_intro c1), if_neg (not_not_intro c2), if_pos c3] at p
        refine good_fail hI (k := 3) (E := 1) (by omega) (fun r => ?_) (fun r => ?_)
        · rw [EvU_iff (fun _ => false) 30]
          simp [EvS, stI, enI, caI, s_push, s_iload, s_aload, s_istore, s_astore, s_iinc, s_bin, s_div, s_i2l, s_lcmp, s_dup, s_dup2, s_pop, s_tab, s_look, s_get, s_put, s_iald, s_lald, s_aald, s_iast, s_last, s_aast, s_len, s_newa, s_new, s_thr, s_min, s_copy, s_obj, s_call, s_iret, s_aret, s_vret, go, ldI, lget, lput, lv_args, wsum, va_rf, hnd, cvr, cat_i, cat_r, cat_l, oi_of, oi_add, oi_sub, oA_ap, oA_u2, pi_lt, pi_le, pi_eq, pi_eq0, pi_lt0, pi_le0, pi_gt0, pi_ge0, pi_cl, sb_lit, fv4, isB01, nlt0, EvU_0, wO_ne, wL_ne, wC_ne, wN_ne, pO_ne, pU_ne, CN, LN, -Prod.exists, pi_ti, Op.lookupswitch.offset, EvU_at d57_0, EvU_at d57_1, EvU_at d57_2, EvU_at d57_3, EvU_at d57_4, EvU_at d57_5, EvU_at d57_8, EvU_at d57_9, EvU_at d57_10, EvU_at d57_13, EvU_at d57_15, EvU_at d57_16, EvU_at d57_17, EvU_at d57_19, EvU_at d57_20, EvU_at d57_21, EvU_at d57_23, EvU_at d57_24, EvU_at d57_25, EvU_at d57_26, Z57, Z58, LyS hL, LyG hL, p, thrw]
        · have q := q_pins (A := A) (B := A) (gl := gl) (sl := (sl + 6)) (r := r) hA (hL.app (11, 0)) h hk hx
          simp only [if_neg (not_not_intro c1), if_neg (not_not_intro c2), if_pos c3] at q
          exact q
    · simp only [if_neg (not_not_intro c1), if_pos c2] at p
      refine good_fail hI (k := 2) (E := 0) (by omega) (fun r => ?_) (fun r => ?_)
      · rw [EvU_iff (fun _ => false) 30]
        simp [EvS, stI, enI, caI, s_push, s_iload, s_aload, s_istore, s_astore, s_iinc, s_bin, s_div, s_i2l, s_lcmp, s_dup, s_dup2, s_pop, s_tab, s_look, s_get, s_put, s_iald, s_lald, s_aald, s_iast, s_last, s_aast, s_len, s_newa, s_new, s_thr, s_min, s_copy, s_obj, s_call, s_iret, s_aret, s_vret, go, ldI, lget, lput, lv_args, wsum, va_rf, hnd, cvr, cat_i, cat_r, cat_l, oi_of, oi_add, oi_sub, oA_ap, oA_u2, pi_lt, pi_le, pi_eq, pi_eq0, pi_lt0, pi_le0, pi_gt0, pi_ge0, pi_cl, sb_lit, fv4, isB01, nlt0, EvU_0, wO_ne, wL_ne, wC_ne, wN_ne, pO_ne, pU_ne, CN, LN, -Prod.exists, pi_ti, Op.lookupswitch.offset, EvU_at d57_0, EvU_at d57_1, EvU_at d57_2, EvU_at d57_3, EvU_at d57_4, EvU_at d57_5, EvU_at d57_8, EvU_at d57_9, EvU_at d57_10, EvU_at d57_13, EvU_at d57_15, EvU_at d57_16, EvU_at d57_17, EvU_at d57_19, EvU_at d57_20, EvU_at d57_21, EvU_at d57_23, EvU_at d57_24, EvU_at d57_25, EvU_at d57_26, Z57, Z58, LyS hL, LyG hL, p, thrw]
      · have q := q_pins (A := A) (B := A) (gl := gl) (sl := (sl + 6)) (r := r) hA (hL.app (10, 0)) h hk hx
        simp only [if_neg (not_not_intro c1), if_pos c2] at q
        exact q
  · simp only [if_pos c1] at p
    refine good_fail hI (k := 1) (E := 2) (by omega) (fun r => ?_) (fun r => ?_)
    · rw [EvU_iff (fun _ => false) 30]
      simp [EvS, stI, enI, caI, s_push, s_iload, s_aload, s_istore, s_astore, s_iinc, s_bin, s_div, s_i2l, s_lcmp, s_dup, s_dup2, s_pop, s_tab, s_look, s_get, s_put, s_iald, s_lald, s_aald, s_iast, s_last, s_aast, s_len, s_newa, s_new, s_thr, s_min, s_copy, s_obj, s_call, s_iret, s_aret, s_vret, go, ldI, lget, lput, lv_args, wsum, va_rf, hnd, cvr, cat_i, cat_r, cat_l, oi_of, oi_add, oi_sub, oA_ap, oA_u2, pi_lt, pi_le, pi_eq, pi_eq0, pi_lt0, pi_le0, pi_gt0, pi_ge0, pi_cl, sb_lit, fv4, isB01, nlt0, EvU_0, wO_ne, wL_ne, wC_ne, wN_ne, pO_ne, pU_ne, CN, LN, -Prod.exists, pi_ti, Op.lookupswitch.offset, EvU_at d57_0, EvU_at d57_1, EvU_at d57_2, EvU_at d57_3, EvU_at d57_4, EvU_at d57_5, EvU_at d57_8, EvU_at d57_9, EvU_at d57_10, EvU_at d57_13, EvU_at d57_15, EvU_at d57_16, EvU_at d57_17, EvU_at d57_19, EvU_at d57_20, EvU_at d57_21, EvU_at d57_23, EvU_at d57_24, EvU_at d57_25, EvU_at d57_26, Z57, Z58, LyS hL, LyG hL, p, thrw]
    · have q := q_pins (A := A) (B := A) (gl := gl) (sl := (sl + 6)) (r := r) hA (hL.app (12, 0)) h hk hx
      simp only [if_pos c1] at q
      exact q
set_option maxRecDepth 20000 in
theorem o_set0 (hI : Iv L sh A gr sl n) (hn : n < 600) {k x : Int} (hk : sb k) (hx : sb x) : Good L 67 [(0, .ref 1), (1, .int (oi 0)), (2, .int (oi k)), (3, .int (oi x)), (4, .ref 216)] 134 [(0, .ref 199), (1, .int (oi 0)), (2, .int (oi k)), (3, .int (oi x))] false False sh A gl gr sl n := by
  have hI2 := hI
  obtain ⟨hC, hS⟩ := hI.c hn
  obtain ⟨hA, hL, h, hC2, hS2, h0⟩ := hI2
  have ms := h.O.G.ms
  have hm := h.O.m
  have p := fun (r : Out) => p_set0 (gl := gl) (sl := sl) (r := r) hA hL hC hS hk hx
  by_cases c1 : 0 ≤ k ∧ k < 6
  · have k1 := c1
    by_cases c2 : 0 ≤ x ∧ x < (A 2 9)
    · have k2 := c2
      by_cases c3 : A 74 2 = 0
      · have k3 := c3
        simp only [if_neg (not_not_intro c1), if_neg (not_not_intro c2), if_neg (not_not_intro c3)] at p
        have i3 : (6 + k).toNat = 6 + k.toNat := by omega
        have hA1 : ∀ c0 d0, sb ((u2 (u2 A 14 k.toNat x) 72 2 0) c0 d0) := sb_u2 (sb_u2 (hA) hx _ _) (show sb 0 from ⟨by decide, by decide⟩) _ _
        have h1 : RL (u2 (u2 A 14 k.toNat x) 72 2 0) A := h.cg (fun a b g1 g2 g3 => by rw [uk_ne (by first | omega | (simp only [wO, wL, wC, wN, pO, pU, gO, gS, gP, gQ, gK, gC]; omega)), uk_ne (by first | omega | (simp only [wO, wL, wC, wN, pO, pU, gO, gS, gP, gQ, gK, gC]; omega))])
        refine good_ok hI (A' := (u2 (u2 A 14 k.toNat x) 72 2 0)) (A'' := (u2 (u2 (u2 (u2 (u2 A 14 k.toNat x) 72 2 0) 199 0 0) 208 k.toNat x) 199 16 0)) (gl' := (u2 gl 216 0 (oi (A 14 k.toNat)).toInt64)) (v := (A 14 k.toNat)) (fun r => ?_) (fun r => ?_) (fun j => by rw [uk_ne (by first | omega | (simp only [wO, wL, wC, wN, pO, pU, gO, gS, gP, gQ, gK, gC]; omega)), uk_ne (by first | omega | (simp only [wO, wL, wC, wN, pO, pU, gO, gS, gP, gQ, gK, gC]; omega))]) (fun e => e.elim) (Or.inl (g216 _ _)) ?_ ?_ ?_ ?_
        · rw [EvU_iff (fun _ => false) 30]
          simp [EvS, stI, enI, caI, s_push, s_iload, s_aload, s_istore, s_astore, s_iinc, s_bin, s_div, s_i2l, s_lcmp, s_dup, s_dup2, s_pop, s_tab, s_look, s_get, s_put, s_iald, s_lald, s_aald, s_iast, s_last, s_aast, s_len, s_newa, s_new, s_thr, s_min, s_copy, s_obj, s_call, s_iret, s_aret, s_vret, go, ldI, lget, lput, lv_args, wsum, va_rf, hnd, cvr, cat_i, cat_r, cat_l, oi_of, oi_add, oi_sub, oA_ap, oA_u2, pi_lt, pi_le, pi_eq, pi_eq0, pi_lt0, pi_le0, pi_gt0, pi_ge0, pi_cl, sb_lit, fv4, isB01, nlt0, EvU_0, wO_ne, wL_ne, wC_ne, wN_ne, pO_ne, pU_ne, CN, LN, -Prod.exists, pi_ti, Op.lookupswitch.offset, EvU_at d67_0, EvU_at d67_2, EvU_at d67_3, EvU_at d67_4, EvU_at d67_5, EvU_at d67_6, EvU_at d67_7, EvU_at d67_10, EvU_at d67_11, EvU_at d67_12, EvU_at d67_15, EvU_at d67_17, EvU_at d67_18, EvU_at d67_19, EvU_at d67_21, EvU_at d67_22, EvU_at d67_23, EvU_at d67_24, Z67, Z68, LyS hL, LyG hL, p]
        · have q := q_set0 (A := (u2 (u2 A 14 k.toNat x) 72 2 0)) (B := A) (gl := (u2 gl 216 0 (oi (A 14 k.toNat)).toInt64)) (sl := sl) (r := r) hA1 hL h1 hk hx
          simp only [if_neg (not_not_intro c1), if_neg (not_not_intro c2), if_neg (not_not_intro c3)] at q
          exact q
        · exact sb_u2 (sb_u2 (sb_u2 hA1 (show sb 0 from ⟨by decide, by decide⟩) _ _) hx _ _) (show sb 0 from ⟨by decide, by decide⟩) _ _
        · rw [uj_ne (by omega), uk_ne (by omega), ue_eq]
        · exact rl_set0 h1 (by omega) c2
        · exact fun a b ha => by rw [uk_ne (by omega), uk_ne (by omega), uk_ne (by omega)]
      · simp only [if_neg (not_not_intro c1), if_neg (not_not_intro c2), if_pos c3] at p
        refine good_fail hI (k := 2) (E := 1) (by omega) (fun r => ?_) (fun r => ?_)
        · rw [EvU_iff (fun _ => false) 30]
          simp [EvS, stI, enI, caI, s_push, s_iload, s_aload, s_istore, s_astore, s_iinc, s_bin, s_div, s_i2l, s_lcmp, s_dup, s_dup2, s_pop, s_tab, s_look, s_get, s_put, s_iald, s_lald, s_aald, s_iast, s_last, s_aast, s_len, s_newa, s_new, s_thr, s_min, s_copy, s_obj, s_call, s_iret, s_aret, s_vret, go, ldI, lget, lput, lv_args, wsum, va_rf, hnd, cvr, cat_i, cat_r, cat_l, oi_of, oi_add, oi_sub, oA_ap, oA_u2, pi_lt, pi_le, pi_eq, pi_eq0, pi_lt0, pi_le0, pi_gt0, pi_ge0, pi_cl, sb_lit, fv4, isB01, nlt0, EvU_0, wO_ne, wL_ne, wC_ne, wN_ne, pO_ne, pU_ne, CN, LN, -Prod.exists, pi_ti, Op.lookupswitch.offset, EvU_at d67_0, EvU_at d67_2, EvU_at d67_3, EvU_at d67_4, EvU_at d67_5, EvU_at d67_6, EvU_at d67_7, EvU_at d67_10, EvU_at d67_11, EvU_at d67_12, EvU_at d67_15, EvU_at d67_17, EvU_at d67_18, EvU_at d67_19, EvU_at d67_21, EvU_at d67_22, EvU_at d67_23, EvU_at d67_24, Z67, Z68, LyS hL, LyG hL, p, thrw]
        · have q := q_set0 (A := A) (B := A) (gl := gl) (sl := (sl + 6)) (r := r) hA (hL.app (11, 0)) h hk hx
          simp only [if_neg (not_not_intro c1), if_neg (not_not_intro c2), if_pos c3] at q
          exact q
    · simp only [if_neg (not_not_intro c1), if_pos c2] at p
      refine good_fail hI (k := 1) (E := 2) (by omega) (fun r => ?_) (fun r => ?_)
      · rw [EvU_iff (fun _ => false) 30]
        simp [EvS, stI, enI, caI, s_push, s_iload, s_aload, s_istore, s_astore, s_iinc, s_bin, s_div, s_i2l, s_lcmp, s_dup, s_dup2, s_pop, s_tab, s_look, s_get, s_put, s_iald, s_lald, s_aald, s_iast, s_last, s_aast, s_len, s_newa, s_new, s_thr, s_min, s_copy, s_obj, s_call, s_iret, s_aret, s_vret, go, ldI, lget, lput, lv_args, wsum, va_rf, hnd, cvr, cat_i, cat_r, cat_l, oi_of, oi_add, oi_sub, oA_ap, oA_u2, pi_lt, pi_le, pi_eq, pi_eq0, pi_lt0, pi_le0, pi_gt0, pi_ge0, pi_cl, sb_lit, fv4, isB01, nlt0, EvU_0, wO_ne, wL_ne, wC_ne, wN_ne, pO_ne, pU_ne, CN, LN, -Prod.exists, pi_ti, Op.lookupswitch.offset, EvU_at d67_0, EvU_at d67_2, EvU_at d67_3, EvU_at d67_4, EvU_at d67_5, EvU_at d67_6, EvU_at d67_7, EvU_at d67_10, EvU_at d67_11, EvU_at d67_12, EvU_at d67_15, EvU_at d67_17, EvU_at d67_18, EvU_at d67_19, EvU_at d67_21, EvU_at d67_22, EvU_at d67_23, EvU_at d67_24, Z67, Z68, LyS hL, LyG hL, p, thrw]
      · have q := q_set0 (A := A) (B := A) (gl := gl) (sl := (sl + 6)) (r := r) hA (hL.app (12, 0)) h hk hx
        simp only [if_neg (not_not_intro c1), if_pos c2] at q
        exact q
  · simp only [if_pos c1] at p
    refine good_fail hI (k := 1) (E := 2) (by omega) (fun r => ?_) (fun r => ?_)
    · rw [EvU_iff (fun _ => false) 30]
      simp [EvS, stI, enI, caI, s_push, s_iload, s_aload, s_istore, s_astore, s_iinc, s_bin, s_div, s_i2l, s_lcmp, s_dup, s_dup2, s_pop, s_tab, s_look, s_get, s_put, s_iald, s_lald, s_aald, s_iast, s_last, s_aast, s_len, s_newa, s_new, s_thr, s_min, s_copy, s_obj, s_call, s_iret, s_aret, s_vret, go, ldI, lget, lput, lv_args, wsum, va_rf, hnd, cvr, cat_i, cat_r, cat_l, oi_of, oi_add, oi_sub, oA_ap, oA_u2, pi_lt, pi_le, pi_eq, pi_eq0, pi_lt0, pi_le0, pi_gt0, pi_ge0, pi_cl, sb_lit, fv4, isB01, nlt0, EvU_0, wO_ne, wL_ne, wC_ne, wN_ne, pO_ne, pU_ne, CN, LN, -Prod.exists, pi_ti, Op.lookupswitch.offset, EvU_at d67_0, EvU_at d67_2, EvU_at d67_3, EvU_at d67_4, EvU_at d67_5, EvU_at d67_6, EvU_at d67_7, EvU_at d67_10, EvU_at d67_11, EvU_at d67_12, EvU_at d67_15, EvU_at d67_17, EvU_at d67_18, EvU_at d67_19, EvU_at d67_21, EvU_at d67_22, EvU_at d67_23, EvU_at d67_24, Z67, Z68, LyS hL, LyG hL, p, thrw]
    · have q := q_set0 (A := A) (B := A) (gl := gl) (sl := (sl + 6)) (r := r) hA (hL.app (12, 0)) h hk hx
      simp only [if_pos c1] at q
      exact q
set_option maxRecDepth 20000 in
theorem o_at0 (hI : Iv L sh A gr sl n) (hn : n < 600) {k : Int} (hk : sb k) : Good L 86 [(0, .ref 1), (1, .int (oi 0)), (2, .int (oi k)), (3, .ref 216)] 152 [(0, .ref 199), (1, .int (oi 0)), (2, .int (oi k))] false False sh A gl gr sl n := by
  have hI2 := hI
  obtain ⟨hC, hS⟩ := hI.c hn
  obtain ⟨hA, hL, h, hC2, hS2, h0⟩ := hI2
  have ms := h.O.G.ms
  have hm := h.O.m
  have p := fun (r : Out) => p_at0 (gl := gl) (sl := sl) (r := r) hA hL hC hS hk
  by_cases c1 : 0 ≤ k ∧ k < 6
  · have k1 := c1
    simp only [if_neg (not_not_intro c1)] at p
    have hA1 : ∀ c0 d0, sb (A c0 d0) := hA
    have h1 : RL A A := h
    refine good_ok hI (A' := A) (A'' := (u2 A 199 0 0)) (gl' := (u2 gl 216 0 (oi (A 14 k.toNat)).toInt64)) (v := (A 14 k.toNat)) (fun r => ?_) (fun r => ?_) (fun _ => rfl) (fun e => e.elim) (Or.inl (g216 _ _)) ?_ ?_ ?_ ?_
    · rw [EvU_iff (fun _ => false) 30]
      simp [EvS, stI, enI, caI, s_push, s_iload, s_aload, s_istore, s_astore, s_iinc, s_bin, s_div, s_i2l, s_lcmp, s_dup, s_dup2, s_pop, s_tab, s_look, s_get, s_put, s_iald, s_lald, s_aald, s_iast, s_last, s_aast, s_len, s_newa, s_new, s_thr, s_min, s_copy, s_obj, s_call, s_iret, s_aret, s_vret, go, ldI, lget, lput, lv_args, wsum, va_rf, hnd, cvr, cat_i, cat_r, cat_l, oi_of, oi_add, oi_sub, oA_ap, oA_u2, pi_lt, pi_le, pi_eq, pi_eq0, pi_lt0, pi_le0, pi_gt0, pi_ge0, pi_cl, sb_lit, fv4, isB01, nlt0, EvU_0, wO_ne, wL_ne, wC_ne, wN_ne, pO_ne, pU_ne, CN, LN, -Prod.exists, pi_ti, Op.lookupswitch.offset, EvU_at d86_0, EvU_at d86_1, EvU_at d86_2, EvU_at d86_3, EvU_at d86_4, EvU_at d86_5, EvU_at d86_8, EvU_at d86_9, EvU_at d86_10, EvU_at d86_13, EvU_at d86_15, EvU_at d86_16, EvU_at d86_17, EvU_at d86_18, Z86, Z87, LyS hL, LyG hL, p]
    · have q := q_at0 (A := A) (B := A) (gl := (u2 gl 216 0 (oi (A 14 k.toNat)).toInt64)) (sl := sl) (r := r) hA1 hL h1 hk
      simp only [if_neg (not_not_intro c1)] at q
      exact q
    · exact sb_u2 hA1 (show sb 0 from ⟨by decide, by decide⟩) _ _
    · rw [ue_eq]
    · exact h1.t 0
    · exact fun a b ha => by rw [uk_ne (by omega)]
  · simp only [if_pos c1] at p
    refine good_fail hI (k := 1) (E := 2) (by omega) (fun r => ?_) (fun r => ?_)
    · rw [EvU_iff (fun _ => false) 30]
      simp [EvS, stI, enI, caI, s_push, s_iload, s_aload, s_istore, s_astore, s_iinc, s_bin, s_div, s_i2l, s_lcmp, s_dup, s_dup2, s_pop, s_tab, s_look, s_get, s_put, s_iald, s_lald, s_aald, s_iast, s_last, s_aast, s_len, s_newa, s_new, s_thr, s_min, s_copy, s_obj, s_call, s_iret, s_aret, s_vret, go, ldI, lget, lput, lv_args, wsum, va_rf, hnd, cvr, cat_i, cat_r, cat_l, oi_of, oi_add, oi_sub, oA_ap, oA_u2, pi_lt, pi_le, pi_eq, pi_eq0, pi_lt0, pi_le0, pi_gt0, pi_ge0, pi_cl, sb_lit, fv4, isB01, nlt0, EvU_0, wO_ne, wL_ne, wC_ne, wN_ne, pO_ne, pU_ne, CN, LN, -Prod.exists, pi_ti, Op.lookupswitch.offset, EvU_at d86_0, EvU_at d86_1, EvU_at d86_2, EvU_at d86_3, EvU_at d86_4, EvU_at d86_5, EvU_at d86_8, EvU_at d86_9, EvU_at d86_10, EvU_at d86_13, EvU_at d86_15, EvU_at d86_16, EvU_at d86_17, EvU_at d86_18, Z86, Z87, LyS hL, LyG hL, p, thrw]
    · have q := q_at0 (A := A) (B := A) (gl := gl) (sl := (sl + 6)) (r := r) hA (hL.app (12, 0)) h hk
      simp only [if_pos c1] at q
      exact q
set_option maxRecDepth 20000 in
theorem o_set1 (hI : Iv L sh A gr sl n) (hn : n < 600) {k x : Int} (hk : sb k) (hx : sb x) : Good L 67 [(0, .ref 1), (1, .int (oi 1)), (2, .int (oi k)), (3, .int (oi x)), (4, .ref 216)] 134 [(0, .ref 199), (1, .int (oi 1)), (2, .int (oi k)), (3, .int (oi x))] false False sh A gl gr sl n := by
  have hI2 := hI
  obtain ⟨hC, hS⟩ := hI.c hn
  obtain ⟨hA, hL, h, hC2, hS2, h0⟩ := hI2
  have ms := h.O.G.ms
  have hm := h.O.m
  have p := fun (r : Out) => p_set1 (gl := gl) (sl := sl) (r := r) hA hL hC hS hk hx
  by_cases c1 : 0 ≤ k ∧ k < 12
  · have k1 := c1
    by_cases c2 : 0 ≤ x ∧ x < (A (pO k.toNat) 1)
    · have k2 := c2
      by_cases c3 : A 74 2 = 0
      · have k3 := c3
        simp only [if_neg (not_not_intro c1), if_neg (not_not_intro c2), if_neg (not_not_intro c3)] at p
        have i3 : (6 + k).toNat = 6 + k.toNat := by omega
        have hA1 : ∀ c0 d0, sb ((u2 (u2 A 15 k.toNat x) 72 2 0) c0 d0) := sb_u2 (sb_u2 (hA) hx _ _) (show sb 0 from ⟨by decide, by decide⟩) _ _
        have h1 : RL (u2 (u2 A 15 k.toNat x) 72 2 0) A := h.cg (fun a b g1 g2 g3 => by rw [uk_ne (by first | omega | (simp only [wO, wL, wC, wN, pO, pU, gO, gS, gP, gQ, gK, gC]; omega)), uk_ne (by first | omega | (simp only [wO, wL, wC, wN, pO, pU, gO, gS, gP, gQ, gK, gC]; omega))])
        refine good_ok hI (A' := (u2 (u2 A 15 k.toNat x) 72 2 0)) (A'' := (u2 (u2 (u2 (u2 (u2 A 15 k.toNat x) 72 2 0) 199 0 0) 208 (6 + k).toNat x) 199 16 0)) (gl' := (u2 gl 216 0 (oi (A 15 k.toNat)).toInt64)) (v := (A 15 k.toNat)) (fun r => ?_) (fun r => ?_) (fun j => by rw [uk_ne (by first | omega | (simp only [wO, wL, wC, wN, pO, pU, gO, gS, gP, gQ, gK, gC]; omega)), uk_ne (by first | omega | (simp only [wO, wL, wC, wN, pO, pU, gO, gS, gP, gQ, gK, gC]; omega))]) (fun e => e.elim) (Or.inl (g216 _ _)) ?_ ?_ ?_ ?_
        · rw [EvU_iff (fun _ => false) 30]
          simp [EvS, stI, enI, caI, s_push, s_iload, s_aload, s_istore, s_astore, s_iinc, s_bin, s_div, s_i2l, s_lcmp, s_dup, s_dup2, s_pop, s_tab, s_look, s_get, s_put, s_iald, s_lald, s_aald, s_iast, s_last, s_aast, s_len, s_newa, s_new, s_thr, s_min, s_copy, s_obj, s_call, s_iret, s_aret, s_vret, go, ldI, lget, lput, lv_args, wsum, va_rf, hnd, cvr, cat_i, cat_r, cat_l, oi_of, oi_add, oi_sub, oA_ap, oA_u2, pi_lt, pi_le, pi_eq, pi_eq0, pi_lt0, pi_le0, pi_gt0, pi_ge0, pi_cl, sb_lit, fv4, isB01, nlt0, EvU_0, wO_ne, wL_ne, wC_ne, wN_ne, pO_ne, pU_ne, CN, LN, -Prod.exists, pi_ti, Op.lookupswitch.offset, EvU_at d67_0, EvU_at d67_2, EvU_at d67_3, EvU_at d67_4, EvU_at d67_5, EvU_at d67_6, EvU_at d67_7, EvU_at d67_10, EvU_at d67_11, EvU_at d67_12, EvU_at d67_15, EvU_at d67_17, EvU_at d67_18, EvU_at d67_19, EvU_at d67_21, EvU_at d67_22, EvU_at d67_23, EvU_at d67_24, Z67, Z68, LyS hL, LyG hL, p]
        · have q := q_set1 (A := (u2 (u2 A 15 k.toNat x) 72 2 0)) (B := A) (gl := (u2 gl 216 0 (oi (A 15 k.toNat)).toInt64)) (sl := sl) (r := r) hA1 hL h1 hk hx
          simp only [if_neg (not_not_intro c1), if_neg (not_not_intro c2), if_neg (not_not_intro c3)] at q
          exact q
        · exact sb_u2 (sb_u2 (sb_u2 hA1 (show sb 0 from ⟨by decide, by decide⟩) _ _) hx _ _) (show sb 0 from ⟨by decide, by decide⟩) _ _
        · rw [uj_ne (by omega), uk_ne (by omega), ue_eq]
        · rw [i3]; exact rl_set1 h1 (by omega) c2
        · exact fun a b ha => by rw [uk_ne (by omega), uk_ne (by omega), uk_ne (by omega)]
      · simp only [if_neg (not_not_intro c1), if_neg (not_not_intro c2), if_pos c3] at p
        refine good_fail hI (k := 2) (E := 1) (by omega) (fun r => ?_) (fun r => ?_)
        · rw [EvU_iff (fun _ => false) 30]
          simp [EvS, stI, enI, caI, s_push, s_iload, s_aload, s_istore, s_astore, s_iinc, s_bin, s_div, s_i2l, s_lcmp, s_dup, s_dup2, s_pop, s_tab, s_look, s_get, s_put, s_iald, s_lald, s_aald, s_iast, s_last, s_aast, s_len, s_newa, s_new, s_thr, s_min, s_copy, s_obj, s_call, s_iret, s_aret, s_vret, go, ldI, lget, lput, lv_args, wsum, va_rf, hnd, cvr, cat_i, cat_r, cat_l, oi_of, oi_add, oi_sub, oA_ap, oA_u2, pi_lt, pi_le, pi_eq, pi_eq0, pi_lt0, pi_le0, pi_gt0, pi_ge0, pi_cl, sb_lit, fv4, isB01, nlt0, EvU_0, wO_ne, wL_ne, wC_ne, wN_ne, pO_ne, pU_ne, CN, LN, -Prod.exists, pi_ti, Op.lookupswitch.offset, EvU_at d67_0, EvU_at d67_2, EvU_at d67_3, EvU_at d67_4, EvU_at d67_5, EvU_at d67_6, EvU_at d67_7, EvU_at d67_10, EvU_at d67_11, EvU_at d67_12, EvU_at d67_15, EvU_at d67_17, EvU_at d67_18, EvU_at d67_19, EvU_at d67_21, EvU_at d67_22, EvU_at d67_23, EvU_at d67_24, Z67, Z68, LyS hL, LyG hL, p, thrw]
        · have q := q_set1 (A := A) (B := A) (gl := gl) (sl := (sl + 6)) (r := r) hA (hL.app (11, 0)) h hk hx
          simp only [if_neg (not_not_intro c1), if_neg (not_not_intro c2), if_pos c3] at q
          exact q
    · simp only [if_neg (not_not_intro c1), if_pos c2] at p
      refine good_fail hI (k := 1) (E := 2) (by omega) (fun r => ?_) (fun r => ?_)
      · rw [EvU_iff (fun _ => false) 30]
        simp [EvS, stI, enI, caI, s_push, s_iload, s_aload, s_istore, s_astore, s_iinc, s_bin, s_div, s_i2l, s_lcmp, s_dup, s_dup2, s_pop, s_tab, s_look, s_get, s_put, s_iald, s_lald, s_aald, s_iast, s_last, s_aast, s_len, s_newa, s_new, s_thr, s_min, s_copy, s_obj, s_call, s_iret, s_aret, s_vret, go, ldI, lget, lput, lv_args, wsum, va_rf, hnd, cvr, cat_i, cat_r, cat_l, oi_of, oi_add, oi_sub, oA_ap, oA_u2, pi_lt, pi_le, pi_eq, pi_eq0, pi_lt0, pi_le0, pi_gt0, pi_ge0, pi_cl, sb_lit, fv4, isB01, nlt0, EvU_0, wO_ne, wL_ne, wC_ne, wN_ne, pO_ne, pU_ne, CN, LN, -Prod.exists, pi_ti, Op.lookupswitch.offset, EvU_at d67_0, EvU_at d67_2, EvU_at d67_3, EvU_at d67_4, EvU_at d67_5, EvU_at d67_6, EvU_at d67_7, EvU_at d67_10, EvU_at d67_11, EvU_at d67_12, EvU_at d67_15, EvU_at d67_17, EvU_at d67_18, EvU_at d67_19, EvU_at d67_21, EvU_at d67_22, EvU_at d67_23, EvU_at d67_24, Z67, Z68, LyS hL, LyG hL, p, thrw]
      · have q := q_set1 (A := A) (B := A) (gl := gl) (sl := (sl + 6)) (r := r) hA (hL.app (12, 0)) h hk hx
        simp only [if_neg (not_not_intro c1), if_pos c2] at q
        exact q
  · simp only [if_pos c1] at p
    refine good_fail hI (k := 1) (E := 2) (by omega) (fun r => ?_) (fun r => ?_)
    · rw [EvU_iff (fun _ => false) 30]
      simp [EvS, stI, enI, caI, s_push, s_iload, s_aload, s_istore, s_astore, s_iinc, s_bin, s_div, s_i2l, s_lcmp, s_dup, s_dup2, s_pop, s_tab, s_look, s_get, s_put, s_iald, s_lald, s_aald, s_iast, s_last, s_aast, s_len, s_newa, s_new, s_thr, s_min, s_copy, s_obj, s_call, s_iret, s_aret, s_vret, go, ldI, lget, lput, lv_args, wsum, va_rf, hnd, cvr, cat_i, cat_r, cat_l, oi_of, oi_add, oi_sub, oA_ap, oA_u2, pi_lt, pi_le, pi_eq, pi_eq0, pi_lt0, pi_le0, pi_gt0, pi_ge0, pi_cl, sb_lit, fv4, isB01, nlt0, EvU_0, wO_ne, wL_ne, wC_ne, wN_ne, pO_ne, pU_ne, CN, LN, -Prod.exists, pi_ti, Op.lookupswitch.offset, EvU_at d67_0, EvU_at d67_2, EvU_at d67_3, EvU_at d67_4, EvU_at d67_5, EvU_at d67_6, EvU_at d67_7, EvU_at d67_10, EvU_at d67_11, EvU_at d67_12, EvU_at d67_15, EvU_at d67_17, EvU_at d67_18, EvU_at d67_19, EvU_at d67_21, EvU_at d67_22, EvU_at d67_23, EvU_at d67_24, Z67, Z68, LyS hL, LyG hL, p, thrw]
    · have q := q_set1 (A := A) (B := A) (gl := gl) (sl := (sl + 6)) (r := r) hA (hL.app (12, 0)) h hk hx
      simp only [if_pos c1] at q
      exact q
set_option maxRecDepth 20000 in
theorem o_at1 (hI : Iv L sh A gr sl n) (hn : n < 600) {k : Int} (hk : sb k) : Good L 86 [(0, .ref 1), (1, .int (oi 1)), (2, .int (oi k)), (3, .ref 216)] 152 [(0, .ref 199), (1, .int (oi 1)), (2, .int (oi k))] false False sh A gl gr sl n := by
  have hI2 := hI
  obtain ⟨hC, hS⟩ := hI.c hn
  obtain ⟨hA, hL, h, hC2, hS2, h0⟩ := hI2
  have ms := h.O.G.ms
  have hm := h.O.m
  have p := fun (r : Out) => p_at1 (gl := gl) (sl := sl) (r := r) hA hL hC hS hk
  by_cases c1 : 0 ≤ k ∧ k < 12
  · have k1 := c1
    simp only [if_neg (not_not_intro c1)] at p
    have hA1 : ∀ c0 d0, sb (A c0 d0) := hA
    have h1 : RL A A := h
    refine good_ok hI (A' := A) (A'' := (u2 A 199 0 0)) (gl' := (u2 gl 216 0 (oi (A 15 k.toNat)).toInt64)) (v := (A 15 k.toNat)) (fun r => ?_) (fun r => ?_) (fun _ => rfl) (fun e => e.elim) (Or.inl (g216 _ _)) ?_ ?_ ?_ ?_
    · rw [EvU_iff (fun _ => false) 30]
      simp [EvS, stI, enI, caI, s_push, s_iload, s_aload, s_istore, s_astore, s_iinc, s_bin, s_div, s_i2l, s_lcmp, s_dup, s_dup2, s_pop, s_tab, s_look, s_get, s_put, s_iald, s_lald, s_aald, s_iast, s_last, s_aast, s_len, s_newa, s_new, s_thr, s_min, s_copy, s_obj, s_call, s_iret, s_aret, s_vret, go, ldI, lget, lput, lv_args, wsum, va_rf, hnd, cvr, cat_i, cat_r, cat_l, oi_of, oi_add, oi_sub, oA_ap, oA_u2, pi_lt, pi_le, pi_eq, pi_eq0, pi_lt0, pi_le0, pi_gt0, pi_ge0, pi_cl, sb_lit, fv4, isB01, nlt0, EvU_0, wO_ne, wL_ne, wC_ne, wN_ne, pO_ne, pU_ne, CN, LN, -Prod.exists, pi_ti, Op.lookupswitch.offset, EvU_at d86_0, EvU_at d86_1, EvU_at d86_2, EvU_at d86_3, EvU_at d86_4, EvU_at d86_5, EvU_at d86_8, EvU_at d86_9, EvU_at d86_10, EvU_at d86_13, EvU_at d86_15, EvU_at d86_16, EvU_at d86_17, EvU_at d86_18, Z86, Z87, LyS hL, LyG hL, p]
    · have q := q_at1 (A := A) (B := A) (gl := (u2 gl 216 0 (oi (A 15 k.toNat)).toInt64)) (sl := sl) (r := r) hA1 hL h1 hk
      simp only [if_neg (not_not_intro c1)] at q
      exact q
    · exact sb_u2 hA1 (show sb 0 from ⟨by decide, by decide⟩) _ _
    · rw [ue_eq]
    · exact h1.t 0
    · exact fun a b ha => by rw [uk_ne (by omega)]
  · simp only [if_pos c1] at p
    refine good_fail hI (k := 1) (E := 2) (by omega) (fun r => ?_) (fun r => ?_)
    · rw [EvU_iff (fun _ => false) 30]
      simp [EvS, stI, enI, caI, s_push, s_iload, s_aload, s_istore, s_astore, s_iinc, s_bin, s_div, s_i2l, s_lcmp, s_dup, s_dup2, s_pop, s_tab, s_look, s_get, s_put, s_iald, s_lald, s_aald, s_iast, s_last, s_aast, s_len, s_newa, s_new, s_thr, s_min, s_copy, s_obj, s_call, s_iret, s_aret, s_vret, go, ldI, lget, lput, lv_args, wsum, va_rf, hnd, cvr, cat_i, cat_r, cat_l, oi_of, oi_add, oi_sub, oA_ap, oA_u2, pi_lt, pi_le, pi_eq, pi_eq0, pi_lt0, pi_le0, pi_gt0, pi_ge0, pi_cl, sb_lit, fv4, isB01, nlt0, EvU_0, wO_ne, wL_ne, wC_ne, wN_ne, pO_ne, pU_ne, CN, LN, -Prod.exists, pi_ti, Op.lookupswitch.offset, EvU_at d86_0, EvU_at d86_1, EvU_at d86_2, EvU_at d86_3, EvU_at d86_4, EvU_at d86_5, EvU_at d86_8, EvU_at d86_9, EvU_at d86_10, EvU_at d86_13, EvU_at d86_15, EvU_at d86_16, EvU_at d86_17, EvU_at d86_18, Z86, Z87, LyS hL, LyG hL, p, thrw]
    · have q := q_at1 (A := A) (B := A) (gl := gl) (sl := (sl + 6)) (r := r) hA (hL.app (12, 0)) h hk
      simp only [if_pos c1] at q
      exact q
set_option maxRecDepth 20000 in
theorem o_image (hI : Iv L sh A gr sl n) (hn : n < 600) {x : Int} (hx : sb x) : Good L 84 [(0, .ref 1), (1, .int (oi x)), (2, .ref 216)] 151 [(0, .ref 199), (1, .int (oi x))] false False sh A gl gr sl n := by
  have hI2 := hI
  obtain ⟨hC, hS⟩ := hI.c hn
  obtain ⟨hA, hL, h, hC2, hS2, h0⟩ := hI2
  have ms := h.O.G.ms
  have hm := h.O.m
  have p := fun (r : Out) => p_image (gl := gl) (sl := sl) (r := r) hA hL hC hS h.O hx
  by_cases c1 : 0 ≤ x ∧ x < (A 2 9)
  · have k1 := c1
    simp only [if_neg (not_not_intro c1)] at p
    have hA1 : ∀ c0 d0, sb (A c0 d0) := hA
    have h1 : RL A A := h
    refine good_ok hI (A' := A) (A'' := (u2 A 199 0 0)) (gl' := (u2 gl 216 0 (oi (sendF A x)).toInt64)) (v := (sendF A x)) (fun r => ?_) (fun r => ?_) (fun _ => rfl) (fun e => e.elim) (Or.inl (g216 _ _)) ?_ ?_ ?_ ?_
    · rw [EvU_iff (fun _ => false) 30]
      simp [EvS, stI, enI, caI, s_push, s_iload, s_aload, s_istore, s_astore, s_iinc, s_bin, s_div, s_i2l, s_lcmp, s_dup, s_dup2, s_pop, s_tab, s_look, s_get, s_put, s_iald, s_lald, s_aald, s_iast, s_last, s_aast, s_len, s_newa, s_new, s_thr, s_min, s_copy, s_obj, s_call, s_iret, s_aret, s_vret, go, ldI, lget, lput, lv_args, wsum, va_rf, hnd, cvr, cat_i, cat_r, cat_l, oi_of, oi_add, oi_sub, oA_ap, oA_u2, pi_lt, pi_le, pi_eq, pi_eq0, pi_lt0, pi_le0, pi_gt0, pi_ge0, pi_cl, sb_lit, fv4, isB01, nlt0, EvU_0, wO_ne, wL_ne, wC_ne, wN_ne, pO_ne, pU_ne, CN, LN, -Prod.exists, pi_ti, Op.lookupswitch.offset, EvU_at d84_0, EvU_at d84_1, EvU_at d84_2, EvU_at d84_3, EvU_at d84_4, EvU_at d84_7, EvU_at d84_8, EvU_at d84_9, EvU_at d84_12, EvU_at d84_13, EvU_at d84_14, EvU_at d84_15, EvU_at d84_16, Z84, Z85, LyS hL, LyG hL, p]
    · have q := q_image (A := A) (B := A) (gl := (u2 gl 216 0 (oi (sendF A x)).toInt64)) (sl := sl) (r := r) hA1 hL h1 hx
      simp only [if_neg (not_not_intro c1)] at q
      exact q
    · exact sb_u2 hA1 (show sb 0 from ⟨by decide, by decide⟩) _ _
    · rw [ue_eq]
    · exact h1.t 0
    · exact fun a b ha => by rw [uk_ne (by omega)]
  · simp only [if_pos c1] at p
    refine good_fail hI (k := 1) (E := 2) (by omega) (fun r => ?_) (fun r => ?_)
    · rw [EvU_iff (fun _ => false) 30]
      simp [EvS, stI, enI, caI, s_push, s_iload, s_aload, s_istore, s_astore, s_iinc, s_bin, s_div, s_i2l, s_lcmp, s_dup, s_dup2, s_pop, s_tab, s_look, s_get, s_put, s_iald, s_lald, s_aald, s_iast, s_last, s_aast, s_len, s_newa, s_new, s_thr, s_min, s_copy, s_obj, s_call, s_iret, s_aret, s_vret, go, ldI, lget, lput, lv_args, wsum, va_rf, hnd, cvr, cat_i, cat_r, cat_l, oi_of, oi_add, oi_sub, oA_ap, oA_u2, pi_lt, pi_le, pi_eq, pi_eq0, pi_lt0, pi_le0, pi_gt0, pi_ge0, pi_cl, sb_lit, fv4, isB01, nlt0, EvU_0, wO_ne, wL_ne, wC_ne, wN_ne, pO_ne, pU_ne, CN, LN, -Prod.exists, pi_ti, Op.lookupswitch.offset, EvU_at d84_0, EvU_at d84_1, EvU_at d84_2, EvU_at d84_3, EvU_at d84_4, EvU_at d84_7, EvU_at d84_8, EvU_at d84_9, EvU_at d84_12, EvU_at d84_13, EvU_at d84_14, EvU_at d84_15, EvU_at d84_16, Z84, Z85, LyS hL, LyG hL, p, thrw]
    · have q := q_image (A := A) (B := A) (gl := gl) (sl := (sl + 6)) (r := r) hA (hL.app (12, 0)) h hx
      simp only [if_pos c1] at q
      exact q
set_option maxRecDepth 20000 in
theorem o_count (hI : Iv L sh A gr sl n) (hn : n < 600) {x : Int} (hx : sb x) : Good L 110 [(0, .ref 1), (1, .int (oi x)), (2, .ref 216)] 164 [(0, .ref 199), (1, .int (oi x))] false False sh A gl gr sl n := by
  have hI2 := hI
  obtain ⟨hC, hS⟩ := hI.c hn
  obtain ⟨hA, hL, h, hC2, hS2, h0⟩ := hI2
  have ms := h.O.G.ms
  have hm := h.O.m
  have p := fun (r : Out) => p_count (gl := gl) (sl := sl) (r := r) hA hL hC hS hx
  by_cases c1 : 0 ≤ x ∧ x < 8
  · have k1 := c1
    simp only [if_neg (not_not_intro c1)] at p
    have hA1 : ∀ c0 d0, sb (A c0 d0) := hA
    have h1 : RL A A := h
    refine good_ok hI (A' := A) (A'' := (u2 A 199 0 0)) (gl' := (u2 gl 216 0 (oi (cntV A x)).toInt64)) (v := (cntV A x)) (fun r => ?_) (fun r => ?_) (fun _ => rfl) (fun e => e.elim) (Or.inl (g216 _ _)) ?_ ?_ ?_ ?_
    · rw [EvU_iff (fun _ => false) 30]
      simp [EvS, stI, enI, caI, s_push, s_iload, s_aload, s_istore, s_astore, s_iinc, s_bin, s_div, s_i2l, s_lcmp, s_dup, s_dup2, s_pop, s_tab, s_look, s_get, s_put, s_iald, s_lald, s_aald, s_iast, s_last, s_aast, s_len, s_newa, s_new, s_thr, s_min, s_copy, s_obj, s_call, s_iret, s_aret, s_vret, go, ldI, lget, lput, lv_args, wsum, va_rf, hnd, cvr, cat_i, cat_r, cat_l, oi_of, oi_add, oi_sub, oA_ap, oA_u2, pi_lt, pi_le, pi_eq, pi_eq0, pi_lt0, pi_le0, pi_gt0, pi_ge0, pi_cl, sb_lit, fv4, isB01, nlt0, EvU_0, wO_ne, wL_ne, wC_ne, wN_ne, pO_ne, pU_ne, CN, LN, -Prod.exists, pi_ti, Op.lookupswitch.offset, EvU_at d110_0, EvU_at d110_1, EvU_at d110_2, EvU_at d110_3, EvU_at d110_4, EvU_at d110_7, EvU_at d110_8, EvU_at d110_9, EvU_at d110_12, EvU_at d110_13, EvU_at d110_14, EvU_at d110_15, EvU_at d110_16, Z110, Z111, LyS hL, LyG hL, p]
    · have q := q_count (A := A) (B := A) (gl := (u2 gl 216 0 (oi (cntV A x)).toInt64)) (sl := sl) (r := r) hA1 hL h1 hx
      simp only [if_neg (not_not_intro c1)] at q
      exact q
    · exact sb_u2 hA1 (show sb 0 from ⟨by decide, by decide⟩) _ _
    · rw [ue_eq]
    · exact h1.t 0
    · exact fun a b ha => by rw [uk_ne (by omega)]
  · simp only [if_pos c1] at p
    refine good_fail hI (k := 1) (E := 0) (by omega) (fun r => ?_) (fun r => ?_)
    · rw [EvU_iff (fun _ => false) 30]
      simp [EvS, stI, enI, caI, s_push, s_iload, s_aload, s_istore, s_astore, s_iinc, s_bin, s_div, s_i2l, s_lcmp, s_dup, s_dup2, s_pop, s_tab, s_look, s_get, s_put, s_iald, s_lald, s_aald, s_iast, s_last, s_aast, s_len, s_newa, s_new, s_thr, s_min, s_copy, s_obj, s_call, s_iret, s_aret, s_vret, go, ldI, lget, lput, lv_args, wsum, va_rf, hnd, cvr, cat_i, cat_r, cat_l, oi_of, oi_add, oi_sub, oA_ap, oA_u2, pi_lt, pi_le, pi_eq, pi_eq0, pi_lt0, pi_le0, pi_gt0, pi_ge0, pi_cl, sb_lit, fv4, isB01, nlt0, EvU_0, wO_ne, wL_ne, wC_ne, wN_ne, pO_ne, pU_ne, CN, LN, -Prod.exists, pi_ti, Op.lookupswitch.offset, EvU_at d110_0, EvU_at d110_1, EvU_at d110_2, EvU_at d110_3, EvU_at d110_4, EvU_at d110_7, EvU_at d110_8, EvU_at d110_9, EvU_at d110_12, EvU_at d110_13, EvU_at d110_14, EvU_at d110_15, EvU_at d110_16, Z110, Z111, LyS hL, LyG hL, p, thrw]
    · have q := q_count (A := A) (B := A) (gl := gl) (sl := (sl + 6)) (r := r) hA (hL.app (10, 0)) h hx
      simp only [if_pos c1] at q
      exact q
set_option maxRecDepth 20000 in
theorem o_logged (hI : Iv L sh A gr sl n) (hn : n < 600) {m k y : Int} (hm9 : sb m) (hk : sb k) (hy : sb y) : Good L 103 [(0, .ref 1), (1, .int (oi m)), (2, .int (oi k)), (3, .int (oi y)), (4, .ref 216)] 161 [(0, .ref 199), (1, .int (oi m)), (2, .int (oi k)), (3, .int (oi y))] false False sh A gl gr sl n := by
  have hI2 := hI
  obtain ⟨hC, hS⟩ := hI.c hn
  obtain ⟨hA, hL, h, hC2, hS2, h0⟩ := hI2
  have ms := h.O.G.ms
  have hm := h.O.m
  have p := fun (r : Out) => p_logged (gl := gl) (sl := sl) (r := r) hA hL hC hS h.O hm9 hk hy
  by_cases c1 : 0 ≤ m ∧ m < (A 74 1)
  · have k1 := c1
    by_cases c2 : 0 ≤ k ∧ k < (A (gO m.toNat) 3)
    · have k2 := c2
      by_cases c3 : y = 0 ∨ y = 1
      · have k3 := c3
        simp only [if_neg (not_not_intro c1), if_neg (not_not_intro c2), if_neg (not_not_intro c3)] at p
        have hA1 : ∀ c0 d0, sb (A c0 d0) := hA
        have h1 : RL A A := h
        refine good_ok hI (A' := A) (A'' := (u2 A 199 0 0)) (gl' := (u2 gl 216 0 (oi (if y = 0 then A (gK m.toNat) k.toNat else A (gC m.toNat) k.toNat)).toInt64)) (v := (if y = 0 then A (gK m.toNat) k.toNat else A (gC m.toNat) k.toNat)) (fun r => ?_) (fun r => ?_) (fun _ => rfl) (fun e => e.elim) (Or.inl (g216 _ _)) ?_ ?_ ?_ ?_
        · rw [EvU_iff (fun _ => false) 30]
          simp [EvS, stI, enI, caI, s_push, s_iload, s_aload, s_istore, s_astore, s_iinc, s_bin, s_div, s_i2l, s_lcmp, s_dup, s_dup2, s_pop, s_tab, s_look, s_get, s_put, s_iald, s_lald, s_aald, s_iast, s_last, s_aast, s_len, s_newa, s_new, s_thr, s_min, s_copy, s_obj, s_call, s_iret, s_aret, s_vret, go, ldI, lget, lput, lv_args, wsum, va_rf, hnd, cvr, cat_i, cat_r, cat_l, oi_of, oi_add, oi_sub, oA_ap, oA_u2, pi_lt, pi_le, pi_eq, pi_eq0, pi_lt0, pi_le0, pi_gt0, pi_ge0, pi_cl, sb_lit, fv4, isB01, nlt0, EvU_0, wO_ne, wL_ne, wC_ne, wN_ne, pO_ne, pU_ne, CN, LN, -Prod.exists, pi_ti, Op.lookupswitch.offset, EvU_at d103_0, EvU_at d103_2, EvU_at d103_3, EvU_at d103_4, EvU_at d103_5, EvU_at d103_6, EvU_at d103_7, EvU_at d103_10, EvU_at d103_11, EvU_at d103_12, EvU_at d103_15, EvU_at d103_17, EvU_at d103_18, EvU_at d103_19, EvU_at d103_21, EvU_at d103_22, EvU_at d103_23, EvU_at d103_24, Z103, Z104, LyS hL, LyG hL, p]
        · have q := q_logged (A := A) (B := A) (gl := (u2 gl 216 0 (oi (if y = 0 then A (gK m.toNat) k.toNat else A (gC m.toNat) k.toNat)).toInt64)) (sl := sl) (r := r) hA1 hL h1 hm9 hk hy
          simp only [if_neg (not_not_intro c1), if_neg (not_not_intro c2), if_neg (not_not_intro c3)] at q
          exact q
        · exact sb_u2 hA1 (show sb 0 from ⟨by decide, by decide⟩) _ _
        · rw [ue_eq]
        · exact h1.t 0
        · exact fun a b ha => by rw [uk_ne (by omega)]
      · simp only [if_neg (not_not_intro c1), if_neg (not_not_intro c2), if_pos c3] at p
        refine good_fail hI (k := 2) (E := 0) (by omega) (fun r => ?_) (fun r => ?_)
        · rw [EvU_iff (fun _ => false) 30]
          simp [EvS, stI, enI, caI, s_push, s_iload, s_aload, s_istore, s_astore, s_iinc, s_bin, s_div, s_i2l, s_lcmp, s_dup, s_dup2, s_pop, s_tab, s_look, s_get, s_put, s_iald, s_lald, s_aald, s_iast, s_last, s_aast, s_len, s_newa, s_new, s_thr, s_min, s_copy, s_obj, s_call, s_iret, s_aret, s_vret, go, ldI, lget, lput, lv_args, wsum, va_rf, hnd, cvr, cat_i, cat_r, cat_l, oi_of, oi_add, oi_sub, oA_ap, oA_u2, pi_lt, pi_le, pi_eq, pi_eq0, pi_lt0, pi_le0, pi_gt0, pi_ge0, pi_cl, sb_lit, fv4, isB01, nlt0, EvU_0, wO_ne, wL_ne, wC_ne, wN_ne, pO_ne, pU_ne, CN, LN, -Prod.exists, pi_ti, Op.lookupswitch.offset, EvU_at d103_0, EvU_at d103_2, EvU_at d103_3, EvU_at d103_4, EvU_at d103_5, EvU_at d103_6, EvU_at d103_7, EvU_at d103_10, EvU_at d103_11, EvU_at d103_12, EvU_at d103_15, EvU_at d103_17, EvU_at d103_18, EvU_at d103_19, EvU_at d103_21, EvU_at d103_22, EvU_at d103_23, EvU_at d103_24, Z103, Z104, LyS hL, LyG hL, p, thrw]
        · have q := q_logged (A := A) (B := A) (gl := gl) (sl := (sl + 6)) (r := r) hA (hL.app (10, 0)) h hm9 hk hy
          simp only [if_neg (not_not_intro c1), if_neg (not_not_intro c2), if_pos c3] at q
          exact q
    · simp only [if_neg (not_not_intro c1), if_pos c2] at p
      refine good_fail hI (k := 1) (E := 2) (by omega) (fun r => ?_) (fun r => ?_)
      · rw [EvU_iff (fun _ => false) 30]
        simp [EvS, stI, enI, caI, s_push, s_iload, s_aload, s_istore, s_astore, s_iinc, s_bin, s_div, s_i2l, s_lcmp, s_dup, s_dup2, s_pop, s_tab, s_look, s_get, s_put, s_iald, s_lald, s_aald, s_iast, s_last, s_aast, s_len, s_newa, s_new, s_thr, s_min, s_copy, s_obj, s_call, s_iret, s_aret, s_vret, go, ldI, lget, lput, lv_args, wsum, va_rf, hnd, cvr, cat_i, cat_r, cat_l, oi_of, oi_add, oi_sub, oA_ap, oA_u2, pi_lt, pi_le, pi_eq, pi_eq0, pi_lt0, pi_le0, pi_gt0, pi_ge0, pi_cl, sb_lit, fv4, isB01, nlt0, EvU_0, wO_ne, wL_ne, wC_ne, wN_ne, pO_ne, pU_ne, CN, LN, -Prod.exists, pi_ti, Op.lookupswitch.offset, EvU_at d103_0, EvU_at d103_2, EvU_at d103_3, EvU_at d103_4, EvU_at d103_5, EvU_at d103_6, EvU_at d103_7, EvU_at d103_10, EvU_at d103_11, EvU_at d103_12, EvU_at d103_15, EvU_at d103_17, EvU_at d103_18, EvU_at d103_19, EvU_at d103_21, EvU_at d103_22, EvU_at d103_23, EvU_at d103_24, Z103, Z104, LyS hL, LyG hL, p, thrw]
      · have q := q_logged (A := A) (B := A) (gl := gl) (sl := (sl + 6)) (r := r) hA (hL.app (12, 0)) h hm9 hk hy
        simp only [if_neg (not_not_intro c1), if_pos c2] at q
        exact q
  · simp only [if_pos c1] at p
    refine good_fail hI (k := 1) (E := 2) (by omega) (fun r => ?_) (fun r => ?_)
    · rw [EvU_iff (fun _ => false) 30]
      simp [EvS, stI, enI, caI, s_push, s_iload, s_aload, s_istore, s_astore, s_iinc, s_bin, s_div, s_i2l, s_lcmp, s_dup, s_dup2, s_pop, s_tab, s_look, s_get, s_put, s_iald, s_lald, s_aald, s_iast, s_last, s_aast, s_len, s_newa, s_new, s_thr, s_min, s_copy, s_obj, s_call, s_iret, s_aret, s_vret, go, ldI, lget, lput, lv_args, wsum, va_rf, hnd, cvr, cat_i, cat_r, cat_l, oi_of, oi_add, oi_sub, oA_ap, oA_u2, pi_lt, pi_le, pi_eq, pi_eq0, pi_lt0, pi_le0, pi_gt0, pi_ge0, pi_cl, sb_lit, fv4, isB01, nlt0, EvU_0, wO_ne, wL_ne, wC_ne, wN_ne, pO_ne, pU_ne, CN, LN, -Prod.exists, pi_ti, Op.lookupswitch.offset, EvU_at d103_0, EvU_at d103_2, EvU_at d103_3, EvU_at d103_4, EvU_at d103_5, EvU_at d103_6, EvU_at d103_7, EvU_at d103_10, EvU_at d103_11, EvU_at d103_12, EvU_at d103_15, EvU_at d103_17, EvU_at d103_18, EvU_at d103_19, EvU_at d103_21, EvU_at d103_22, EvU_at d103_23, EvU_at d103_24, Z103, Z104, LyS hL, LyG hL, p, thrw]
    · have q := q_logged (A := A) (B := A) (gl := gl) (sl := (sl + 6)) (r := r) hA (hL.app (12, 0)) h hm9 hk hy
      simp only [if_pos c1] at q
      exact q
set_option maxRecDepth 20000 in
theorem o_close (hI : Iv L sh A gr sl n) (hn : n < 600) : Good L 100 [(0, .ref 1), (1, .ref 216)] 160 [(0, .ref 199)] false False sh A gl gr sl n := by
  have hI2 := hI
  obtain ⟨hC, hS⟩ := hI.c hn
  obtain ⟨hA, hL, h, hC2, hS2, h0⟩ := hI2
  have ms := h.O.G.ms
  have hm := h.O.m
  have hc : A 74 2 ≠ 0 → (A 74 1 - 1).toNat < 20 ∧ A 74 1 = (((A 74 1 - 1).toNat : Nat) : Int) + 1 := fun c => by
    have := h.O.G.opn c
    omega
  have p := fun (r : Out) => p_close (gl := gl) (sl := sl) (r := r) hA hL hC hS hc
  by_cases c1 : A 74 2 ≠ 0
  · have k1 := c1
    simp only [if_neg (not_not_intro c1)] at p
    have hA1 : ∀ c0 d0, sb ((u2 A 74 2 0) c0 d0) := sb_u2 (hA) (show sb 0 from ⟨by decide, by decide⟩) _ _
    have h1 : RL (u2 A 74 2 0) A := h.cg (fun a b g1 g2 g3 => by rw [uk_ne (by first | omega | (simp only [wO, wL, wC, wN, pO, pU, gO, gS, gP, gQ, gK, gC]; omega))])
    refine good_ok hI (A' := (u2 A 74 2 0)) (A'' := (u2 (u2 (u2 A 74 2 0) 199 0 0) 199 19 0)) (gl' := (u2 gl 216 0 (oi (A (gO (A 74 1 - 1).toNat) 3)).toInt64)) (v := (A (gO (A 74 1 - 1).toNat) 3)) (fun r => ?_) (fun r => ?_) (fun j => by rw [uk_ne (by first | omega | (simp only [wO, wL, wC, wN, pO, pU, gO, gS, gP, gQ, gK, gC]; omega))]) (fun e => e.elim) (Or.inl (g216 _ _)) ?_ ?_ ?_ ?_
    · rw [EvU_iff (fun _ => false) 30]
      simp [EvS, stI, enI, caI, s_push, s_iload, s_aload, s_istore, s_astore, s_iinc, s_bin, s_div, s_i2l, s_lcmp, s_dup, s_dup2, s_pop, s_tab, s_look, s_get, s_put, s_iald, s_lald, s_aald, s_iast, s_last, s_aast, s_len, s_newa, s_new, s_thr, s_min, s_copy, s_obj, s_call, s_iret, s_aret, s_vret, go, ldI, lget, lput, lv_args, wsum, va_rf, hnd, cvr, cat_i, cat_r, cat_l, oi_of, oi_add, oi_sub, oA_ap, oA_u2, pi_lt, pi_le, pi_eq, pi_eq0, pi_lt0, pi_le0, pi_gt0, pi_ge0, pi_cl, sb_lit, fv4, isB01, nlt0, EvU_0, wO_ne, wL_ne, wC_ne, wN_ne, pO_ne, pU_ne, CN, LN, -Prod.exists, pi_ti, Op.lookupswitch.offset, EvU_at d100_0, EvU_at d100_1, EvU_at d100_2, EvU_at d100_3, EvU_at d100_6, EvU_at d100_7, EvU_at d100_8, EvU_at d100_11, EvU_at d100_12, EvU_at d100_13, EvU_at d100_14, EvU_at d100_15, Z100, Z101, LyS hL, LyG hL, p]
    · have q := q_close (A := (u2 A 74 2 0)) (B := A) (gl := (u2 gl 216 0 (oi (A (gO (A 74 1 - 1).toNat) 3)).toInt64)) (sl := sl) (r := r) hA1 hL h1 hc
      simp only [if_neg (not_not_intro c1)] at q
      exact q
    · exact sb_u2 (sb_u2 hA1 (show sb 0 from ⟨by decide, by decide⟩) _ _) (show sb 0 from ⟨by decide, by decide⟩) _ _
    · rw [uj_ne (by omega), ue_eq]
    · exact rl_close h1
    · exact fun a b ha => by rw [uk_ne (by omega), uk_ne (by omega)]
  · simp only [if_pos c1] at p
    refine good_fail hI (k := 1) (E := 1) (by omega) (fun r => ?_) (fun r => ?_)
    · rw [EvU_iff (fun _ => false) 30]
      simp [EvS, stI, enI, caI, s_push, s_iload, s_aload, s_istore, s_astore, s_iinc, s_bin, s_div, s_i2l, s_lcmp, s_dup, s_dup2, s_pop, s_tab, s_look, s_get, s_put, s_iald, s_lald, s_aald, s_iast, s_last, s_aast, s_len, s_newa, s_new, s_thr, s_min, s_copy, s_obj, s_call, s_iret, s_aret, s_vret, go, ldI, lget, lput, lv_args, wsum, va_rf, hnd, cvr, cat_i, cat_r, cat_l, oi_of, oi_add, oi_sub, oA_ap, oA_u2, pi_lt, pi_le, pi_eq, pi_eq0, pi_lt0, pi_le0, pi_gt0, pi_ge0, pi_cl, sb_lit, fv4, isB01, nlt0, EvU_0, wO_ne, wL_ne, wC_ne, wN_ne, pO_ne, pU_ne, CN, LN, -Prod.exists, pi_ti, Op.lookupswitch.offset, EvU_at d100_0, EvU_at d100_1, EvU_at d100_2, EvU_at d100_3, EvU_at d100_6, EvU_at d100_7, EvU_at d100_8, EvU_at d100_11, EvU_at d100_12, EvU_at d100_13, EvU_at d100_14, EvU_at d100_15, Z100, Z101, LyS hL, LyG hL, p, thrw]
    · have q := q_close (A := A) (B := A) (gl := gl) (sl := (sl + 6)) (r := r) hA (hL.app (11, 0)) h hc
      simp only [if_pos c1] at q
      exact q
set_option maxRecDepth 20000 in
theorem o_open (hI : Iv L sh A gr sl n) (hn : n < 600) : Good L 97 [(0, .ref 1), (1, .ref 216)] 159 [(0, .ref 199)] false False sh A gl gr sl n := by
  have hI2 := hI
  obtain ⟨hC, hS⟩ := hI.c hn
  obtain ⟨hA, hL, h, hC2, hS2, h0⟩ := hI2
  have ms := h.O.G.ms
  have hm := h.O.m
  have hc : A 74 1 = (((A 74 1).toNat : Nat) : Int) ∧ (A 74 1).toNat ≤ 20 := by omega
  have p := fun (r : Out) => p_open (gl := gl) (sl := sl) (r := r) hA hL hC hS hc.1 hc.2
  by_cases c1 : A 74 2 = 0
  · have k1 := c1
    by_cases c2 : (A 74 1).toNat < 20
    · have k2 := c2
      simp only [if_neg (not_not_intro c1), if_neg (not_not_intro c2)] at p
      have hA1 : ∀ c0 d0, sb ((u2 (u2 (u2 (rowC (rowC A 14 (gP (A 74 1).toNat) 6) 15 (gQ (A 74 1).toNat) 12) (gO (A 74 1).toNat) 3 0) 74 2 1) 74 1 ((((A 74 1).toNat : Nat) : Int) + 1)) c0 d0) := sb_u2 (sb_u2 (sb_u2 (sb_rowC (sb_rowC hA _ _ _) _ _ _) (show sb 0 from ⟨by decide, by decide⟩) _ _) (show sb 1 from ⟨by decide, by decide⟩) _ _) (show sb _ from ⟨by omega, by omega⟩) _ _
      have h1 : RL (u2 (u2 (u2 (rowC (rowC A 14 (gP (A 74 1).toNat) 6) 15 (gQ (A 74 1).toNat) 12) (gO (A 74 1).toNat) 3 0) 74 2 1) 74 1 ((((A 74 1).toNat : Nat) : Int) + 1)) A := h.cg (fun a b g1 g2 g3 => by rw [uk_ne (by omega), uk_ne (by omega), uk_ne (by unfold gO; omega)]; unfold rowC; rw [if_neg (by unfold gQ; omega), if_neg (by unfold gP; omega)])
      refine good_ok hI (A' := (u2 (u2 (u2 (rowC (rowC A 14 (gP (A 74 1).toNat) 6) 15 (gQ (A 74 1).toNat) 12) (gO (A 74 1).toNat) 3 0) 74 2 1) 74 1 ((((A 74 1).toNat : Nat) : Int) + 1))) (A'' := (u2 (u2 (u2 (fillR (u2 (u2 (u2 (u2 (rowC (rowC A 14 (gP (A 74 1).toNat) 6) 15 (gQ (A 74 1).toNat) 12) (gO (A 74 1).toNat) 3 0) 74 2 1) 74 1 ((((A 74 1).toNat : Nat) : Int) + 1)) 199 0 0) 213 (18 * (A 74 1).toNat + 0) (18 * (A 74 1).toNat + 18) (fun j => (u2 (u2 (u2 (rowC (rowC A 14 (gP (A 74 1).toNat) 6) 15 (gQ (A 74 1).toNat) 12) (gO (A 74 1).toNat) 3 0) 74 2 1) 74 1 ((((A 74 1).toNat : Nat) : Int) + 1)) 208 (j - 18 * (A 74 1).toNat))) 212 (A 74 1).toNat 0) 199 18 ((((A 74 1).toNat : Nat) : Int) + 1)) 199 19 1)) (gl' := (u2 gl 216 0 (oi (((A 74 1).toNat : Nat) : Int)).toInt64)) (v := (((A 74 1).toNat : Nat) : Int)) (fun r => ?_) (fun r => ?_) (fun j => by rw [uk_ne (by omega), uk_ne (by omega), uk_ne (by unfold gO; omega)]; unfold rowC; rw [if_neg (by unfold gQ; omega), if_neg (by unfold gP; omega)]) (fun e => e.elim) (Or.inl (g216 _ _)) ?_ ?_ ?_ ?_
      · rw [EvU_iff (fun _ => false) 30]
        simp [EvS, stI, enI, caI, s_push, s_iload, s_aload, s_istore, s_astore, s_iinc, s_bin, s_div, s_i2l, s_lcmp, s_dup, s_dup2, s_pop, s_tab, s_look, s_get, s_put, s_iald, s_lald, s_aald, s_iast, s_last, s_aast, s_len, s_newa, s_new, s_thr, s_min, s_copy, s_obj, s_call, s_iret, s_aret, s_vret, go, ldI, lget, lput, lv_args, wsum, va_rf, hnd, cvr, cat_i, cat_r, cat_l, oi_of, oi_add, oi_sub, oA_ap, oA_u2, pi_lt, pi_le, pi_eq, pi_eq0, pi_lt0, pi_le0, pi_gt0, pi_ge0, pi_cl, sb_lit, fv4, isB01, nlt0, EvU_0, wO_ne, wL_ne, wC_ne, wN_ne, pO_ne, pU_ne, CN, LN, -Prod.exists, pi_ti, Op.lookupswitch.offset, EvU_at d97_0, EvU_at d97_1, EvU_at d97_2, EvU_at d97_3, EvU_at d97_6, EvU_at d97_7, EvU_at d97_8, EvU_at d97_11, EvU_at d97_12, EvU_at d97_13, EvU_at d97_14, EvU_at d97_15, Z97, Z98, LyS hL, LyG hL, p]
      · have q := q_open (A := (u2 (u2 (u2 (rowC (rowC A 14 (gP (A 74 1).toNat) 6) 15 (gQ (A 74 1).toNat) 12) (gO (A 74 1).toNat) 3 0) 74 2 1) 74 1 ((((A 74 1).toNat : Nat) : Int) + 1))) (B := A) (gl := (u2 gl 216 0 (oi (((A 74 1).toNat : Nat) : Int)).toInt64)) (sl := sl) (r := r) hA1 hL h1 hc.1 hc.2
        simp only [if_neg (not_not_intro c1), if_neg (not_not_intro c2)] at q
        exact q
      · exact sb_u2 (sb_u2 (sb_u2 (sb_fillR (sb_u2 hA1 (show sb 0 from ⟨by decide, by decide⟩) _ _) _ _ _ (fun _ _ => hA1 _ _)) (show sb 0 from ⟨by decide, by decide⟩) _ _) (show sb _ from ⟨by omega, by omega⟩) _ _) (show sb 1 from ⟨by decide, by decide⟩) _ _
      · rw [uj_ne (by omega), uj_ne (by omega), uk_ne (by omega)]; unfold fillR; rw [if_neg (by omega), ue_eq]
      · exact rl_open h1 hc.1 c2
      · exact fun a b ha => by rw [uk_ne (by omega), uk_ne (by omega), uk_ne (by omega)]; unfold fillR; rw [if_neg (by omega), uk_ne (by omega)]
    · simp only [if_neg (not_not_intro c1), if_pos c2] at p
      refine good_fail hI (k := 1) (E := 1) (by omega) (fun r => ?_) (fun r => ?_)
      · rw [EvU_iff (fun _ => false) 30]
        simp [EvS, stI, enI, caI, s_push, s_iload, s_aload, s_istore, s_astore, s_iinc, s_bin, s_div, s_i2l, s_lcmp, s_dup, s_dup2, s_pop, s_tab, s_look, s_get, s_put, s_iald, s_lald, s_aald, s_iast, s_last, s_aast, s_len, s_newa, s_new, s_thr, s_min, s_copy, s_obj, s_call, s_iret, s_aret, s_vret, go, ldI, lget, lput, lv_args, wsum, va_rf, hnd, cvr, cat_i, cat_r, cat_l, oi_of, oi_add, oi_sub, oA_ap, oA_u2, pi_lt, pi_le, pi_eq, pi_eq0, pi_lt0, pi_le0, pi_gt0, pi_ge0, pi_cl, sb_lit, fv4, isB01, nlt0, EvU_0, wO_ne, wL_ne, wC_ne, wN_ne, pO_ne, pU_ne, CN, LN, -Prod.exists, pi_ti, Op.lookupswitch.offset, EvU_at d97_0, EvU_at d97_1, EvU_at d97_2, EvU_at d97_3, EvU_at d97_6, EvU_at d97_7, EvU_at d97_8, EvU_at d97_11, EvU_at d97_12, EvU_at d97_13, EvU_at d97_14, EvU_at d97_15, Z97, Z98, LyS hL, LyG hL, p, thrw]
      · have q := q_open (A := A) (B := A) (gl := gl) (sl := (sl + 6)) (r := r) hA (hL.app (11, 0)) h hc.1 hc.2
        simp only [if_neg (not_not_intro c1), if_pos c2] at q
        exact q
  · simp only [if_pos c1] at p
    refine good_fail hI (k := 1) (E := 1) (by omega) (fun r => ?_) (fun r => ?_)
    · rw [EvU_iff (fun _ => false) 30]
      simp [EvS, stI, enI, caI, s_push, s_iload, s_aload, s_istore, s_astore, s_iinc, s_bin, s_div, s_i2l, s_lcmp, s_dup, s_dup2, s_pop, s_tab, s_look, s_get, s_put, s_iald, s_lald, s_aald, s_iast, s_last, s_aast, s_len, s_newa, s_new, s_thr, s_min, s_copy, s_obj, s_call, s_iret, s_aret, s_vret, go, ldI, lget, lput, lv_args, wsum, va_rf, hnd, cvr, cat_i, cat_r, cat_l, oi_of, oi_add, oi_sub, oA_ap, oA_u2, pi_lt, pi_le, pi_eq, pi_eq0, pi_lt0, pi_le0, pi_gt0, pi_ge0, pi_cl, sb_lit, fv4, isB01, nlt0, EvU_0, wO_ne, wL_ne, wC_ne, wN_ne, pO_ne, pU_ne, CN, LN, -Prod.exists, pi_ti, Op.lookupswitch.offset, EvU_at d97_0, EvU_at d97_1, EvU_at d97_2, EvU_at d97_3, EvU_at d97_6, EvU_at d97_7, EvU_at d97_8, EvU_at d97_11, EvU_at d97_12, EvU_at d97_13, EvU_at d97_14, EvU_at d97_15, Z97, Z98, LyS hL, LyG hL, p, thrw]
    · have q := q_open (A := A) (B := A) (gl := gl) (sl := (sl + 6)) (r := r) hA (hL.app (11, 0)) h hc.1 hc.2
      simp only [if_pos c1] at q
      exact q
end
