/-! the calls, one after another (gen69.py) -/
section
variable {sh : List (Nat × Nat)} {A : Nat → Nat → Int} {gl : Nat → Nat → Int64} {gr : Nat → Nat → Option Nat} {sl L n : Nat}
theorem sb_logF (h : CO A) (hA : ∀ k j, sb (A k j)) {x v : Int} (hx : sb x) (hv : sb v) : ∀ k j, sb (logF A x v k j) := by
  unfold logF
  by_cases c : A 74 2 = 0
  · rw [if_pos c]
    exact hA
  · rw [if_neg c]
    have h1 := h.G.opn c
    have h2 := h.G.ms
    have h3 := h.G.sg (A 74 1 - 1).toNat (by omega)
    exact sb_u2 (sb_u2 (sb_u2 hA hx _ _) hv _ _) ⟨by omega, by omega⟩ _ _
theorem sb_undF (h : CO A) (hA : ∀ k j, sb (A k j)) (h0 : A 72 2 ≠ 0) : ∀ k j, sb (undF A k j) := by
  intro k j
  have hN := h.U.nx
  have hU := h.U.un
  have hc := h.un h0
  unfold undF
  have r := rd_in (a := A 72 1 - 1) (m := 40) (by omega) (by omega)
  have hB := sb_u2 (sb_u2 hA (show sb (rd (A 72 1 - 1) 40) from ⟨by omega, by omega⟩) 72 1) (show sb (A 72 2 - 1) from ⟨by omega, by omega⟩) 72 2
  by_cases c4 : k = 14
  · subst c4
    rw [moveF_14]
    split
    · rename_i c
      have p := hc.P.pos j c.1
      have m := hc.m
      unfold undF at p
      rw [moveF_14, if_pos c] at p
      have e : undF A 2 9 = A 2 9 := undF_ne A (by omega) 9
      unfold undF at e m
      rw [e] at p m
      exact ⟨by omega, by omega⟩
    · exact hB _ _
  · by_cases c5 : k = 15
    · subst c5
      rw [moveF_15]
      split
      · rename_i c
        have p := hc.P.pl j c.1
        have m := hc.M.len j c.1
        unfold undF at p m
        have e : moveF (-1) (A 73 (rd (A 72 1 - 1) 40).toNat).toNat (u2 (u2 A 72 1 (rd (A 72 1 - 1) 40)) 72 2 (A 72 2 - 1)) (pO j) 1 = u2 (u2 A 72 1 (rd (A 72 1 - 1) 40)) 72 2 (A 72 2 - 1) (pO j) 1 := moveF_ne _ _ _ (by unfold pO; omega) (by unfold pO; omega) 1
        rw [e] at p m
        rw [moveF_15, if_pos c] at p
        have := p.2.1 c.2
        exact ⟨by omega, by omega⟩
      · exact hB _ _
    · rw [moveF_ne _ _ _ c4 c5]
      exact hB _ _
theorem sb_till : ∀ (m t : Nat) (A : Nat → Nat → Int), CO A → (∀ k j, sb (A k j)) → ∀ k j, sb ((tillF m t A).2 k j) := by
  intro m
  induction m with
  | zero => exact fun t A _ h => h
  | succ m ih =>
    intro t A h hA
    rw [tillF]
    split
    · exact h.sbst hA
    · exact ih _ _ h.st (h.sbst hA)
theorem sb_oth (i : Nat) : ∀ (m t : Nat) (A : Nat → Nat → Int), CO A → (∀ k j, sb (A k j)) → ∀ k j, sb ((othF i m t A).2 k j) := by
  intro m
  induction m with
  | zero => exact fun t A _ h => h
  | succ m ih =>
    intro t A h hA
    rw [othF]
    split
    · exact ih _ _ h.st (h.sbst hA)
    · exact h.sbst hA
theorem sb_perR : ∀ (m : Nat) (A B : Nat → Nat → Int), RW A B → (∀ k j, sb (A k j)) → ∀ k j, sb (perR m A B k j) := by
  intro m
  induction m with
  | zero => exact fun A B _ h => h
  | succ m ih =>
    intro A B h hA
    rw [perR]
    split
    · exact sb_stR h hA
    · exact ih _ _ h.st (sb_stR h hA)
theorem sb_othR (i : Nat) : ∀ (m t : Nat) (A B : Nat → Nat → Int), RW A B → (∀ k j, sb (A k j)) → ∀ k j, sb (othR i m t A B k j) := by
  intro m
  induction m with
  | zero => exact fun t A B _ h => h
  | succ m ih =>
    intro t A B h hA
    rw [othR]
    split
    · exact ih _ _ _ h.st (sb_stR h hA)
    · exact sb_stR h hA
theorem keyS_big (A : Nat → Nat → Int) {a : Nat} (ha : 199 ≤ a) (b : Nat) : keyS A a b = A a b := keyS_ne A (by omega) b
theorem logF_big (A : Nat → Nat → Int) (hm : A 74 1 ≤ 20) (x v : Int) {a : Nat} (ha : 199 ≤ a) (b : Nat) : logF A x v a b = A a b := by
  unfold logF
  split
  · rfl
  · rw [uk_ne (by unfold gO; omega), uk_ne (by unfold gC; omega), uk_ne (by unfold gK; omega)]
theorem logF_0 (A : Nat → Nat → Int) (x v : Int) (b : Nat) : logF A x v 0 b = A 0 b := by
  unfold logF
  split
  · rfl
  · rw [uk_ne (by unfold gO; omega), uk_ne (by unfold gC; omega), uk_ne (by unfold gK; omega)]
theorem bringF_0 (A : Nat → Nat → Int) (b : Nat) : bringF A 0 b = A 0 b := by
  unfold bringF rowC
  rw [if_neg (by omega), if_neg (by omega)]
theorem bringF_big (A : Nat → Nat → Int) {a : Nat} (ha : 199 ≤ a) (b : Nat) : bringF A a b = A a b := by
  unfold bringF rowC
  rw [if_neg (by omega), if_neg (by omega)]
theorem keepF_big (A : Nat → Nat → Int) {a : Nat} (ha : 199 ≤ a) (b : Nat) : keepF A a b = A a b := by
  unfold keepF rowC
  rw [if_neg (by omega), if_neg (by omega)]
theorem stR_lo (A B : Nat → Nat → Int) {a : Nat} (ha : a < 199) (b : Nat) : stR A B 0 a b = A a b := stR_ne A B 0 (by omega) (by omega) b
theorem goA_lo (A B : Nat → Nat → Int) {a : Nat} (ha : a < 199) (b : Nat) : goA A B a b = A a b := goA_ne A B (by omega) (by omega) b
theorem bringR_lo {X A : Nat → Nat → Int} (h1 : ∀ a b, a ≠ 208 → a ≠ 210 → X a b = asideR A a b) {a : Nat} (ha : a < 199) (b : Nat) : bringR X A a b = A a b := by
  unfold bringR fillR
  rw [if_neg (by omega), h1 a b (by omega) (by omega), asideR_ne A (by omega) (by omega)]
theorem bringR_t {X A : Nat → Nat → Int} (h1 : ∀ a b, a ≠ 208 → a ≠ 210 → X a b = asideR A a b) : bringR X A 199 0 = 0 := by
  unfold bringR fillR
  rw [if_neg (by omega), h1 _ _ (by omega) (by omega)]
  unfold asideR fillR
  rw [if_neg (by omega), ue_eq]
theorem sb_bringR {X A : Nat → Nat → Int} (hX : ∀ k j, sb (X k j)) (hA : ∀ k j, sb (A k j)) : ∀ k j, sb (bringR X A k j) := sb_fillR hX _ _ _ (fun j _ => sb_aside hA _ _)
set_option maxRecDepth 20000 in
theorem o_back (hI : Iv L sh A gr sl n) (hn : n < 600) {x : Int} (hx : sb x) : Good L 81 [(0, .ref 1), (1, .int (oi x)), (2, .ref 216)] 150 [(0, .ref 199), (1, .int (oi x))] false False sh A gl gr sl n := by
  have hI2 := hI
  obtain ⟨hC, hS⟩ := hI.c hn
  obtain ⟨hA, hL, h, hC2, hS2, h0⟩ := hI2
  have ms := h.O.G.ms
  have hm := h.O.m
  have p := fun (r : Out) => p_back (gl := gl) (sl := sl) (r := r) hA hL hC hS h.O hx
  by_cases c1 : 0 ≤ x ∧ x < (A 2 9)
  · have k1 := c1
    by_cases c2 : A 74 2 = 0
    · have k2 := c2
      simp only [if_neg (not_not_intro c1), if_neg (not_not_intro c2)] at p
      have hA1 : ∀ c0 d0, sb ((keyS A) c0 d0) := h.O.sbks hA
      have h1 : RL (keyS A) A := h.cg (fun a b g1 g2 g3 => keyS_big A g1 b)
      refine good_ok hI (A' := (keyS A)) (A'' := (stR (goA (u2 (keyS A) 199 0 0) A) A 0)) (gl' := (u2 gl 216 0 (oi (backF (keyS A) x)).toInt64)) (v := (backF (keyS A) x)) (fun r => ?_) (fun r => ?_) (fun j => keyS_ne A (by omega) j) (fun e => e.elim) (Or.inl (g216 _ _)) ?_ ?_ ?_ ?_
      · rw [EvU_iff (fun _ => false) 30]
        simp [EvS, stI, enI, caI, s_push, s_iload, s_aload, s_istore, s_astore, s_iinc, s_bin, s_div, s_i2l, s_lcmp, s_dup, s_dup2, s_pop, s_tab, s_look, s_get, s_put, s_iald, s_lald, s_aald, s_iast, s_last, s_aast, s_len, s_newa, s_new, s_thr, s_min, s_copy, s_obj, s_call, s_iret, s_aret, s_vret, go, ldI, lget, lput, lv_args, wsum, va_rf, hnd, cvr, cat_i, cat_r, cat_l, oi_of, oi_add, oi_sub, oA_ap, oA_u2, pi_lt, pi_le, pi_eq, pi_eq0, pi_lt0, pi_le0, pi_gt0, pi_ge0, pi_cl, sb_lit, fv4, isB01, nlt0, EvU_0, wO_ne, wL_ne, wC_ne, wN_ne, pO_ne, pU_ne, CN, LN, -Prod.exists, pi_ti, Op.lookupswitch.offset, EvU_at d81_0, EvU_at d81_1, EvU_at d81_2, EvU_at d81_3, EvU_at d81_4, EvU_at d81_7, EvU_at d81_8, EvU_at d81_9, EvU_at d81_12, EvU_at d81_13, EvU_at d81_14, EvU_at d81_15, EvU_at d81_16, EvU_at d81_17, EvU_at d81_18, EvU_at d81_19, Z81, Z82, LyS hL, LyG hL, p]
      · have q := q_back (A := (keyS A)) (B := A) (gl := (u2 gl 216 0 (oi (backF (keyS A) x)).toInt64)) (sl := sl) (r := r) hA1 hL h1 hx
        simp only [if_neg (not_not_intro c1), if_neg (not_not_intro c2)] at q
        exact q
      · exact sb_stR (RW.go (h1.t 0)) (sb_goA (h1.t 0) (sb_u2 hA1 (show sb 0 from ⟨by decide, by decide⟩) _ _))
      · rw [stR_ne _ _ _ (by omega) (by omega), goA_9 _ _ (by omega), ue_eq]
      · exact rl_step (h1.t 0)
      · exact fun a b ha => by rw [stR_lo _ _ (by omega), goA_lo _ _ (by omega), uk_ne (by omega)]
    · simp only [if_neg (not_not_intro c1), if_pos c2] at p
      refine good_fail hI (k := 2) (E := 1) (by omega) (fun r => ?_) (fun r => ?_)
      · rw [EvU_iff (fun _ => false) 30]
        simp [EvS, stI, enI, caI, s_push, s_iload, s_aload, s_istore, s_astore, s_iinc, s_bin, s_div, s_i2l, s_lcmp, s_dup, s_dup2, s_pop, s_tab, s_look, s_get, s_put, s_iald, s_lald, s_aald, s_iast, s_last, s_aast, s_len, s_newa, s_new, s_thr, s_min, s_copy, s_obj, s_call, s_iret, s_aret, s_vret, go, ldI, lget, lput, lv_args, wsum, va_rf, hnd, cvr, cat_i, cat_r, cat_l, oi_of, oi_add, oi_sub, oA_ap, oA_u2, pi_lt, pi_le, pi_eq, pi_eq0, pi_lt0, pi_le0, pi_gt0, pi_ge0, pi_cl, sb_lit, fv4, isB01, nlt0, EvU_0, wO_ne, wL_ne, wC_ne, wN_ne, pO_ne, pU_ne, CN, LN, -Prod.exists, pi_ti, Op.lookupswitch.offset, EvU_at d81_0, EvU_at d81_1, EvU_at d81_2, EvU_at d81_3, EvU_at d81_4, EvU_at d81_7, EvU_at d81_8, EvU_at d81_9, EvU_at d81_12, EvU_at d81_13, EvU_at d81_14, EvU_at d81_15, EvU_at d81_16, EvU_at d81_17, EvU_at d81_18, EvU_at d81_19, Z81, Z82, LyS hL, LyG hL, p, thrw]
      · have q := q_back (A := A) (B := A) (gl := gl) (sl := (sl + 6)) (r := r) hA (hL.app (11, 0)) h hx
        simp only [if_neg (not_not_intro c1), if_pos c2] at q
        exact q
  · simp only [if_pos c1] at p
    refine good_fail hI (k := 1) (E := 2) (by omega) (fun r => ?_) (fun r => ?_)
    · rw [EvU_iff (fun _ => false) 30]
      simp [EvS, stI, enI, caI, s_push, s_iload, s_aload, s_istore, s_astore, s_iinc, s_bin, s_div, s_i2l, s_lcmp, s_dup, s_dup2, s_pop, s_tab, s_look, s_get, s_put, s_iald, s_lald, s_aald, s_iast, s_last, s_aast, s_len, s_newa, s_new, s_thr, s_min, s_copy, s_obj, s_call, s_iret, s_aret, s_vret, go, ldI, lget, lput, lv_args, wsum, va_rf, hnd, cvr, cat_i, cat_r, cat_l, oi_of, oi_add, oi_sub, oA_ap, oA_u2, pi_lt, pi_le, pi_eq, pi_eq0, pi_lt0, pi_le0, pi_gt0, pi_ge0, pi_cl, sb_lit, fv4, isB01, nlt0, EvU_0, wO_ne, wL_ne, wC_ne, wN_ne, pO_ne, pU_ne, CN, LN, -Prod.exists, pi_ti, Op.lookupswitch.offset, EvU_at d81_0, EvU_at d81_1, EvU_at d81_2, EvU_at d81_3, EvU_at d81_4, EvU_at d81_7, EvU_at d81_8, EvU_at d81_9, EvU_at d81_12, EvU_at d81_13, EvU_at d81_14, EvU_at d81_15, EvU_at d81_16, EvU_at d81_17, EvU_at d81_18, EvU_at d81_19, Z81, Z82, LyS hL, LyG hL, p, thrw]
    · have q := q_back (A := A) (B := A) (gl := gl) (sl := (sl + 6)) (r := r) hA (hL.app (12, 0)) h hx
      simp only [if_pos c1] at q
      exact q
set_option maxRecDepth 20000 in
theorem o_key (hI : Iv L sh A gr sl n) (hn : n < 600) {x : Int} (hx : sb x) : Good L 71 [(0, .ref 1), (1, .int (oi x)), (2, .ref 216)] 136 [(0, .ref 199), (1, .int (oi x))] false False sh A gl gr sl n := by
  have hI2 := hI
  obtain ⟨hC, hS⟩ := hI.c hn
  obtain ⟨hA, hL, h, hC2, hS2, h0⟩ := hI2
  have ms := h.O.G.ms
  have hm := h.O.m
  have p := fun (r : Out) => p_key (gl := gl) (sl := sl) (r := r) hA hL hC hS h.O hx
  by_cases c1 : 0 ≤ x ∧ x < (A 2 9)
  · have k1 := c1
    by_cases c2 : ¬ (A 74 2 ≠ 0 ∧ A (gO (A 74 1 - 1).toNat) 3 = 60)
    · have k2 := c2
      simp only [if_neg (not_not_intro c1), if_neg (not_not_intro c2)] at p
      have k9 := h.O.sbks hA
      have vs : sb (sendF (keyS A) x) := k9 _ _
      have e41 : keyS A 74 1 = A 74 1 := keyS_ne A (by omega) 1
      have e42 : keyS A 74 2 = A 74 2 := keyS_ne A (by omega) 2
      have hA1 : ∀ c0 d0, sb ((logF (keyS A) x (sendF (keyS A) x)) c0 d0) := sb_logF h.O.ks k9 hx vs
      have h1 : RL (logF (keyS A) x (sendF (keyS A) x)) A := h.cg (fun a b g1 g2 g3 => by rw [logF_big _ (by omega) _ _ g1, keyS_big A g1])
      refine good_ok hI (A' := (logF (keyS A) x (sendF (keyS A) x))) (A'' := (if A 74 2 = 0 then (stR (goA (u2 (logF (keyS A) x (sendF (keyS A) x)) 199 0 0) A) A 0) else u2 (u2 (u2 (stR (goA (u2 (logF (keyS A) x (sendF (keyS A) x)) 199 0 0) A) A 0) 214 (60 * (A 74 1 - 1).toNat + (A (gO (A 74 1 - 1).toNat) 3).toNat) x) 215 (60 * (A 74 1 - 1).toNat + (A (gO (A 74 1 - 1).toNat) 3).toNat) (sendF (keyS A) x)) 212 (A 74 1 - 1).toNat (A (gO (A 74 1 - 1).toNat) 3 + 1))) (gl' := (u2 gl 216 0 (oi (sendF (keyS A) x)).toInt64)) (v := (sendF (keyS A) x)) (fun r => ?_) (fun r => ?_) (fun j => by rw [logF_0, keyS_ne A (by omega)]) (fun e => e.elim) (Or.inl (g216 _ _)) ?_ ?_ ?_ ?_
      · rw [EvU_iff (fun _ => false) 30]
        simp [EvS, stI, enI, caI, s_push, s_iload, s_aload, s_istore, s_astore, s_iinc, s_bin, s_div, s_i2l, s_lcmp, s_dup, s_dup2, s_pop, s_tab, s_look, s_get, s_put, s_iald, s_lald, s_aald, s_iast, s_last, s_aast, s_len, s_newa, s_new, s_thr, s_min, s_copy, s_obj, s_call, s_iret, s_aret, s_vret, go, ldI, lget, lput, lv_args, wsum, va_rf, hnd, cvr, cat_i, cat_r, cat_l, oi_of, oi_add, oi_sub, oA_ap, oA_u2, pi_lt, pi_le, pi_eq, pi_eq0, pi_lt0, pi_le0, pi_gt0, pi_ge0, pi_cl, sb_lit, fv4, isB01, nlt0, EvU_0, wO_ne, wL_ne, wC_ne, wN_ne, pO_ne, pU_ne, CN, LN, -Prod.exists, pi_ti, Op.lookupswitch.offset, EvU_at d71_0, EvU_at d71_1, EvU_at d71_2, EvU_at d71_3, EvU_at d71_4, EvU_at d71_7, EvU_at d71_8, EvU_at d71_9, EvU_at d71_12, EvU_at d71_13, EvU_at d71_14, EvU_at d71_15, EvU_at d71_16, EvU_at d71_17, EvU_at d71_18, EvU_at d71_19, Z71, Z72, LyS hL, LyG hL, p]
      · have q := q_key (A := (logF (keyS A) x (sendF (keyS A) x))) (B := A) (gl := (u2 gl 216 0 (oi (sendF (keyS A) x)).toInt64)) (sl := sl) (r := r) hA1 hL h1 hx
        simp only [if_neg (not_not_intro c1), if_neg (not_not_intro c2)] at q
        exact q
      · have hs := sb_stR (RW.go (h1.t 0)) (sb_goA (h1.t 0) (sb_u2 hA1 (show sb 0 from ⟨by decide, by decide⟩) 199 0))
        split
        · exact hs
        · rename_i co
          have o3 := h.O.G.opn co
          have o4 := h.O.G.sg (A 74 1 - 1).toNat (by omega)
          exact sb_u2 (sb_u2 (sb_u2 hs hx _ _) vs _ _) ⟨by omega, by omega⟩ _ _
      · split
        · rw [stR_ne _ _ _ (by omega) (by omega), goA_9 _ _ (by omega), ue_eq]
        · rw [uk_ne (by omega), uk_ne (by omega), uk_ne (by omega), stR_ne _ _ _ (by omega) (by omega), goA_9 _ _ (by omega), ue_eq]
      · have hr := rl_step (h1.t 0)
        by_cases co : A 74 2 = 0
        · rw [if_pos co]
          have e : logF (keyS A) x (sendF (keyS A) x) = keyS A := by
            unfold logF
            rw [if_pos (by rw [e42]; exact co)]
          rw [e] at hr ⊢
          exact hr
        · rw [if_neg co]
          have o3 := h.O.G.opn co
          have o4 := h.O.G.sg (A 74 1 - 1).toNat (by omega)
          have o5 : ¬ A (gO (A 74 1 - 1).toNat) 3 = 60 := fun e => c2 ⟨co, e⟩
          have eg : keyS A (gO (A 74 1 - 1).toNat) 3 = A (gO (A 74 1 - 1).toNat) 3 := keyS_ne A (by unfold gO; omega) 3
          have e : logF (keyS A) x (sendF (keyS A) x) = u2 (u2 (u2 (keyS A) (gK (A 74 1 - 1).toNat) (A (gO (A 74 1 - 1).toNat) 3).toNat x) (gC (A 74 1 - 1).toNat) (A (gO (A 74 1 - 1).toNat) 3).toNat (sendF (keyS A) x)) (gO (A 74 1 - 1).toNat) 3 (A (gO (A 74 1 - 1).toNat) 3 + 1) := by
            unfold logF
            rw [if_neg (by rw [e42]; exact co), e41, eg]
          have := rl_log hr (i := (A 74 1 - 1).toNat) (n := (A (gO (A 74 1 - 1).toNat) 3).toNat) (x := x) (v := sendF (keyS A) x) (by omega) (by rw [eg]; omega) (by omega) (by rw [keyS_ne A (by omega) 9]; exact c1)
          rw [show (((A (gO (A 74 1 - 1).toNat) 3).toNat : Nat) : Int) = A (gO (A 74 1 - 1).toNat) 3 by omega, ← e] at this
          exact this
      · intro a b ha
        split
        · rw [stR_lo _ _ (by omega), goA_lo _ _ (by omega), uk_ne (by omega)]
        · rw [uk_ne (by omega), uk_ne (by omega), uk_ne (by omega), stR_lo _ _ (by omega), goA_lo _ _ (by omega), uk_ne (by omega)]
    · simp only [if_neg (not_not_intro c1), if_pos c2] at p
      refine good_fail hI (k := 2) (E := 1) (by omega) (fun r => ?_) (fun r => ?_)
      · rw [EvU_iff (fun _ => false) 30]
        simp [EvS, stI, enI, caI, s_push, s_iload, s_aload, s_istore, s_astore, s_iinc, s_bin, s_div, s_i2l, s_lcmp, s_dup, s_dup2, s_pop, s_tab, s_look, s_get, s_put, s_iald, s_lald, s_aald, s_iast, s_last, s_aast, s_len, s_newa, s_new, s_thr, s_min, s_copy, s_obj, s_call, s_iret, s_aret, s_vret, go, ldI, lget, lput, lv_args, wsum, va_rf, hnd, cvr, cat_i, cat_r, cat_l, oi_of, oi_add, oi_sub, oA_ap, oA_u2, pi_lt, pi_le, pi_eq, pi_eq0, pi_lt0, pi_le0, pi_gt0, pi_ge0, pi_cl, sb_lit, fv4, isB01, nlt0, EvU_0, wO_ne, wL_ne, wC_ne, wN_ne, pO_ne, pU_ne, CN, LN, -Prod.exists, pi_ti, Op.lookupswitch.offset, EvU_at d71_0, EvU_at d71_1, EvU_at d71_2, EvU_at d71_3, EvU_at d71_4, EvU_at d71_7, EvU_at d71_8, EvU_at d71_9, EvU_at d71_12, EvU_at d71_13, EvU_at d71_14, EvU_at d71_15, EvU_at d71_16, EvU_at d71_17, EvU_at d71_18, EvU_at d71_19, Z71, Z72, LyS hL, LyG hL, p, thrw]
      · have q := q_key (A := A) (B := A) (gl := gl) (sl := (sl + 6)) (r := r) hA (hL.app (11, 0)) h hx
        simp only [if_neg (not_not_intro c1), if_pos c2] at q
        exact q
  · simp only [if_pos c1] at p
    refine good_fail hI (k := 1) (E := 2) (by omega) (fun r => ?_) (fun r => ?_)
    · rw [EvU_iff (fun _ => false) 30]
      simp [EvS, stI, enI, caI, s_push, s_iload, s_aload, s_istore, s_astore, s_iinc, s_bin, s_div, s_i2l, s_lcmp, s_dup, s_dup2, s_pop, s_tab, s_look, s_get, s_put, s_iald, s_lald, s_aald, s_iast, s_last, s_aast, s_len, s_newa, s_new, s_thr, s_min, s_copy, s_obj, s_call, s_iret, s_aret, s_vret, go, ldI, lget, lput, lv_args, wsum, va_rf, hnd, cvr, cat_i, cat_r, cat_l, oi_of, oi_add, oi_sub, oA_ap, oA_u2, pi_lt, pi_le, pi_eq, pi_eq0, pi_lt0, pi_le0, pi_gt0, pi_ge0, pi_cl, sb_lit, fv4, isB01, nlt0, EvU_0, wO_ne, wL_ne, wC_ne, wN_ne, pO_ne, pU_ne, CN, LN, -Prod.exists, pi_ti, Op.lookupswitch.offset, EvU_at d71_0, EvU_at d71_1, EvU_at d71_2, EvU_at d71_3, EvU_at d71_4, EvU_at d71_7, EvU_at d71_8, EvU_at d71_9, EvU_at d71_12, EvU_at d71_13, EvU_at d71_14, EvU_at d71_15, EvU_at d71_16, EvU_at d71_17, EvU_at d71_18, EvU_at d71_19, Z71, Z72, LyS hL, LyG hL, p, thrw]
    · have q := q_key (A := A) (B := A) (gl := gl) (sl := (sl + 6)) (r := r) hA (hL.app (12, 0)) h hx
      simp only [if_pos c1] at q
      exact q
set_option maxRecDepth 20000 in
theorem o_undo (hI : Iv L sh A gr sl n) (hn : n < 600) : Good L 88 [(0, .ref 1), (1, .ref 216)] 153 [(0, .ref 199)] false False sh A gl gr sl n := by
  have hI2 := hI
  obtain ⟨hC, hS⟩ := hI.c hn
  obtain ⟨hA, hL, h, hC2, hS2, h0⟩ := hI2
  have ms := h.O.G.ms
  have hm := h.O.m
  have p := fun (r : Out) => p_undo (gl := gl) (sl := sl) (r := r) hA hL hC hS h.O
  by_cases c1 : A 74 2 = 0
  · have k1 := c1
    by_cases c2 : A 72 2 ≠ 0
    · have k2 := c2
      simp only [if_neg (not_not_intro c1), if_neg (not_not_intro c2)] at p
      have hU := h.O.U.un
      have hA1 : ∀ c0 d0, sb ((undF A) c0 d0) := sb_undF h.O hA c2
      have h1 : RL (undF A) A := h.cg (fun a b g1 g2 g3 => undF_ne A (by omega) b)
      refine good_ok hI (A' := (undF A)) (A'' := (fillR (u2 (u2 (undF A) 199 0 0) 199 16 (A 72 2 - 1)) 208 0 18 (fun j => (undF A) 211 (18 * ((A 72 2).toNat - 1) + j)))) (gl' := (u2 gl 216 0 (oi (A 72 2 - 1)).toInt64)) (v := (A 72 2 - 1)) (fun r => ?_) (fun r => ?_) (fun j => undF_ne A (by omega) j) (fun e => e.elim) (Or.inl (g216 _ _)) ?_ ?_ ?_ ?_
      · rw [EvU_iff (fun _ => false) 30]
        simp [EvS, stI, enI, caI, s_push, s_iload, s_aload, s_istore, s_astore, s_iinc, s_bin, s_div, s_i2l, s_lcmp, s_dup, s_dup2, s_pop, s_tab, s_look, s_get, s_put, s_iald, s_lald, s_aald, s_iast, s_last, s_aast, s_len, s_newa, s_new, s_thr, s_min, s_copy, s_obj, s_call, s_iret, s_aret, s_vret, go, ldI, lget, lput, lv_args, wsum, va_rf, hnd, cvr, cat_i, cat_r, cat_l, oi_of, oi_add, oi_sub, oA_ap, oA_u2, pi_lt, pi_le, pi_eq, pi_eq0, pi_lt0, pi_le0, pi_gt0, pi_ge0, pi_cl, sb_lit, fv4, isB01, nlt0, EvU_0, wO_ne, wL_ne, wC_ne, wN_ne, pO_ne, pU_ne, CN, LN, -Prod.exists, pi_ti, Op.lookupswitch.offset, EvU_at d88_0, EvU_at d88_1, EvU_at d88_2, EvU_at d88_3, EvU_at d88_6, EvU_at d88_7, EvU_at d88_8, EvU_at d88_11, EvU_at d88_12, EvU_at d88_13, EvU_at d88_14, EvU_at d88_15, Z88, Z89, LyS hL, LyG hL, p]
      · have q := q_undo (A := (undF A)) (B := A) (gl := (u2 gl 216 0 (oi (A 72 2 - 1)).toInt64)) (sl := sl) (r := r) hA1 hL h1
        simp only [if_neg (not_not_intro c1), if_neg (not_not_intro c2)] at q
        exact q
      · exact sb_fillR (sb_u2 (sb_u2 hA1 (show sb 0 from ⟨by decide, by decide⟩) _ _) (show sb _ from ⟨by omega, by omega⟩) _ _) _ _ _ (fun _ _ => hA1 _ _)
      · unfold fillR; rw [if_neg (by omega), uj_ne (by omega), ue_eq]
      · exact rl_undo h1 c2
      · exact fun a b ha => by unfold fillR; rw [if_neg (by omega), uk_ne (by omega), uk_ne (by omega)]
    · simp only [if_neg (not_not_intro c1), if_pos c2] at p
      refine good_fail hI (k := 1) (E := 1) (by omega) (fun r => ?_) (fun r => ?_)
      · rw [EvU_iff (fun _ => false) 30]
        simp [EvS, stI, enI, caI, s_push, s_iload, s_aload, s_istore, s_astore, s_iinc, s_bin, s_div, s_i2l, s_lcmp, s_dup, s_dup2, s_pop, s_tab, s_look, s_get, s_put, s_iald, s_lald, s_aald, s_iast, s_last, s_aast, s_len, s_newa, s_new, s_thr, s_min, s_copy, s_obj, s_call, s_iret, s_aret, s_vret, go, ldI, lget, lput, lv_args, wsum, va_rf, hnd, cvr, cat_i, cat_r, cat_l, oi_of, oi_add, oi_sub, oA_ap, oA_u2, pi_lt, pi_le, pi_eq, pi_eq0, pi_lt0, pi_le0, pi_gt0, pi_ge0, pi_cl, sb_lit, fv4, isB01, nlt0, EvU_0, wO_ne, wL_ne, wC_ne, wN_ne, pO_ne, pU_ne, CN, LN, -Prod.exists, pi_ti, Op.lookupswitch.offset, EvU_at d88_0, EvU_at d88_1, EvU_at d88_2, EvU_at d88_3, EvU_at d88_6, EvU_at d88_7, EvU_at d88_8, EvU_at d88_11, EvU_at d88_12, EvU_at d88_13, EvU_at d88_14, EvU_at d88_15, Z88, Z89, LyS hL, LyG hL, p, thrw]
      · have q := q_undo (A := A) (B := A) (gl := gl) (sl := (sl + 6)) (r := r) hA (hL.app (11, 0)) h
        simp only [if_neg (not_not_intro c1), if_pos c2] at q
        exact q
  · simp only [if_pos c1] at p
    refine good_fail hI (k := 1) (E := 1) (by omega) (fun r => ?_) (fun r => ?_)
    · rw [EvU_iff (fun _ => false) 30]
      simp [EvS, stI, enI, caI, s_push, s_iload, s_aload, s_istore, s_astore, s_iinc, s_bin, s_div, s_i2l, s_lcmp, s_dup, s_dup2, s_pop, s_tab, s_look, s_get, s_put, s_iald, s_lald, s_aald, s_iast, s_last, s_aast, s_len, s_newa, s_new, s_thr, s_min, s_copy, s_obj, s_call, s_iret, s_aret, s_vret, go, ldI, lget, lput, lv_args, wsum, va_rf, hnd, cvr, cat_i, cat_r, cat_l, oi_of, oi_add, oi_sub, oA_ap, oA_u2, pi_lt, pi_le, pi_eq, pi_eq0, pi_lt0, pi_le0, pi_gt0, pi_ge0, pi_cl, sb_lit, fv4, isB01, nlt0, EvU_0, wO_ne, wL_ne, wC_ne, wN_ne, pO_ne, pU_ne, CN, LN, -Prod.exists, pi_ti, Op.lookupswitch.offset, EvU_at d88_0, EvU_at d88_1, EvU_at d88_2, EvU_at d88_3, EvU_at d88_6, EvU_at d88_7, EvU_at d88_8, EvU_at d88_11, EvU_at d88_12, EvU_at d88_13, EvU_at d88_14, EvU_at d88_15, Z88, Z89, LyS hL, LyG hL, p, thrw]
    · have q := q_undo (A := A) (B := A) (gl := gl) (sl := (sl + 6)) (r := r) hA (hL.app (11, 0)) h
      simp only [if_pos c1] at q
      exact q
set_option maxRecDepth 20000 in
theorem o_period (hI : Iv L sh A gr sl n) (hn : n < 600) {x : Int} (hx : sb x) : Good L 92 [(0, .ref 1), (1, .int (oi x)), (2, .ref 216)] 154 [(0, .ref 199), (1, .int (oi x))] false False sh A gl gr sl n := by
  have hI2 := hI
  obtain ⟨hC, hS⟩ := hI.c hn
  obtain ⟨hA, hL, h, hC2, hS2, h0⟩ := hI2
  have ms := h.O.G.ms
  have hm := h.O.m
  have p := fun (r : Out) => p_period (gl := gl) (sl := sl) (r := r) hA hL hC hS h.O hx
  by_cases c1 : 1 ≤ x ∧ x ≤ 5000
  · have k1 := c1
    by_cases c2 : A 74 2 = 0
    · have k2 := c2
      simp only [if_neg (not_not_intro c1), if_neg (not_not_intro c2)] at p
      have sm9 := till_same x.toNat 1 _ (show Same (keepF A) (keepF A) from ⟨fun _ _ _ _ => rfl, fun _ _ => rfl, fun _ _ => rfl⟩)
      have hA1 : ∀ c0 d0, sb ((bringF (tillF x.toNat 1 (keepF A)).2) c0 d0) := sb_rowC (sb_rowC (sb_till _ _ _ h.O.keep (sb_keep hA)) _ _ _) _ _ _
      have h1 : RL (bringF (tillF x.toNat 1 (keepF A)).2) A := h.cg (fun a b g1 g2 g3 => by rw [bringF_big _ g1, sm9.1 a b (by omega) (by omega), keepF_big A g1])
      refine good_ok hI (A' := (bringF (tillF x.toNat 1 (keepF A)).2)) (A'' := (bringR (perR x.toNat (asideR (bringF (tillF x.toNat 1 (keepF A)).2)) (keepF A)) (bringF (tillF x.toNat 1 (keepF A)).2))) (gl' := (u2 gl 216 0 (oi (tillF x.toNat 1 (keepF A)).1).toInt64)) (v := (tillF x.toNat 1 (keepF A)).1) (fun r => ?_) (fun r => ?_) (fun j => by rw [bringF_0, sm9.1 _ _ (by omega) (by omega), keepF_ne A (by omega)]) (fun e => e.elim) (Or.inl (g216 _ _)) ?_ ?_ ?_ ?_
      · rw [EvU_iff (fun _ => false) 30]
        simp [EvS, stI, enI, caI, s_push, s_iload, s_aload, s_istore, s_astore, s_iinc, s_bin, s_div, s_i2l, s_lcmp, s_dup, s_dup2, s_pop, s_tab, s_look, s_get, s_put, s_iald, s_lald, s_aald, s_iast, s_last, s_aast, s_len, s_newa, s_new, s_thr, s_min, s_copy, s_obj, s_call, s_iret, s_aret, s_vret, go, ldI, lget, lput, lv_args, wsum, va_rf, hnd, cvr, cat_i, cat_r, cat_l, oi_of, oi_add, oi_sub, oA_ap, oA_u2, pi_lt, pi_le, pi_eq, pi_eq0, pi_lt0, pi_le0, pi_gt0, pi_ge0, pi_cl, sb_lit, fv4, isB01, nlt0, EvU_0, wO_ne, wL_ne, wC_ne, wN_ne, pO_ne, pU_ne, CN, LN, -Prod.exists, pi_ti, Op.lookupswitch.offset, EvU_at d92_0, EvU_at d92_1, EvU_at d92_2, EvU_at d92_3, EvU_at d92_4, EvU_at d92_7, EvU_at d92_8, EvU_at d92_9, EvU_at d92_12, EvU_at d92_13, EvU_at d92_14, EvU_at d92_15, EvU_at d92_16, EvU_at d92_17, EvU_at d92_18, EvU_at d92_19, Z92, Z93, LyS hL, LyG hL, p]
      · have q := q_period (A := (bringF (tillF x.toNat 1 (keepF A)).2)) (B := A) (gl := (u2 gl 216 0 (oi (tillF x.toNat 1 (keepF A)).1).toInt64)) (sl := sl) (r := r) hA1 hL h1 hx
        simp only [if_neg (not_not_intro c1), if_neg (not_not_intro c2)] at q
        exact q
      · exact sb_bringR (sb_perR _ _ _ (RW.aside h1) (sb_aside hA1)) hA1
      · exact bringR_t (fun a b g1 g2 => perR_ne _ _ _ g1 g2 b)
      · exact rl_period h1 x.toNat
      · exact fun a b ha => bringR_lo (fun a b g1 g2 => perR_ne _ _ _ g1 g2 b) (by omega) b
    · simp only [if_neg (not_not_intro c1), if_pos c2] at p
      refine good_fail hI (k := 2) (E := 1) (by omega) (fun r => ?_) (fun r => ?_)
      · rw [EvU_iff (fun _ => false) 30]
        simp [EvS, stI, enI, caI, s_push, s_iload, s_aload, s_istore, s_astore, s_iinc, s_bin, s_div, s_i2l, s_lcmp, s_dup, s_dup2, s_pop, s_tab, s_look, s_get, s_put, s_iald, s_lald, s_aald, s_iast, s_last, s_aast, s_len, s_newa, s_new, s_thr, s_min, s_copy, s_obj, s_call, s_iret, s_aret, s_vret, go, ldI, lget, lput, lv_args, wsum, va_rf, hnd, cvr, cat_i, cat_r, cat_l, oi_of, oi_add, oi_sub, oA_ap, oA_u2, pi_lt, pi_le, pi_eq, pi_eq0, pi_lt0, pi_le0, pi_gt0, pi_ge0, pi_cl, sb_lit, fv4, isB01, nlt0, EvU_0, wO_ne, wL_ne, wC_ne, wN_ne, pO_ne, pU_ne, CN, LN, -Prod.exists, pi_ti, Op.lookupswitch.offset, EvU_at d92_0, EvU_at d92_1, EvU_at d92_2, EvU_at d92_3, EvU_at d92_4, EvU_at d92_7, EvU_at d92_8, EvU_at d92_9, EvU_at d92_12, EvU_at d92_13, EvU_at d92_14, EvU_at d92_15, EvU_at d92_16, EvU_at d92_17, EvU_at d92_18, EvU_at d92_19, Z92, Z93, LyS hL, LyG hL, p, thrw]
      · have q := q_period (A := A) (B := A) (gl := gl) (sl := (sl + 6)) (r := r) hA (hL.app (11, 0)) h hx
        simp only [if_neg (not_not_intro c1), if_pos c2] at q
        exact q
  · simp only [if_pos c1] at p
    refine good_fail hI (k := 1) (E := 0) (by omega) (fun r => ?_) (fun r => ?_)
    · rw [EvU_iff (fun _ => false) 30]
      simp [EvS, stI, enI, caI, s_push, s_iload, s_aload, s_istore, s_astore, s_iinc, s_bin, s_div, s_i2l, s_lcmp, s_dup, s_dup2, s_pop, s_tab, s_look, s_get, s_put, s_iald, s_lald, s_aald, s_iast, s_last, s_aast, s_len, s_newa, s_new, s_thr, s_min, s_copy, s_obj, s_call, s_iret, s_aret, s_vret, go, ldI, lget, lput, lv_args, wsum, va_rf, hnd, cvr, cat_i, cat_r, cat_l, oi_of, oi_add, oi_sub, oA_ap, oA_u2, pi_lt, pi_le, pi_eq, pi_eq0, pi_lt0, pi_le0, pi_gt0, pi_ge0, pi_cl, sb_lit, fv4, isB01, nlt0, EvU_0, wO_ne, wL_ne, wC_ne, wN_ne, pO_ne, pU_ne, CN, LN, -Prod.exists, pi_ti, Op.lookupswitch.offset, EvU_at d92_0, EvU_at d92_1, EvU_at d92_2, EvU_at d92_3, EvU_at d92_4, EvU_at d92_7, EvU_at d92_8, EvU_at d92_9, EvU_at d92_12, EvU_at d92_13, EvU_at d92_14, EvU_at d92_15, EvU_at d92_16, EvU_at d92_17, EvU_at d92_18, EvU_at d92_19, Z92, Z93, LyS hL, LyG hL, p, thrw]
    · have q := q_period (A := A) (B := A) (gl := gl) (sl := (sl + 6)) (r := r) hA (hL.app (10, 0)) h hx
      simp only [if_pos c1] at q
      exact q
set_option maxRecDepth 20000 in
theorem o_replay (hI : Iv L sh A gr sl n) (hn : n < 600) {x : Int} (hx : sb x) : Good L 105 [(0, .ref 1), (1, .int (oi x)), (2, .ref 216)] 163 [(0, .ref 199), (1, .int (oi x))] false False sh A gl gr sl n := by
  have hI2 := hI
  obtain ⟨hC, hS⟩ := hI.c hn
  obtain ⟨hA, hL, h, hC2, hS2, h0⟩ := hI2
  have ms := h.O.G.ms
  have hm := h.O.m
  have p := fun (r : Out) => p_replay (gl := gl) (sl := sl) (r := r) hA hL hC hS h.O hx
  by_cases c1 : 0 ≤ x ∧ x < (A 74 1)
  · have k1 := c1
    by_cases c2 : ¬ (A 74 2 ≠ 0 ∧ x = A 74 1 - 1)
    · have k2 := c2
      simp only [if_neg (not_not_intro c1), if_neg (not_not_intro c2)] at p
      have hi9 : ((x.toNat : Nat) : Int) < A 74 1 := by omega
      have hk9 : ((x.toNat : Nat) : Int) < keepF A 74 1 := by rw [keepF_ne A (by omega)]; exact hi9
      have sm9 := oth_same x.toNat (A (gO x.toNat) 3).toNat 0 (asF (keepF A) x.toNat) (B := keepF A) ⟨fun a b h1 h2 => asF_ne _ _ h1 h2 b, fun s hs => by rw [asF_c, if_neg (by omega), if_neg (by omega)], fun k hk => by rw [asF_c, if_neg (by omega), if_neg (by omega)]⟩
      have hA1 : ∀ c0 d0, sb ((bringF (repF A x.toNat).2) c0 d0) := sb_rowC (sb_rowC (sb_oth _ _ _ _ (h.O.keep.as hk9) (h.O.keep.sbas (sb_keep hA))) _ _ _) _ _ _
      have h1 : RL (bringF (repF A x.toNat).2) A := h.cg (fun a b g1 g2 g3 => by rw [bringF_big _ g1]; unfold repF; rw [sm9.1 a b (by omega) (by omega), keepF_big A g1])
      refine good_ok hI (A' := (bringF (repF A x.toNat).2)) (A'' := (bringR (othR x.toNat (A (gO x.toNat) 3).toNat 0 (asR (bringF (repF A x.toNat).2) A x.toNat) (asF (keepF A) x.toNat)) (bringF (repF A x.toNat).2))) (gl' := (u2 gl 216 0 (oi (repF A x.toNat).1).toInt64)) (v := (repF A x.toNat).1) (fun r => ?_) (fun r => ?_) (fun j => by rw [bringF_0]; unfold repF; rw [sm9.1 _ _ (by omega) (by omega), keepF_ne A (by omega)]) (fun e => e.elim) (Or.inl (g216 _ _)) ?_ ?_ ?_ ?_
      · rw [EvU_iff (fun _ => false) 30]
        simp [EvS, stI, enI, caI, s_push, s_iload, s_aload, s_istore, s_astore, s_iinc, s_bin, s_div, s_i2l, s_lcmp, s_dup, s_dup2, s_pop, s_tab, s_look, s_get, s_put, s_iald, s_lald, s_aald, s_iast, s_last, s_aast, s_len, s_newa, s_new, s_thr, s_min, s_copy, s_obj, s_call, s_iret, s_aret, s_vret, go, ldI, lget, lput, lv_args, wsum, va_rf, hnd, cvr, cat_i, cat_r, cat_l, oi_of, oi_add, oi_sub, oA_ap, oA_u2, pi_lt, pi_le, pi_eq, pi_eq0, pi_lt0, pi_le0, pi_gt0, pi_ge0, pi_cl, sb_lit, fv4, isB01, nlt0, EvU_0, wO_ne, wL_ne, wC_ne, wN_ne, pO_ne, pU_ne, CN, LN, -Prod.exists, pi_ti, Op.lookupswitch.offset, EvU_at d105_0, EvU_at d105_1, EvU_at d105_2, EvU_at d105_3, EvU_at d105_4, EvU_at d105_7, EvU_at d105_8, EvU_at d105_9, EvU_at d105_12, EvU_at d105_13, EvU_at d105_14, EvU_at d105_15, EvU_at d105_16, EvU_at d105_17, EvU_at d105_18, EvU_at d105_19, Z105, Z106, LyS hL, LyG hL, p]
      · have q := q_replay (A := (bringF (repF A x.toNat).2)) (B := A) (gl := (u2 gl 216 0 (oi (repF A x.toNat).1).toInt64)) (sl := sl) (r := r) hA1 hL h1 hx
        simp only [if_neg (not_not_intro c1), if_neg (not_not_intro c2)] at q
        exact q
      · exact sb_bringR (sb_othR _ _ _ _ _ (RW.as h1 hi9) (sb_asR h1 hA1 hi9)) hA1
      · exact bringR_t (fun a b g1 g2 => by rw [othR_ne _ _ _ _ _ g1 g2, asR_ne _ _ _ g1])
      · exact rl_replay h1 x.toNat
      · exact fun a b ha => bringR_lo (fun a b g1 g2 => by rw [othR_ne _ _ _ _ _ g1 g2, asR_ne _ _ _ g1]) (by omega) b
    · simp only [if_neg (not_not_intro c1), if_pos c2] at p
      refine good_fail hI (k := 2) (E := 1) (by omega) (fun r => ?_) (fun r => ?_)
      · rw [EvU_iff (fun _ => false) 30]
        simp [EvS, stI, enI, caI, s_push, s_iload, s_aload, s_istore, s_astore, s_iinc, s_bin, s_div, s_i2l, s_lcmp, s_dup, s_dup2, s_pop, s_tab, s_look, s_get, s_put, s_iald, s_lald, s_aald, s_iast, s_last, s_aast, s_len, s_newa, s_new, s_thr, s_min, s_copy, s_obj, s_call, s_iret, s_aret, s_vret, go, ldI, lget, lput, lv_args, wsum, va_rf, hnd, cvr, cat_i, cat_r, cat_l, oi_of, oi_add, oi_sub, oA_ap, oA_u2, pi_lt, pi_le, pi_eq, pi_eq0, pi_lt0, pi_le0, pi_gt0, pi_ge0, pi_cl, sb_lit, fv4, isB01, nlt0, EvU_0, wO_ne, wL_ne, wC_ne, wN_ne, pO_ne, pU_ne, CN, LN, -Prod.exists, pi_ti, Op.lookupswitch.offset, EvU_at d105_0, EvU_at d105_1, EvU_at d105_2, EvU_at d105_3, EvU_at d105_4, EvU_at d105_7, EvU_at d105_8, EvU_at d105_9, EvU_at d105_12, EvU_at d105_13, EvU_at d105_14, EvU_at d105_15, EvU_at d105_16, EvU_at d105_17, EvU_at d105_18, EvU_at d105_19, Z105, Z106, LyS hL, LyG hL, p, thrw]
      · have q := q_replay (A := A) (B := A) (gl := gl) (sl := (sl + 6)) (r := r) hA (hL.app (11, 0)) h hx
        simp only [if_neg (not_not_intro c1), if_pos c2] at q
        exact q
  · simp only [if_pos c1] at p
    refine good_fail hI (k := 1) (E := 2) (by omega) (fun r => ?_) (fun r => ?_)
    · rw [EvU_iff (fun _ => false) 30]
      simp [EvS, stI, enI, caI, s_push, s_iload, s_aload, s_istore, s_astore, s_iinc, s_bin, s_div, s_i2l, s_lcmp, s_dup, s_dup2, s_pop, s_tab, s_look, s_get, s_put, s_iald, s_lald, s_aald, s_iast, s_last, s_aast, s_len, s_newa, s_new, s_thr, s_min, s_copy, s_obj, s_call, s_iret, s_aret, s_vret, go, ldI, lget, lput, lv_args, wsum, va_rf, hnd, cvr, cat_i, cat_r, cat_l, oi_of, oi_add, oi_sub, oA_ap, oA_u2, pi_lt, pi_le, pi_eq, pi_eq0, pi_lt0, pi_le0, pi_gt0, pi_ge0, pi_cl, sb_lit, fv4, isB01, nlt0, EvU_0, wO_ne, wL_ne, wC_ne, wN_ne, pO_ne, pU_ne, CN, LN, -Prod.exists, pi_ti, Op.lookupswitch.offset, EvU_at d105_0, EvU_at d105_1, EvU_at d105_2, EvU_at d105_3, EvU_at d105_4, EvU_at d105_7, EvU_at d105_8, EvU_at d105_9, EvU_at d105_12, EvU_at d105_13, EvU_at d105_14, EvU_at d105_15, EvU_at d105_16, EvU_at d105_17, EvU_at d105_18, EvU_at d105_19, Z105, Z106, LyS hL, LyG hL, p, thrw]
    · have q := q_replay (A := A) (B := A) (gl := gl) (sl := (sl + 6)) (r := r) hA (hL.app (12, 0)) h hx
      simp only [if_pos c1] at q
      exact q
end
