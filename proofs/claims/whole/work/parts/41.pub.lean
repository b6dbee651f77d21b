/-! steps keep what holds; key, back, undo -/
section
variable {A B : Nat → Nat → Int}
theorem CP.move (h : CM A) (hp : CP A) {v : Int} (hv : v = 1 ∨ v = -1) (c : Nat) : CP (moveF v c A) := by
  have hm := h.m3
  have e2 : moveF v c A 2 9 = A 2 9 := moveF_ne v c A (by omega) (by omega) 9
  have ep : ∀ k, moveF v c A (pO k) 1 = A (pO k) 1 := fun k => moveF_ne v c A (by unfold pO; omega) (by unfold pO; omega) 1
  refine ⟨fun s hs => ?_, fun k hk => ?_⟩
  · have h1 := hp.pos s hs
    rw [e2, moveF_c, if_neg (by omega)]
    split
    · exact rd_in (by omega) (by omega)
    · exact h1
  · have h1 := hp.pl k hk
    have h2 := h.len k hk
    rw [ep, moveF_c]
    by_cases c1 : 0 < A (pO k) 1
    · rw [if_pos ⟨rfl, hk, c1⟩]
      have h3 := h1.2.1 c1
      have h4 := rd_in (a := A 15 k + v) (m := A (pO k) 1) (by omega) (by omega)
      exact ⟨h4.1, fun _ => h4.2, fun e => by omega⟩
    · rw [if_neg (by omega), if_neg (by omega)]
      exact h1
theorem CO.move (h : CO A) {v : Int} (hv : v = 1 ∨ v = -1) (c : Nat) : CO (moveF v c A) :=
  ⟨h.M.cg (fun a b _ h1 h2 => moveF_ne v c A h1 h2 b), CP.move h.M h.P hv c, h.U.cg (fun b => moveF_ne v c A (by omega) (by omega) b) (fun b => moveF_ne v c A (by omega) (by omega) b), h.G.cg (moveF_ne v c A (by omega) (by omega) 9) (fun a b _ _ => moveF_ne v c A (by omega) (by omega) b)⟩
theorem CO.sbm (h : CO A) (hA : ∀ k j, sb (A k j)) {v : Int} (hv : v = 1 ∨ v = -1) (c : Nat) : ∀ k j, sb (moveF v c A k j) := by
  intro k j
  rw [moveF_c]
  split
  · rename_i c1
    have h1 := h.P.pl j c1.2.1
    have h2 := h.M.len j c1.2.1
    have h3 := h1.2.1 c1.2.2
    have h4 := rd_in (a := A 15 j + v) (m := A (pO j) 1) (by omega) (by omega)
    exact ⟨by omega, by omega⟩
  · split
    · rename_i c1
      have hm := h.M.m3
      have h1 := h.P.pos j c1.2.1
      have h4 := rd_in (a := A 14 j + v) (m := A 2 9) (by omega) (by omega)
      exact ⟨by omega, by omega⟩
    · exact hA k j
/-- a step is written down -/
def addF (c : Int) (A : Nat → Nat → Int) : Nat → Nat → Int := u2 (u2 (u2 A 73 (A 72 1).toNat c) 72 1 (rd (A 72 1 + 1) 40)) 72 2 (if A 72 2 = 40 then 40 else A 72 2 + 1)
theorem addF_ne (c : Int) (A : Nat → Nat → Int) {a : Nat} (h1 : a ≠ 72) (h2 : a ≠ 73) (b : Nat) : addF c A a b = A a b := by
  unfold addF
  rw [uk_ne h1, uk_ne h1, uk_ne h2]
theorem CO.add (h : CO A) {c : Int} (hc : 0 ≤ c ∧ c < 64) : CO (addF c A) := by
  refine ⟨h.M.cg (fun a b h0 _ _ => addF_ne c A (by omega) (by omega) b), h.P.cg (addF_ne c A (by omega) (by omega) _) (fun k _ => addF_ne c A (by unfold pO; omega) (by unfold pO; omega) _) (fun b _ => addF_ne c A (by omega) (by omega) b) (fun b _ => addF_ne c A (by omega) (by omega) b), ?_, h.G.cg (addF_ne c A (by omega) (by omega) 9) (fun a b _ _ => addF_ne c A (by omega) (by omega) b)⟩
  have h1 := h.U.nx
  have h2 := h.U.un
  refine ⟨?_, ?_, fun j hj => ?_⟩
  · have e : addF c A 72 1 = rd (A 72 1 + 1) 40 := by
      unfold addF
      rw [uj_ne (by omega), ue_eq]
    rw [e]
    exact rd_in (by omega) (by omega)
  · have e : addF c A 72 2 = if A 72 2 = 40 then 40 else A 72 2 + 1 := by
      unfold addF
      rw [ue_eq]
    rw [e]
    split <;> omega
  · unfold addF
    rw [uk_ne (by omega), uk_ne (by omega)]
    by_cases e : j = (A 72 1).toNat
    · subst e
      rw [ue_eq]
      exact hc
    · rw [uj_ne e]
      exact h.U.mv j hj
theorem sb_addF (h : CU A) (hA : ∀ k j, sb (A k j)) {c : Int} (hc : sb c) : ∀ k j, sb (addF c A k j) := by
  have h1 := h.nx
  have h2 := h.un
  have h4 := rd_in (a := A 72 1 + 1) (m := 40) (by omega) (by omega)
  refine sb_u2 (sb_u2 (sb_u2 hA hc _ _) ⟨by omega, by omega⟩ _ _) ?_ _ _
  split
  · exact ⟨by omega, by omega⟩
  · exact ⟨by omega, by omega⟩
def stF (A : Nat → Nat → Int) : Nat → Nat → Int := moveF 1 (bitsF A) A
def keyS (A : Nat → Nat → Int) : Nat → Nat → Int := addF (bitsF A : Nat) (stF A)
theorem CO.bits (h : CO A) : bitsF A < 64 := by
  have h1 := h.wy
  exact movedF_lt h1 _ _ _ (by have := h1.2.2.1; omega) (by omega)
theorem CO.st (h : CO A) : CO (stF A) := h.move (Or.inl rfl) _
theorem CO.sbst (h : CO A) (hA : ∀ k j, sb (A k j)) : ∀ k j, sb (stF A k j) := h.sbm hA (Or.inl rfl) _
theorem CO.ks (h : CO A) : CO (keyS A) := h.st.add ⟨by omega, by have := h.bits; omega⟩
theorem CO.sbks (h : CO A) (hA : ∀ k j, sb (A k j)) : ∀ k j, sb (keyS A k j) := sb_addF h.st.U (h.sbst hA) ⟨by omega, by have := h.bits; omega⟩
theorem keyS_ne (A : Nat → Nat → Int) {a : Nat} (h : a ≠ 14 ∧ a ≠ 15 ∧ a ≠ 72 ∧ a ≠ 73) (b : Nat) : keyS A a b = A a b := by
  unfold keyS stF
  rw [addF_ne _ _ h.2.2.1 h.2.2.2, moveF_ne _ _ _ h.1 h.2.1]
theorem CO.cg0 (h : CO A) (e : ∀ a b, a < 196 → B a b = A a b) : CO B :=
  ⟨h.M.cg (fun a b h0 _ _ => e a b (by omega)), h.P.cg (e _ _ (by omega)) (fun k _ => e _ _ (by unfold pO; omega)) (fun b _ => e _ _ (by omega)) (fun b _ => e _ _ (by omega)), h.U.cg (fun b => e _ _ (by omega)) (fun b => e _ _ (by omega)), h.G.cg (e _ _ (by omega)) (fun a b _ h2 => e _ _ h2)⟩
end
section
variable {sh : List (Nat × Nat)} {A : Nat → Nat → Int} {gl : Nat → Nat → Int64} {gr : Nat → Nat → Option Nat} {sl : Nat} {r : Out}
theorem c_step (hA : ∀ k j, sb (A k j)) (hL : Lay sh gr) (hO : CO A) : Ev (74, 0, [(0, .ref 2)], [], (sh, oA A, gl, gr), sl) r ↔ r = (.inl (some (.int (oi ((bitsF A : Nat) : Int)))), (sh, oA (stF A), gl, gr), sl) := m_step hA hL hO.wy hO.M.notch hO.pk hO.M.rule
theorem c_send (hA : ∀ k j, sb (A k j)) (hL : Lay sh gr) (hO : CO A) {c : Int} (c0 : 0 ≤ c) (hc : c < A 2 9) : Ev (17, 0, [(0, .ref 2), (1, .int (oi c))], [], (sh, oA A, gl, gr), sl) r ↔ r = (.inl (some (.int (oi (sendF A c)))), (sh, oA A, gl, gr), sl) := m_send hA hL hO.wy hO.ro hO.pk.pin hO.M.lug hO.M.way c0 hc
theorem c_add (hA : ∀ k j, sb (A k j)) (hL : Lay sh gr) (hO : CO A) : Ev (79, 0, [(0, .ref 72), (1, .int (oi ((bitsF A : Nat) : Int)))], [], (sh, oA (stF A), gl, gr), sl) r ↔ r = (.inl none, (sh, oA (keyS A), gl, gr), sl) := m_stepsAdd (hO.sbst hA) hL hO.st.U.nx hO.st.U.un
/-- the open message takes a sign -/
def logF (A : Nat → Nat → Int) (x v : Int) : Nat → Nat → Int := if A 74 2 = 0 then A else u2 (u2 (u2 A (gK (A 74 1 - 1).toNat) (A (gO (A 74 1 - 1).toNat) 3).toNat x) (gC (A 74 1 - 1).toNat) (A (gO (A 74 1 - 1).toNat) 3).toNat v) (gO (A 74 1 - 1).toNat) 3 (A (gO (A 74 1 - 1).toNat) 3 + 1)
theorem c_log (hA : ∀ k j, sb (A k j)) (hL : Lay sh gr) (hO : CO A) {x v : Int} (hf : ¬ (A 74 2 ≠ 0 ∧ A (gO (A 74 1 - 1).toNat) 3 = 60)) : Ev (80, 0, [(0, .ref 74), (1, .int (oi x)), (2, .int (oi v))], [], (sh, oA A, gl, gr), sl) r ↔ r = (.inl none, (sh, oA (logF A x v), gl, gr), sl) := by
  unfold logF
  by_cases c : A 74 2 = 0
  · rw [if_pos c]
    exact m_logAdd0 hA hL c
  · rw [if_neg c]
    have h1 := hO.G.opn c
    have h2 := hO.G.ms
    have h3 := hO.G.sg (A 74 1 - 1).toNat (by omega)
    exact m_logAdd1 hA hL c (by omega) (by omega) ⟨h3.1, by have : ¬ A (gO (A 74 1 - 1).toNat) 3 = 60 := fun e => hf ⟨c, e⟩; omega⟩
set_option maxRecDepth 20000 in
theorem p_key (hA : ∀ k j, sb (A k j)) (hL : Lay sh gr) (hC : sh.length ≤ mxC) (hS : sl + 6 ≤ mxS) (hO : CO A) {x : Int} (hx : sb x) : Ev (72, 0, [(0, .ref 1), (1, .int (oi x))], [], (sh, oA A, gl, gr), sl) r ↔
    r = if ¬ (0 ≤ x ∧ x < (A 2 9)) then thrw 2 (sh, oA A, gl, gr) sl else if ¬ (¬ (A 74 2 ≠ 0 ∧ A (gO (A 74 1 - 1).toNat) 3 = 60)) then thrw 1 (sh, oA A, gl, gr) sl else (.inl (some (.int (oi (sendF (keyS A) x)))), (sh, oA (logF (keyS A) x (sendF (keyS A) x)), gl, gr), sl) := by
  rw [EvU_iff (fun _ => false) 60]
  have fu := fun (sl : Nat) (r : Out) => m_isFull (gl := gl) (sl := sl) (r := r) hA hL (fun c => ⟨hO.G.opn c, hO.G.ms.2⟩)
  by_cases c1 : 0 ≤ x ∧ x < (A 2 9)
  · have n1 := m_need_ok (n := (A 2 9)) (show sm x from hx) (show sm (A 2 9) from hA 2 9) c1.1 c1.2
    by_cases c2 : ¬ (A 74 2 ≠ 0 ∧ A (gO (A 74 1 - 1).toNat) 3 = 60)
    · have s1 := fun (sl : Nat) (r : Out) => c_step (gl := gl) (sl := sl) (r := r) hA hL hO
      have s2 := fun (sl : Nat) (r : Out) => c_add (gl := gl) (sl := sl) (r := r) hA hL hO
      have e2 : ∀ b, keyS A 2 b = A 2 b := fun b => keyS_ne A (by omega) b
      have e4 : ∀ b, keyS A 74 b = A 74 b := fun b => keyS_ne A (by omega) b
      have eg : ∀ i b, keyS A (gO i) b = A (gO i) b := fun i b => keyS_ne A (by unfold gO; omega) b
      have s3 := fun (sl : Nat) (r : Out) => c_send (gl := gl) (sl := sl) (r := r) (hO.sbks hA) hL hO.ks c1.1 (by rw [e2]; exact c1.2)
      have s4 := fun (sl : Nat) (r : Out) => c_log (gl := gl) (sl := sl) (r := r) (hO.sbks hA) hL hO.ks (x := x) (v := sendF (keyS A) x) (by rw [e4, e4, eg]; exact c2)
      rw [if_neg c2] at fu
      rw [if_neg (fun h => h c1), if_neg (fun h => h c2)]
      simp [EvS, stI, enI, caI, s_push, s_iload, s_aload, s_istore, s_astore, s_iinc, s_bin, s_div, s_i2l, s_lcmp, s_dup, s_dup2, s_pop, s_tab, s_look, s_get, s_put, s_iald, s_lald, s_aald, s_iast, s_last, s_aast, s_len, s_newa, s_new, s_thr, s_min, s_copy, s_obj, s_call, s_iret, s_aret, s_vret, go, ldI, lget, lput, lv_args, wsum, va_rf, hnd, cvr, cat_i, cat_r, cat_l, oi_of, oi_add, oi_sub, oA_ap, oA_u2, pi_lt, pi_le, pi_eq, pi_eq0, pi_lt0, pi_le0, pi_gt0, pi_ge0, pi_cl, sb_lit, fv4, isB01, nlt0, EvU_0, wO_ne, wL_ne, wC_ne, wN_ne, pO_ne, pU_ne, CN, LN, -Prod.exists, pi_ti, Op.lookupswitch.offset, EvU_at d72_0, EvU_at d72_1, EvU_at d72_2, EvU_at d72_5, EvU_at d72_8, EvU_at d72_11, EvU_at d72_12, EvU_at d72_15, EvU_at d72_18, EvU_at d72_21, EvU_at d72_24, EvU_at d72_25, EvU_at d72_27, EvU_at d72_30, EvU_at d72_31, EvU_at d72_32, EvU_at d72_35, EvU_at d72_36, EvU_at d72_39, EvU_at d72_42, EvU_at d72_45, EvU_at d72_46, EvU_at d72_49, EvU_at d72_50, EvU_at d72_53, EvU_at d72_54, EvU_at d72_55, EvU_at d72_58, EvU_at d72_59, EvU_at d72_60, EvU_at d72_63, EvU_at d72_64, Z72, Z34, Z73, Z74, Z79, Z17, Z80, LyS hL, LyG hL, hA, n1, fu, s1, s2, s3, s4]
    · rw [if_pos (Classical.not_not.mp c2)] at fu
      rw [if_neg (fun h => h c1), if_pos c2]
      simp [EvS, stI, enI, caI, s_push, s_iload, s_aload, s_istore, s_astore, s_iinc, s_bin, s_div, s_i2l, s_lcmp, s_dup, s_dup2, s_pop, s_tab, s_look, s_get, s_put, s_iald, s_lald, s_aald, s_iast, s_last, s_aast, s_len, s_newa, s_new, s_thr, s_min, s_copy, s_obj, s_call, s_iret, s_aret, s_vret, go, ldI, lget, lput, lv_args, wsum, va_rf, hnd, cvr, cat_i, cat_r, cat_l, oi_of, oi_add, oi_sub, oA_ap, oA_u2, pi_lt, pi_le, pi_eq, pi_eq0, pi_lt0, pi_le0, pi_gt0, pi_ge0, pi_cl, sb_lit, fv4, isB01, nlt0, EvU_0, wO_ne, wL_ne, wC_ne, wN_ne, pO_ne, pU_ne, CN, LN, -Prod.exists, pi_ti, Op.lookupswitch.offset, EvU_at d72_0, EvU_at d72_1, EvU_at d72_2, EvU_at d72_5, EvU_at d72_8, EvU_at d72_11, EvU_at d72_12, EvU_at d72_15, EvU_at d72_18, EvU_at d72_21, EvU_at d72_24, EvU_at d72_25, EvU_at d72_27, EvU_at d72_30, EvU_at d72_31, EvU_at d72_32, EvU_at d72_35, EvU_at d72_36, EvU_at d72_39, EvU_at d72_42, EvU_at d72_45, EvU_at d72_46, EvU_at d72_49, EvU_at d72_50, EvU_at d72_53, EvU_at d72_54, EvU_at d72_55, EvU_at d72_58, EvU_at d72_59, EvU_at d72_60, EvU_at d72_63, EvU_at d72_64, Z72, Z34, Z73, LyS hL, LyG hL, hA, n1, fu, thrw, Nat.not_lt.mpr hC, Nat.not_lt.mpr hS]
  · have n1 := fun (r : Out) => m_need_no (n := (A 2 9)) (show sm x from hx) (show sm (A 2 9) from hA 2 9) c1 (sh, oA A, gl, gr) sl r hC hS
    rw [if_pos c1]
    simp [EvS, stI, enI, caI, s_push, s_iload, s_aload, s_istore, s_astore, s_iinc, s_bin, s_div, s_i2l, s_lcmp, s_dup, s_dup2, s_pop, s_tab, s_look, s_get, s_put, s_iald, s_lald, s_aald, s_iast, s_last, s_aast, s_len, s_newa, s_new, s_thr, s_min, s_copy, s_obj, s_call, s_iret, s_aret, s_vret, go, ldI, lget, lput, lv_args, wsum, va_rf, hnd, cvr, cat_i, cat_r, cat_l, oi_of, oi_add, oi_sub, oA_ap, oA_u2, pi_lt, pi_le, pi_eq, pi_eq0, pi_lt0, pi_le0, pi_gt0, pi_ge0, pi_cl, sb_lit, fv4, isB01, nlt0, EvU_0, wO_ne, wL_ne, wC_ne, wN_ne, pO_ne, pU_ne, CN, LN, -Prod.exists, pi_ti, Op.lookupswitch.offset, EvU_at d72_0, EvU_at d72_1, EvU_at d72_2, EvU_at d72_5, EvU_at d72_8, EvU_at d72_11, EvU_at d72_12, EvU_at d72_15, EvU_at d72_18, EvU_at d72_21, EvU_at d72_24, EvU_at d72_25, EvU_at d72_27, EvU_at d72_30, EvU_at d72_31, EvU_at d72_32, EvU_at d72_35, EvU_at d72_36, EvU_at d72_39, EvU_at d72_42, EvU_at d72_45, EvU_at d72_46, EvU_at d72_49, EvU_at d72_50, EvU_at d72_53, EvU_at d72_54, EvU_at d72_55, EvU_at d72_58, EvU_at d72_59, EvU_at d72_60, EvU_at d72_63, EvU_at d72_64, Z72, Z34, LyS hL, LyG hL, hA, n1, thrw]
set_option maxRecDepth 20000 in
theorem p_back (hA : ∀ k j, sb (A k j)) (hL : Lay sh gr) (hC : sh.length ≤ mxC) (hS : sl + 6 ≤ mxS) (hO : CO A) {x : Int} (hx : sb x) : Ev (82, 0, [(0, .ref 1), (1, .int (oi x))], [], (sh, oA A, gl, gr), sl) r ↔
    r = if ¬ (0 ≤ x ∧ x < (A 2 9)) then thrw 2 (sh, oA A, gl, gr) sl else if ¬ (A 74 2 = 0) then thrw 1 (sh, oA A, gl, gr) sl else (.inl (some (.int (oi (backF (keyS A) x)))), (sh, oA (keyS A), gl, gr), sl) := by
  rw [EvU_iff (fun _ => false) 60]
  by_cases c1 : 0 ≤ x ∧ x < (A 2 9)
  · have n1 := m_need_ok (n := (A 2 9)) (show sm x from hx) (show sm (A 2 9) from hA 2 9) c1.1 c1.2
    by_cases c2 : A 74 2 = 0
    · have n2 := fun (sl : Nat) (r : Out) => m_none_ok (gl := gl) (sl := sl) (r := r) hA hL c2
      have s1 := fun (sl : Nat) (r : Out) => c_step (gl := gl) (sl := sl) (r := r) hA hL hO
      have s2 := fun (sl : Nat) (r : Out) => c_add (gl := gl) (sl := sl) (r := r) hA hL hO
      have e2 : ∀ b, keyS A 2 b = A 2 b := fun b => keyS_ne A (by omega) b
      have s3 := fun (sl : Nat) (r : Out) => m_back (gl := gl) (sl := sl) (r := r) (hO.sbks hA) hL hO.ks.wy hO.ks.ro hO.ks.pk.pin hO.ks.M.lug hO.ks.M.way c1.1 (by rw [e2]; exact c1.2)
      simp [EvS, stI, enI, caI, s_push, s_iload, s_aload, s_istore, s_astore, s_iinc, s_bin, s_div, s_i2l, s_lcmp, s_dup, s_dup2, s_pop, s_tab, s_look, s_get, s_put, s_iald, s_lald, s_aald, s_iast, s_last, s_aast, s_len, s_newa, s_new, s_thr, s_min, s_copy, s_obj, s_call, s_iret, s_aret, s_vret, go, ldI, lget, lput, lv_args, wsum, va_rf, hnd, cvr, cat_i, cat_r, cat_l, oi_of, oi_add, oi_sub, oA_ap, oA_u2, pi_lt, pi_le, pi_eq, pi_eq0, pi_lt0, pi_le0, pi_gt0, pi_ge0, pi_cl, sb_lit, fv4, isB01, nlt0, EvU_0, wO_ne, wL_ne, wC_ne, wN_ne, pO_ne, pU_ne, CN, LN, -Prod.exists, pi_ti, Op.lookupswitch.offset, EvU_at d82_0, EvU_at d82_1, EvU_at d82_2, EvU_at d82_5, EvU_at d82_8, EvU_at d82_11, EvU_at d82_12, EvU_at d82_15, EvU_at d82_16, EvU_at d82_19, EvU_at d82_20, EvU_at d82_23, EvU_at d82_26, EvU_at d82_29, EvU_at d82_30, EvU_at d82_33, EvU_at d82_34, EvU_at d82_37, Z82, Z34, Z29, Z74, Z79, Z83, LyS hL, LyG hL, hA, n1, n2, c1, c2, s1, s2, s3]
    · have n2 := fun (r : Out) => m_none_no (gl := gl) (r := r) hA hL c2 hC hS
      simp [EvS, stI, enI, caI, s_push, s_iload, s_aload, s_istore, s_astore, s_iinc, s_bin, s_div, s_i2l, s_lcmp, s_dup, s_dup2, s_pop, s_tab, s_look, s_get, s_put, s_iald, s_lald, s_aald, s_iast, s_last, s_aast, s_len, s_newa, s_new, s_thr, s_min, s_copy, s_obj, s_call, s_iret, s_aret, s_vret, go, ldI, lget, lput, lv_args, wsum, va_rf, hnd, cvr, cat_i, cat_r, cat_l, oi_of, oi_add, oi_sub, oA_ap, oA_u2, pi_lt, pi_le, pi_eq, pi_eq0, pi_lt0, pi_le0, pi_gt0, pi_ge0, pi_cl, sb_lit, fv4, isB01, nlt0, EvU_0, wO_ne, wL_ne, wC_ne, wN_ne, pO_ne, pU_ne, CN, LN, -Prod.exists, pi_ti, Op.lookupswitch.offset, EvU_at d82_0, EvU_at d82_1, EvU_at d82_2, EvU_at d82_5, EvU_at d82_8, EvU_at d82_11, EvU_at d82_12, EvU_at d82_15, EvU_at d82_16, EvU_at d82_19, EvU_at d82_20, EvU_at d82_23, EvU_at d82_26, EvU_at d82_29, EvU_at d82_30, EvU_at d82_33, EvU_at d82_34, EvU_at d82_37, Z82, Z34, Z29, LyS hL, LyG hL, hA, n1, n2, c1, c2, thrw]
  · have n1 := fun (r : Out) => m_need_no (n := (A 2 9)) (show sm x from hx) (show sm (A 2 9) from hA 2 9) c1 (sh, oA A, gl, gr) sl r hC hS
    simp [EvS, stI, enI, caI, s_push, s_iload, s_aload, s_istore, s_astore, s_iinc, s_bin, s_div, s_i2l, s_lcmp, s_dup, s_dup2, s_pop, s_tab, s_look, s_get, s_put, s_iald, s_lald, s_aald, s_iast, s_last, s_aast, s_len, s_newa, s_new, s_thr, s_min, s_copy, s_obj, s_call, s_iret, s_aret, s_vret, go, ldI, lget, lput, lv_args, wsum, va_rf, hnd, cvr, cat_i, cat_r, cat_l, oi_of, oi_add, oi_sub, oA_ap, oA_u2, pi_lt, pi_le, pi_eq, pi_eq0, pi_lt0, pi_le0, pi_gt0, pi_ge0, pi_cl, sb_lit, fv4, isB01, nlt0, EvU_0, wO_ne, wL_ne, wC_ne, wN_ne, pO_ne, pU_ne, CN, LN, -Prod.exists, pi_ti, Op.lookupswitch.offset, EvU_at d82_0, EvU_at d82_1, EvU_at d82_2, EvU_at d82_5, EvU_at d82_8, EvU_at d82_11, EvU_at d82_12, EvU_at d82_15, EvU_at d82_16, EvU_at d82_19, EvU_at d82_20, EvU_at d82_23, EvU_at d82_26, EvU_at d82_29, EvU_at d82_30, EvU_at d82_33, EvU_at d82_34, EvU_at d82_37, Z82, Z34, LyS hL, LyG hL, hA, n1, c1, thrw]
/-- the latest step is taken back -/
def undF (A : Nat → Nat → Int) : Nat → Nat → Int := moveF (-1) (A 73 (rd (A 72 1 - 1) 40).toNat).toNat (u2 (u2 A 72 1 (rd (A 72 1 - 1) 40)) 72 2 (A 72 2 - 1))
set_option maxRecDepth 20000 in
theorem p_undo (hA : ∀ k j, sb (A k j)) (hL : Lay sh gr) (hC : sh.length ≤ mxC) (hS : sl + 6 ≤ mxS) (hO : CO A) : Ev (89, 0, [(0, .ref 1)], [], (sh, oA A, gl, gr), sl) r ↔
    r = if ¬ (A 74 2 = 0) then thrw 1 (sh, oA A, gl, gr) sl else if ¬ (A 72 2 ≠ 0) then thrw 1 (sh, oA A, gl, gr) sl else (.inl (some (.int (oi (A 72 2 - 1)))), (sh, oA (undF A), gl, gr), sl) := by
  rw [EvU_iff (fun _ => false) 60]
  by_cases c1 : A 74 2 = 0
  · have n1 := fun (sl : Nat) (r : Out) => m_none_ok (gl := gl) (sl := sl) (r := r) hA hL c1
    by_cases c2 : A 72 2 ≠ 0
    · have h1 := hO.U.nx
      have h2 := hO.U.un
      have h4 := rd_in (a := A 72 1 - 1) (m := 40) (by omega) (by omega)
      have h5 := hO.U.mv (rd (A 72 1 - 1) 40).toNat (by omega)
      have tk := fun (sl : Nat) (r : Out) => m_takeLatest (gl := gl) (sl := sl) (r := r) hA hL h1 ⟨by omega, h2.2⟩
      obtain ⟨z, hz⟩ : ∃ z : Nat, A 73 (rd (A 72 1 - 1) 40).toNat = (z : Int) := ⟨(A 73 (rd (A 72 1 - 1) 40).toNat).toNat, by omega⟩
      have hz2 : (A 73 (rd (A 72 1 - 1) 40).toNat).toNat = z := by omega
      rw [hz] at tk
      have hB := sb_u2 (sb_u2 hA (show sb (rd (A 72 1 - 1) 40) from ⟨by omega, by omega⟩) 72 1) (show sb (A 72 2 - 1) from ⟨by omega, by omega⟩) 72 2
      have q1 : PosOk (u2 (u2 A 72 1 (rd (A 72 1 - 1) 40)) 72 2 (A 72 2 - 1)) := by
        have := hO.wy.pos
        unfold PosOk at *
        simpa [ur] using this
      have q2 : PlaceOk (u2 (u2 A 72 1 (rd (A 72 1 - 1) 40)) 72 2 (A 72 2 - 1)) := by
        have := hO.pk
        intro i hi
        rw [uk_ne (by unfold pO; omega), uk_ne (by unfold pO; omega), uk_ne (by omega), uk_ne (by omega)]
        exact this i hi
      have sb9 := fun (sl : Nat) (r : Out) => m_stepBack (gl := gl) (sl := sl) (r := r) hB hL q1 q2 (c := z) (by omega)
      have e9 : moveF (-1) z (u2 (u2 A 72 1 (rd (A 72 1 - 1) 40)) 72 2 (A 72 2 - 1)) 72 2 = A 72 2 - 1 := by
        rw [moveF_ne _ _ _ (by omega) (by omega), ue_eq]
      simp only [c1, not_true_eq_false, if_false, c2, not_false_eq_true, ne_eq]
      unfold undF
      rw [hz2]
      simp [EvS, stI, enI, caI, s_push, s_iload, s_aload, s_istore, s_astore, s_iinc, s_bin, s_div, s_i2l, s_lcmp, s_dup, s_dup2, s_pop, s_tab, s_look, s_get, s_put, s_iald, s_lald, s_aald, s_iast, s_last, s_aast, s_len, s_newa, s_new, s_thr, s_min, s_copy, s_obj, s_call, s_iret, s_aret, s_vret, go, ldI, lget, lput, lv_args, wsum, va_rf, hnd, cvr, cat_i, cat_r, cat_l, oi_of, oi_add, oi_sub, oA_ap, oA_u2, pi_lt, pi_le, pi_eq, pi_eq0, pi_lt0, pi_le0, pi_gt0, pi_ge0, pi_cl, sb_lit, fv4, isB01, nlt0, EvU_0, wO_ne, wL_ne, wC_ne, wN_ne, pO_ne, pU_ne, CN, LN, -Prod.exists, pi_ti, Op.lookupswitch.offset, EvU_at d89_0, EvU_at d89_1, EvU_at d89_4, EvU_at d89_5, EvU_at d89_8, EvU_at d89_11, EvU_at d89_14, EvU_at d89_17, EvU_at d89_18, EvU_at d89_20, EvU_at d89_23, EvU_at d89_24, EvU_at d89_25, EvU_at d89_28, EvU_at d89_29, EvU_at d89_32, EvU_at d89_35, EvU_at d89_38, EvU_at d89_39, EvU_at d89_42, EvU_at d89_45, Z89, Z29, Z90, Z91, LyS hL, LyG hL, hA, n1, c1, c2, tk, sb9, e9]
    · have c3 : A 72 2 = 0 := Classical.not_not.mp c2
      simp [EvS, stI, enI, caI, s_push, s_iload, s_aload, s_istore, s_astore, s_iinc, s_bin, s_div, s_i2l, s_lcmp, s_dup, s_dup2, s_pop, s_tab, s_look, s_get, s_put, s_iald, s_lald, s_aald, s_iast, s_last, s_aast, s_len, s_newa, s_new, s_thr, s_min, s_copy, s_obj, s_call, s_iret, s_aret, s_vret, go, ldI, lget, lput, lv_args, wsum, va_rf, hnd, cvr, cat_i, cat_r, cat_l, oi_of, oi_add, oi_sub, oA_ap, oA_u2, pi_lt, pi_le, pi_eq, pi_eq0, pi_lt0, pi_le0, pi_gt0, pi_ge0, pi_cl, sb_lit, fv4, isB01, nlt0, EvU_0, wO_ne, wL_ne, wC_ne, wN_ne, pO_ne, pU_ne, CN, LN, -Prod.exists, pi_ti, Op.lookupswitch.offset, EvU_at d89_0, EvU_at d89_1, EvU_at d89_4, EvU_at d89_5, EvU_at d89_8, EvU_at d89_11, EvU_at d89_14, EvU_at d89_17, EvU_at d89_18, EvU_at d89_20, EvU_at d89_23, EvU_at d89_24, EvU_at d89_25, EvU_at d89_28, EvU_at d89_29, EvU_at d89_32, EvU_at d89_35, EvU_at d89_38, EvU_at d89_39, EvU_at d89_42, EvU_at d89_45, Z89, Z29, LyS hL, LyG hL, hA, n1, c1, c3, thrw, Nat.not_lt.mpr hC, Nat.not_lt.mpr hS]
  · have n1 := fun (r : Out) => m_none_no (gl := gl) (r := r) hA hL c1 hC hS
    simp [EvS, stI, enI, caI, s_push, s_iload, s_aload, s_istore, s_astore, s_iinc, s_bin, s_div, s_i2l, s_lcmp, s_dup, s_dup2, s_pop, s_tab, s_look, s_get, s_put, s_iald, s_lald, s_aald, s_iast, s_last, s_aast, s_len, s_newa, s_new, s_thr, s_min, s_copy, s_obj, s_call, s_iret, s_aret, s_vret, go, ldI, lget, lput, lv_args, wsum, va_rf, hnd, cvr, cat_i, cat_r, cat_l, oi_of, oi_add, oi_sub, oA_ap, oA_u2, pi_lt, pi_le, pi_eq, pi_eq0, pi_lt0, pi_le0, pi_gt0, pi_ge0, pi_cl, sb_lit, fv4, isB01, nlt0, EvU_0, wO_ne, wL_ne, wC_ne, wN_ne, pO_ne, pU_ne, CN, LN, -Prod.exists, pi_ti, Op.lookupswitch.offset, EvU_at d89_0, EvU_at d89_1, EvU_at d89_4, EvU_at d89_5, EvU_at d89_8, EvU_at d89_11, EvU_at d89_14, EvU_at d89_17, EvU_at d89_18, EvU_at d89_20, EvU_at d89_23, EvU_at d89_24, EvU_at d89_25, EvU_at d89_28, EvU_at d89_29, EvU_at d89_32, EvU_at d89_35, EvU_at d89_38, EvU_at d89_39, EvU_at d89_42, EvU_at d89_45, Z89, Z29, LyS hL, LyG hL, hA, n1, c1, thrw]
end
