/-! the law says yes -/
section
variable {r : Out}
def bS4 (L : Nat) : List (Nat × Nat) := bS3 L ++ [(9, 24)] ++ moS
def bX4 : List (Nat × Nat) := bX3 ++ [(9, 24)] ++ moS
theorem bX4_T : bX4 = shT.take 215 := by decide +kernel
theorem okG4 : ∀ k, k < 216 → ∀ j, j < 24 → okG 215 k j (moG bG3) = true := by decide +kernel
theorem lay4 (L : Nat) : LayK 215 (bS4 L) (moG bG3) := by
  refine ⟨fun k z hk hz => ?_, fun k j v hk hv e => ?_⟩
  · have : (bS4 L)[k + 1]? = bX4[k]? := rfl
    rw [this, bX4_T, List.getElem?_take_of_lt hk]
    exact hz
  · by_cases hj : j < 24
    · exact okG_use (okG4 k (by omega) j hj) hv e
    · rw [grT_j k j (by omega)] at e
      cases e
theorem shT_l : shT.length = 216 := by decide +kernel
theorem okG5 : ∀ k, k < 217 → ∀ j, j < 24 → okG 216 k j (moG bG3) = true := by decide +kernel
theorem grT_k (k j : Nat) (hk : 217 ≤ k) : grT k j = none := by
  unfold grT
  repeat' split
  all_goals first | rfl | omega
theorem grT_v : ∀ k, k < 217 → ∀ j, j < 24 → (grT k j).getD 0 ≤ 216 := by decide +kernel
theorem shT_216 : shT[215]? = some (102, 1) := by decide +kernel
theorem bS4_l (L : Nat) : (bS4 L).length = 216 := by
  unfold bS4 moS
  simp [bS3_f L]
theorem lay5 (L : Nat) : Lay (bS4 L ++ [(102, 1)]) (moG bG3) := by
  refine ⟨fun k z hz => ?_, fun k j v e => ?_⟩
  · by_cases hk : k < 215
    · exact ap ((lay4 L).1 k z hk hz) _
    · have hk2 : k < shT.length := (List.getElem?_eq_some_iff.mp hz).1
      rw [shT_l] at hk2
      obtain rfl : k = 215 := by omega
      rw [shT_216] at hz
      rw [List.getElem?_append_right (by rw [bS4_l]; omega), bS4_l]
      exact hz
  · by_cases hj : j < 24
    · by_cases hk : k < 217
      · have := grT_v k hk j hj
        rw [e] at this
        exact okG_use (okG5 k hk j hj) this e
      · rw [grT_k k j (by omega)] at e
        cases e
    · rw [grT_j k j (by omega)] at e
      cases e
/-- the ints when the loop begins -/
def bA (xs : Nat → Int32) : Nat → Nat → Int := rz (resF (moA (rz (clrF (A00 xs 199) 26) 199))) 216
theorem moA_lo (A : Nat → Nat → Int) {a : Nat} (ha : a < 199) (b : Nat) : moA A a b = A a b := by
  unfold moA rz
  simp only [show ¬ a = 200 by omega, show ¬ a = 201 by omega, show ¬ a = 202 by omega, show ¬ a = 203 by omega, show ¬ a = 204 by omega, show ¬ a = 205 by omega, show ¬ a = 206 by omega, show ¬ a = 207 by omega, show ¬ a = 208 by omega, show ¬ a = 209 by omega, show ¬ a = 210 by omega, show ¬ a = 211 by omega, show ¬ a = 212 by omega, show ¬ a = 213 by omega, show ¬ a = 214 by omega, show ¬ a = 215 by omega, if_false]
  exact uk_ne (by omega) _ _ _
theorem moA_1 (A : Nat → Nat → Int) : moA A 199 1 = 26 := by
  unfold moA rz
  simp [ur]
theorem sb_bA (xs : Nat → Int32) : ∀ k j, sb (bA xs k j) := by
  have h26 : sb 26 := ⟨by decide, by decide⟩
  unfold bA moA
  exact sb_rz (sb_resF (sb_rz (sb_rz (sb_rz (sb_rz (sb_rz (sb_rz (sb_rz (sb_rz (sb_rz (sb_rz (sb_rz (sb_rz (sb_rz (sb_rz (sb_rz (sb_rz (sb_u2 (sb_rz (sb_clrF (sb_A00 xs 199) h26) 199) h26 199 1) 200) 201) 202) 203) 204) 205) 206) 207) 208) 209) 210) 211) 212) 213) 214) 215)) _
theorem bA_rl (xs : Nat → Int32) : RL (bA xs) (bA xs) := by
  have z : ∀ a b, 1 ≤ a → a < 199 → A00 xs 199 a b = 0 := fun a b h1 h2 => by
    unfold A00
    rw [if_pos ⟨h1, h2⟩]
  have c := clr_all (A00 xs 199) 26
  have h := rl_clear (A' := moA (rz (clrF (A00 xs 199) 26) 199)) (B := A00 xs 199) (m := 26) (Or.inr (Or.inl rfl)) (moA_1 _) (by rw [z _ _ (by omega) (by omega)]; omega) (fun j hj => by rw [z _ _ (by omega) (by omega)]; omega) (z _ _ (by omega) (by omega))
  have h2 : RL (bA xs) (u2 (u2 (clrF (A00 xs 199) 26) 72 2 0) 74 1 0) := h.cg (fun a b g1 g2 g3 => by
    unfold bA rz
    rw [if_neg (by omega)])
  refine h2.cgB (fun a b ha => ?_)
  have e1 : bA xs a b = clrF (A00 xs 199) 26 a b := by
    have : bA xs a b = resF (moA (rz (clrF (A00 xs 199) 26) 199)) a b := by
      show rz (resF (moA (rz (clrF (A00 xs 199) 26) 199))) 216 a b = _
      unfold rz
      rw [if_neg (by omega)]
    rw [this, (res_all _).2.2.2.2.2.2.2.2 a b (by omega), moA_lo _ (by omega)]
    show (if a = 199 then 0 else clrF (A00 xs 199) 26 a b) = _
    rw [if_neg (by omega)]
  rw [e1]
  by_cases c4 : a = 74
  · subst c4
    by_cases cb : b = 1
    · subst cb
      rw [ue_eq, c.2.2.2 _ _ (by omega), z _ _ (by omega) (by omega)]
    · rw [uj_ne cb, uk_ne (by omega)]
  · rw [uk_ne c4]
    by_cases c2 : a = 72
    · subst c2
      by_cases cb : b = 2
      · subst cb
        rw [ue_eq, c.2.2.2 _ _ (by omega), z _ _ (by omega) (by omega)]
      · rw [uj_ne cb]
    · rw [uk_ne c2]
theorem frG4 (n : Nat) (h : 216 ≤ n) : Fr (moG bG3) n := by
  unfold moG
  exact Fr_u (by omega) (Fr_u (by omega) (Fr_u (by omega) (Fr_u (by omega) (Fr_u (by omega) (Fr_u (by omega) (Fr_u (by omega) (Fr_u (by omega) (Fr_u (by omega) (Fr_u (by omega) (Fr_u (by omega) (Fr_u (by omega) (Fr_u (by omega) (Fr_u (by omega) (Fr_u (by omega) (Fr_u (by omega) (frG3 n (by omega)))))))))))))))))
theorem iv0 {L : Nat} (xs : Nat → Int32) {sl : Nat} (hs : sl ≤ 100000) : Iv L (bS4 L ++ [(102, 1)]) (bA xs) (moG bG3) sl 0 := by
  refine ⟨sb_bA xs, lay5 L, bA_rl xs, ?_, by omega, rfl⟩
  rw [List.length_append, bS4_l]
  decide
set_option maxRecDepth 20000 in
theorem law_yes {L : Nat} (xs : Nat → Int32) (hL : L ≤ 2048) : ∃ hs, Ev (0, 0, [(0, .ref 0)], [], ([(100, L)], fun _ j => xs j, fun _ _ => 0, fun _ _ => none), 0) (.inl (some (.int (oi 1))), hs) := by
  have hY := law_loop (gr := moG bG3) hL 600 0 0 (by omega) (by omega) (by omega)
  obtain ⟨hs, he⟩ := hY (bS4 L ++ [(102, 1)]) (bA xs) z64 9705 [(4, .int (oi 0)), (3, .ref 216), (2, .ref 199), (1, .ref 1), (0, .ref 0)] (iv0 xs (by omega)) (by simp [nl, cat_i, cat_r]) (by simp [lget, cat_i, cat_r]) (by simp [lget, cat_i, cat_r]) (by simp [lget, cat_i, cat_r]) (by simp [lget, cat_i, cat_r]) (by simp [lget, cat_i, cat_r])
  refine ⟨hs, ?_⟩
  have z1 : (fun _ j => xs j : Nat → Nat → Int32) = zr 1 (fun _ j => xs j) := by
    funext a b
    unfold zr
    rw [if_neg (by omega)]
  have z2 : (fun _ _ => 0 : Nat → Nat → Int64) = z64 := rfl
  have z3 : (fun _ _ => none : Nat → Nat → Option Nat) = g00 := rfl
  rw [z2, z3]
  have k1 := fun (r : Out) => c_bench L xs (sl := 4) (r := r) (by omega)
  obtain ⟨l1, l2, l3⟩ := bS3_f L
  have b199 : (bS3 L ++ [(9, 24)])[199]? = some (9, 24) := by rw [List.getElem?_append_right (by omega), l1]; rfl
  have k2 := fun (r : Out) => c_model (sh := bS3 L ++ [(9, 24)]) (A := rz (clrF (A00 xs 199) 26) 199) (gr := bG3) (sl := 4738) (r := r) (by simp [l1]) b199 (frG3 200 (by omega)) (by omega) (lay4 L)
  have e4 : bS3 L ++ [(9, 24)] ++ moS = bS4 L := rfl
  rw [e4] at k2
  have l4 := bS4_l L
  have q1 := rwF (fr0 1)
  have q2 := rwF (frG3 199 (by omega))
  have q3 := rwF (frG4 216 (by omega))
  have e5 : rz (resF (moA (rz (clrF (A00 xs 199) 26) 199))) 216 = bA xs := rfl
  have e6 : rw0 (fun _ j => xs j : Nat → Nat → Int32) 1 0 = zr 2 (fun _ j => xs j) := by
    have := zr_s (fun _ j => xs j) (m := 1) (by omega)
    rw [← z1] at this
    exact this
  rw [EvU_iff (fun p => p == 23) 60]
  simp (maxDischargeDepth := 9) [EvS, stI, enI, caI, s_push, s_iload, s_aload, s_istore, s_astore, s_iinc, s_bin, s_div, s_i2l, s_lcmp, s_dup, s_dup2, s_pop, s_tab, s_look, s_get, s_put, s_iald, s_lald, s_aald, s_iast, s_last, s_aast, s_len, s_newa, s_new, s_thr, s_min, s_copy, s_obj, s_call, s_iret, s_aret, s_vret, go, ldI, lget, lput, lv_args, wsum, va_rf, hnd, cvr, cat_i, cat_r, cat_l, oi_of, oi_add, oi_sub, oA_ap, oA_u2, pi_lt, pi_le, pi_eq, pi_eq0, pi_lt0, pi_le0, pi_gt0, pi_ge0, pi_cl, sb_lit, fv4, isB01, nlt0, EvU_0, wO_ne, wL_ne, wC_ne, wN_ne, pO_ne, pU_ne, CN, LN, -Prod.exists, pi_ti, Op.lookupswitch.offset, EvU_at d0_0, EvU_at d0_3, EvU_at d0_4, EvU_at d0_7, EvU_at d0_8, EvU_at d0_11, EvU_at d0_12, EvU_at d0_15, EvU_at d0_16, EvU_at d0_17, EvU_at d0_19, EvU_at d0_20, EvU_at d0_21, EvU_at d0_23, Z0, Z1, Z113, l1, l2, l3, l4, b199, q1, q2, q3, z64_s, oA_rz, mxC, mxS, k1, k2, e5, e6, he]
end
