/-! the constructors of both sides, and the law -/
def A00 (xs : Nat → Int32) (m : Nat) : Nat → Nat → Int := fun a j => if 1 ≤ a ∧ a < m then 0 else (xs j).toInt
theorem zr_oA (xs : Nat → Int32) (m : Nat) : zr m (fun _ j => xs j) = oA (A00 xs m) := by
  funext a b
  unfold zr oA A00
  split
  · exact oi_0
  · exact (Int32.ofInt_toInt (xs b)).symm
theorem sb_A00 (xs : Nat → Int32) (m : Nat) : ∀ k j, sb (A00 xs m k j) := by
  intro k j
  unfold A00
  split
  · exact ⟨by decide, by decide⟩
  · exact ⟨by have := Int32.le_toInt (xs j); omega, by have := Int32.toInt_lt (xs j); omega⟩
/-- a new row of ints -/
def rz (A : Nat → Nat → Int) (n : Nat) : Nat → Nat → Int := fun a b => if a = n then 0 else A a b
theorem oA_rz (A : Nat → Nat → Int) (n : Nat) : rw0 (oA A) n 0 = oA (rz A n) := by
  funext a b
  unfold rw0 oA rz
  by_cases h : a = n
  · rw [if_pos h, if_pos h]
    exact oi_0
  · rw [if_neg h, if_neg h]
theorem sb_rz {A : Nat → Nat → Int} (hA : ∀ k j, sb (A k j)) (n : Nat) : ∀ k j, sb (rz A n k j) := by
  intro k j
  unfold rz
  split
  · exact ⟨by decide, by decide⟩
  · exact hA k j
def moS : List (Nat × Nat) := [(100, 256), (100, 8), (101, 256), (100, 6), (100, 64), (100, 12), (101, 768), (100, 54), (100, 18), (100, 18), (101, 6), (100, 720), (100, 20), (100, 360), (100, 1200), (100, 1200)]
def moG (gr : Nat → Nat → Option Nat) : Nat → Nat → Option Nat := (u2 (u2 (u2 (u2 (u2 (u2 (u2 (u2 (u2 (u2 (u2 (u2 (u2 (u2 (u2 (u2 gr 199 2 (some 200)) 199 3 (some 201)) 199 4 (some 202)) 199 5 (some 203)) 199 6 (some 204)) 199 8 (some 205)) 199 9 (some 206)) 199 10 (some 207)) 199 13 (some 208)) 199 14 (some 209)) 199 15 (some 210)) 199 17 (some 211)) 199 20 (some 212)) 199 21 (some 213)) 199 22 (some 214)) 199 23 (some 215))
def moA (A : Nat → Nat → Int) : Nat → Nat → Int := (rz (rz (rz (rz (rz (rz (rz (rz (rz (rz (rz (rz (rz (rz (rz (rz (u2 A 199 1 26) 200) 201) 202) 203) 204) 205) 206) 207) 208) 209) 210) 211) 212) 213) 214) 215)
section
variable {sh : List (Nat × Nat)} {A : Nat → Nat → Int} {gr : Nat → Nat → Option Nat} {sl : Nat} {r : Out}
set_option maxRecDepth 20000 in
theorem c_model (hl : sh.length = 200) (hq : sh[199]? = some (9, 24)) (hf : Fr gr 200) (hs : sl ≤ 80000) (hL : LayK 215 (sh ++ moS) (moG gr)) : Ev (113, 0, [(0, .ref 199)], [], (sh, oA A, z64, gr), sl) r ↔ r = (.inl none, (sh ++ moS, oA (resF (moA A)), z64, moG gr), sl + 4966) := by
  have a1 := ap hq
  have m1 := mS9 (show sl ≤ 90000 by omega)
  have hf' : ∀ m, 200 ≤ m → Fr gr m := fun m hm => hf.le hm
  have c2 : ∀ h : 199 < sh.length, sh[199]'h = (9, 24) := fun h => by
    rw [List.getElem?_eq_getElem h] at hq
    exact Option.some.inj hq
  have rs := fun (r : Out) => y_r_reset (A := moA A) (gl := z64) (sl := sl + 4966) (r := r) hL
  have zz : sb 768 ∧ sb 720 ∧ sb 360 ∧ sb 1200 := ⟨⟨by decide, by decide⟩, ⟨by decide, by decide⟩, ⟨by decide, by decide⟩, ⟨by decide, by decide⟩⟩
  rw [EvU_iff (fun _ => false) 100]
  unfold moS moG moA at *
  simp (maxDischargeDepth := 60) [EvS, stI, enI, caI, s_push, s_iload, s_aload, s_istore, s_astore, s_iinc, s_bin, s_div, s_i2l, s_lcmp, s_dup, s_dup2, s_pop, s_tab, s_look, s_get, s_put, s_iald, s_lald, s_aald, s_iast, s_last, s_aast, s_len, s_newa, s_new, s_thr, s_min, s_copy, s_obj, s_call, s_iret, s_aret, s_vret, go, ldI, lget, lput, lv_args, wsum, va_rf, hnd, cvr, cat_i, cat_r, cat_l, oi_of, oi_add, oi_sub, oA_ap, oA_u2, pi_lt, pi_le, pi_eq, pi_eq0, pi_lt0, pi_le0, pi_gt0, pi_ge0, pi_cl, sb_lit, fv4, isB01, nlt0, EvU_0, wO_ne, wL_ne, wC_ne, wN_ne, pO_ne, pU_ne, CN, LN, -Prod.exists, pi_ti, Op.lookupswitch.offset, EvU_at d113_0, EvU_at d113_1, EvU_at d113_4, EvU_at d113_5, EvU_at d113_7, EvU_at d113_10, EvU_at d113_11, EvU_at d113_14, EvU_at d113_16, EvU_at d113_19, EvU_at d113_20, EvU_at d113_22, EvU_at d113_24, EvU_at d113_27, EvU_at d113_28, EvU_at d113_31, EvU_at d113_33, EvU_at d113_36, EvU_at d113_37, EvU_at d113_39, EvU_at d113_41, EvU_at d113_44, EvU_at d113_45, EvU_at d113_47, EvU_at d113_49, EvU_at d113_52, EvU_at d113_53, EvU_at d113_55, EvU_at d113_57, EvU_at d113_60, EvU_at d113_61, EvU_at d113_64, EvU_at d113_66, EvU_at d113_69, EvU_at d113_70, EvU_at d113_72, EvU_at d113_74, EvU_at d113_77, EvU_at d113_78, EvU_at d113_80, EvU_at d113_82, EvU_at d113_85, EvU_at d113_86, EvU_at d113_88, EvU_at d113_90, EvU_at d113_93, EvU_at d113_94, EvU_at d113_96, EvU_at d113_98, EvU_at d113_101, EvU_at d113_102, EvU_at d113_105, EvU_at d113_107, EvU_at d113_110, EvU_at d113_111, EvU_at d113_113, EvU_at d113_115, EvU_at d113_118, EvU_at d113_119, EvU_at d113_122, EvU_at d113_124, EvU_at d113_127, EvU_at d113_128, EvU_at d113_131, EvU_at d113_133, EvU_at d113_136, EvU_at d113_137, EvU_at d113_140, EvU_at d113_142, EvU_at d113_145, EvU_at d113_146, EvU_at d113_149, Z113, Z114, hl, hq, a1, c2, hf', Fr_u, rwF, oA_rz, z64_s, Nat.add_assoc, m1, mxC, rs, zz]
set_option maxRecDepth 20000 in
theorem c_bench (L : Nat) (xs : Nat → Int32) {sl : Nat} (hs : sl ≤ 400) : Ev (1, 0, [(0, .ref 1)], [], ([(100, L), (0, 4)], zr 2 (fun _ j => xs j), z64, g00), sl) r ↔ r = (.inl none, (bS3 L, oA (clrF (A00 xs 199) 26), z64, bG3), sl + 4710) := by
  have m1 := mS9 (show sl ≤ 90000 by omega)
  have k1 := fun (r : Out) => c_machine (sh := [(100, L), (0, 4), (2, 14)]) (g := fun _ j => xs j) (gr := g00) (sl := sl + 14) (r := r) rfl rfl (fr0 3) (by omega)
  have e1 : [(100, L), (0, 4), (2, 14)] ++ mB9 ++ whS 8 ++ pwS 12 = bS1 L := rfl
  have e2 : pwG 12 0 (whG 8 0 (mG g00)) = bG1 := rfl
  rw [e1, e2] at k1
  obtain ⟨l1, l2, l3⟩ := bS1_f L
  have a12 := ap l2
  have a13 := ap l3
  have b72 : (bS1 L ++ [(7, 3)])[72]? = some (7, 3) := by rw [List.getElem?_append_right (by omega), l1]; rfl
  have k2 := fun (r : Out) => c_steps (sh := bS1 L ++ [(7, 3)]) (g := fun _ j => xs j) (gr := u2 bG1 1 0 (some 2)) (sl := sl + 1747) (n := 73) (q := 72) (r := r) (by simp [l1]) b72 (Fr_u (by omega) (frG1 73 (by omega))) (by omega) (by omega) (by omega) (by omega)
  have b74 : (bS1 L ++ [(7, 3), (100, 40), (1, 3)])[74]? = some (1, 3) := by rw [List.getElem?_append_right (by omega), l1]; rfl
  have k3 := fun (r : Out) => c_log9 (sh := bS1 L ++ [(7, 3), (100, 40), (1, 3)]) (g := fun _ j => xs j) (gr := u2 (u2 (u2 bG1 1 0 (some 2)) 72 0 (some 73)) 1 1 (some 72)) (sl := sl + 1790) (r := r) (by simp [l1]) b74 (Fr_u (by omega) (Fr_u (by omega) (Fr_u (by omega) (frG1 75 (by omega))))) (by omega)
  have e3 : bS1 L ++ [(7, 3), (100, 40), (1, 3)] ++ [(103, 20)] ++ msS 20 = bS2 L := rfl
  have e4 : msG 20 0 (u2 (u2 (u2 (u2 bG1 1 0 (some 2)) 72 0 (some 73)) 1 1 (some 72)) 74 0 (some 75)) = bG2 := rfl
  rw [e3, e4] at k3
  obtain ⟨l4, l5, l6⟩ := bS2_f L
  have a22 := ap l5
  have a23 := ap l6
  have b196 : (bS2 L ++ [(6, 2)])[196]? = some (6, 2) := by rw [List.getElem?_append_right (by omega), l4]; rfl
  have k4 := fun (r : Out) => c_stand (sh := bS2 L ++ [(6, 2)]) (g := fun _ j => xs j) (gr := u2 bG2 1 2 (some 74)) (sl := sl + 4692) (n := 197) (q := 196) (r := r) (by simp [l4]) b196 (Fr_u (by omega) (frG2 197 (by omega))) (by omega) (by omega) (by omega) (by omega)
  have k5 := fun (r : Out) => y_m_mclear (A := A00 xs 199) (gl := z64) (sl := sl + 4710) (r := r) (lay3 L) 26
  have e5 : bS2 L ++ [(6, 2), (100, 6), (100, 12)] = bS3 L := rfl
  have e6 : u2 (u2 (u2 (u2 bG2 1 2 (some 74)) 196 0 (some 197)) 196 1 (some 198)) 1 3 (some 196) = bG3 := rfl
  have e7 := zr_oA xs 199
  have g10 : bG3 1 0 = some 2 := (LkGA (lay3 L)).1
  have c1 : ∀ h : 1 < (bS1 L).length, (bS1 L)[1]'h = (0, 4) := fun h => by
    rw [List.getElem?_eq_getElem h] at l2
    exact Option.some.inj l2
  have c2 : ∀ h : 1 < (bS2 L).length, (bS2 L)[1]'h = (0, 4) := fun h => by
    rw [List.getElem?_eq_getElem h] at l5
    exact Option.some.inj l5
  have q1 := rwF (frG1 72 (by omega))
  have q2 := rwF (frG2 196 (by omega))
  have q3 := rwF (fr0 2)
  have q4 : rw0 (u2 bG1 1 0 (some 2)) 72 none = u2 bG1 1 0 (some 2) := rwF (Fr_u (by omega) (frG1 72 (by omega)))
  have q5 : rw0 (u2 (u2 (u2 bG1 1 0 (some 2)) 72 0 (some 73)) 1 1 (some 72)) 74 none = u2 (u2 (u2 bG1 1 0 (some 2)) 72 0 (some 73)) 1 1 (some 72) := rwF (Fr_u (by omega) (Fr_u (by omega) (Fr_u (by omega) (frG1 74 (by omega)))))
  have q6 : rw0 (u2 bG2 1 2 (some 74)) 196 none = u2 bG2 1 2 (some 74) := rwF (Fr_u (by omega) (frG2 196 (by omega)))
  have c3 : ∀ h : 1 < (bS3 L).length, (bS3 L)[1]'h = (0, 4) := fun h => by
    have := (bS3_f L).2.1
    rw [List.getElem?_eq_getElem h] at this
    exact Option.some.inj this
  have c4 : ∀ h : 2 < (bS3 L).length, (bS3 L)[2]'h = (2, 14) := fun h => by
    have := (bS3_f L).2.2
    rw [List.getElem?_eq_getElem h] at this
    exact Option.some.inj this
  rw [EvU_iff (fun _ => false) 60]
  simp (maxDischargeDepth := 9) [EvS, stI, enI, caI, s_push, s_iload, s_aload, s_istore, s_astore, s_iinc, s_bin, s_div, s_i2l, s_lcmp, s_dup, s_dup2, s_pop, s_tab, s_look, s_get, s_put, s_iald, s_lald, s_aald, s_iast, s_last, s_aast, s_len, s_newa, s_new, s_thr, s_min, s_copy, s_obj, s_call, s_iret, s_aret, s_vret, go, ldI, lget, lput, lv_args, wsum, va_rf, hnd, cvr, cat_i, cat_r, cat_l, oi_of, oi_add, oi_sub, oA_ap, oA_u2, pi_lt, pi_le, pi_eq, pi_eq0, pi_lt0, pi_le0, pi_gt0, pi_ge0, pi_cl, sb_lit, fv4, isB01, nlt0, EvU_0, wO_ne, wL_ne, wC_ne, wN_ne, pO_ne, pU_ne, CN, LN, -Prod.exists, pi_ti, Op.lookupswitch.offset, EvU_at d1_0, EvU_at d1_1, EvU_at d1_4, EvU_at d1_5, EvU_at d1_8, EvU_at d1_9, EvU_at d1_12, EvU_at d1_15, EvU_at d1_16, EvU_at d1_19, EvU_at d1_20, EvU_at d1_23, EvU_at d1_26, EvU_at d1_27, EvU_at d1_30, EvU_at d1_31, EvU_at d1_34, EvU_at d1_37, EvU_at d1_38, EvU_at d1_41, EvU_at d1_42, EvU_at d1_45, EvU_at d1_48, EvU_at d1_49, EvU_at d1_52, EvU_at d1_54, EvU_at d1_57, Z1, Z2, Z7, Z8, Z4, Z10, l1, l2, l3, l4, l5, l6, bS3_f L, a12, a13, a22, a23, c1, c2, c3, c4, b72, b74, b196, q1, q2, q3, q4, q5, q6, zr_s, z64_s, Nat.add_assoc, m1, mxC, k1, k2, k3, k4, k5, e5, e6, e7, g10]
end
