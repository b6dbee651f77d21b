/-! the law's loop, to its end -/
section
variable {gr : Nat → Nat → Option Nat} {L : Nat}
theorem b01 (p : Prop) [Decidable p] : (if p then (0 : Int) else 1) = 0 ∨ (if p then (0 : Int) else 1) = 1 := by
  split
  · exact Or.inl rfl
  · exact Or.inr rfl
set_option maxRecDepth 20000 in
theorem law_end (hL2 : L ≤ 2048) {i n : Nat} (hi : i ≤ 4096) (hn : ¬ i + 4 ≤ L) : Yes L i n gr := by
  intro sh A gl sl ls hI g g0 g1 g2 g3 g4
  have h0 := hI.2.2.2.2.2
  have j0 : sb (i : Int) := ⟨by omega, by omega⟩
  have j1 : sb ((L : Int) - 4) := ⟨by omega, by omega⟩
  have j2 : (L : Int) - 4 < (i : Int) := by omega
  refine ⟨((sh, oA A, gl, gr), sl), ?_⟩
  rw [EvU_iff (fun _ => false) 40]
  simp (maxDischargeDepth := 9) [EvS, stI, enI, caI, s_push, s_iload, s_aload, s_istore, s_astore, s_iinc, s_bin, s_div, s_i2l, s_lcmp, s_dup, s_dup2, s_pop, s_tab, s_look, s_get, s_put, s_iald, s_lald, s_aald, s_iast, s_last, s_aast, s_len, s_newa, s_new, s_thr, s_min, s_copy, s_obj, s_call, s_iret, s_aret, s_vret, go, ldI, lget_lput, nl_I, nl_R, lv_args, wsum, va_rf, hnd, cvr, cat_i, cat_r, cat_l, oi_of, oi_add, oi_sub, oA_ap, oA_u2, pi_lt, pi_le, pi_eq, pi_eq0, pi_lt0, pi_le0, pi_gt0, pi_ge0, pi_cl, sb_lit, fv4, isB01, nlt0, EvU_0, wO_ne, wL_ne, wC_ne, wN_ne, pO_ne, pU_ne, CN, LN, -Prod.exists, pi_ti, Op.lookupswitch.offset, EvU_at d0_23, EvU_at d0_25, EvU_at d0_26, EvU_at d0_27, EvU_at d0_28, EvU_at d0_29, EvU_at d0_1796, EvU_at d0_1797, Z0, h0, ofNat_oi, g, g0, g4, j0, j1, j2]
theorem law_loop (hL2 : L ≤ 2048) : ∀ (f i n : Nat), L < i + 4 * f → i = 4 * n → i ≤ L + 4 → Yes L i n gr := by
  intro f
  induction f with
  | zero => exact fun i n h1 h2 h3 => law_end hL2 (by omega) (by omega)
  | succ f ih =>
    intro i n h1 h2 h3
    by_cases hi : i + 4 ≤ L
    · have hY : Yes L (i + 4) (n + 1) gr := ih (i + 4) (n + 1) (by omega) (by omega) (by omega)
      intro sh A gl sl ls hI g g0 g1 g2 g3 g4
      have hA := hI.1
      have h0 := hI.2.2.2.2.2
      have hn : n < 600 := by omega
      obtain ⟨c, hc, ec⟩ := and31 (oi (A 0 i))
      suffices h : ∃ hs, Ev (0, cpc c, ls, [], (sh, oA A, gl, gr), sl) (.inl (some (.int (oi 1))), hs) by
        obtain ⟨hs, he⟩ := h
        exact ⟨hs, (law_dis hA h0 hL2 hi g g0 g4 hc ec _).mpr he⟩
      clear ec
      rcases (show c = 0 ∨ c = 1 ∨ c = 2 ∨ c = 3 ∨ c = 4 ∨ c = 5 ∨ c = 6 ∨ c = 7 ∨ c = 8 ∨ c = 9 ∨ c = 10 ∨ c = 11 ∨ c = 12 ∨ c = 13 ∨ c = 14 ∨ c = 15 ∨ c = 16 ∨ c = 17 ∨ c = 18 ∨ c = 19 ∨ c = 20 ∨ c = 21 ∨ c = 22 ∨ c = 23 ∨ c = 24 ∨ c = 25 ∨ 26 ≤ c by omega) with rfl | rfl | rfl | rfl | rfl | rfl | rfl | rfl | rfl | rfl | rfl | rfl | rfl | rfl | rfl | rfl | rfl | rfl | rfl | rfl | rfl | rfl | rfl | rfl | rfl | rfl | hc2
      · exact k_contacts hL2 hi hI (o_contacts hI hn (hA 0 (i + 1))) hY g g0 g1 g2 g3 g4
      · exact k_wire hL2 hi hI (o_wire hI hn (hA 0 (i + 1)) (hA 0 (i + 2)) (hA 0 (i + 3))) hY g g0 g1 g2 g3 g4
      · exact k_ring hL2 hi hI (o_ring hI hn (hA 0 (i + 1)) (hA 0 (i + 2))) hY g g0 g1 g2 g3 g4
      · exact k_notch (y := if A 0 (i + 3) = 0 then 0 else 1) hL2 hi rfl hI (o_notch hI hn (hA 0 (i + 1)) (hA 0 (i + 2)) (b01 _)) hY g g0 g1 g2 g3 g4
      · refine k_fill hL2 hi hI ?_ hY g g0 g1 g2 g3 g4
        by_cases p : 0 ≤ A 0 (i + 1) ∧ A 0 (i + 1) < 6
        · have hG := o_fill (gl := gl) hI hn (t := (A 0 (i + 1)).toNat) (by omega) (hA 0 (i + 2))
          rw [show (((A 0 (i + 1)).toNat : Nat) : Int) = A 0 (i + 1) by omega] at hG
          exact hG
        · exact o_fillN hI hn (hA 0 (i + 1)) (hA 0 (i + 2)) p
      · refine k_plug hL2 hi hI ?_ hY g g0 g1 g2 g3 g4
        by_cases p0 : A 0 (i + 1) = 0
        · rw [p0]
          exact o_plug0 hI hn (hA 0 (i + 2)) (hA 0 (i + 3))
        · by_cases p1 : A 0 (i + 1) = 1
          · rw [p1]
            exact o_plug1 hI hn (hA 0 (i + 2)) (hA 0 (i + 3))
          · exact o_plugN hI hn (hA 0 (i + 1)) (hA 0 (i + 2)) (hA 0 (i + 3)) (by omega)
      · refine k_unplug hL2 hi hI ?_ hY g g0 g1 g2 g3 g4
        by_cases p0 : A 0 (i + 1) = 0
        · rw [p0]
          exact o_unplug0 hI hn (hA 0 (i + 2))
        · by_cases p1 : A 0 (i + 1) = 1
          · rw [p1]
            exact o_unplug1 hI hn (hA 0 (i + 2))
          · exact o_unplugN hI hn (hA 0 (i + 1)) (hA 0 (i + 2)) (by omega)
      · exact k_reflects (y := if A 0 (i + 1) = 0 then 0 else 1) hL2 hi rfl hI (o_reflects hI hn  (b01 _)) hY g g0 g1 g2 g3 g4
      · exact k_pins hL2 hi hI (o_pins hI hn (hA 0 (i + 1)) (hA 0 (i + 2))) hY g g0 g1 g2 g3 g4
      · exact k_pin (y := if A 0 (i + 3) = 0 then 0 else 1) hL2 hi rfl hI (o_pin hI hn (hA 0 (i + 1)) (hA 0 (i + 2)) (b01 _)) hY g g0 g1 g2 g3 g4
      · exact k_lugs hL2 hi hI (o_lugs hI hn (hA 0 (i + 1)) (hA 0 (i + 2)) (hA 0 (i + 3))) hY g g0 g1 g2 g3 g4
      · exact k_rule hL2 hi hI (o_rule hI hn (hA 0 (i + 1))) hY g g0 g1 g2 g3 g4
      · exact k_path hL2 hi hI (o_path hI hn (hA 0 (i + 1))) hY g g0 g1 g2 g3 g4
      · refine k_set hL2 hi hI ?_ hY g g0 g1 g2 g3 g4
        by_cases p0 : A 0 (i + 1) = 0
        · rw [p0]
          exact o_set0 hI hn (hA 0 (i + 2)) (hA 0 (i + 3))
        · by_cases p1 : A 0 (i + 1) = 1
          · rw [p1]
            exact o_set1 hI hn (hA 0 (i + 2)) (hA 0 (i + 3))
          · exact o_setN hI hn (hA 0 (i + 1)) (hA 0 (i + 2)) (hA 0 (i + 3)) (by omega)
      · exact k_key hL2 hi hI (o_key hI hn (hA 0 (i + 1))) hY g g0 g1 g2 g3 g4
      · exact k_back hL2 hi hI (o_back hI hn (hA 0 (i + 1))) hY g g0 g1 g2 g3 g4
      · exact k_image hL2 hi hI (o_image hI hn (hA 0 (i + 1))) hY g g0 g1 g2 g3 g4
      · refine k_at hL2 hi hI ?_ hY g g0 g1 g2 g3 g4
        by_cases p0 : A 0 (i + 1) = 0
        · rw [p0]
          exact o_at0 hI hn (hA 0 (i + 2))
        · by_cases p1 : A 0 (i + 1) = 1
          · rw [p1]
            exact o_at1 hI hn (hA 0 (i + 2))
          · exact o_atN hI hn (hA 0 (i + 1)) (hA 0 (i + 2)) (by omega)
      · exact k_undo hL2 hi hI (o_undo hI hn ) hY g g0 g1 g2 g3 g4
      · exact k_period hL2 hi hI (o_period hI hn (hA 0 (i + 1))) hY g g0 g1 g2 g3 g4
      · exact k_fixed hL2 hi hI hY g g0 g1 g2 g3 g4
      · exact k_open hL2 hi hI (o_open hI hn ) hY g g0 g1 g2 g3 g4
      · exact k_close hL2 hi hI (o_close hI hn ) hY g g0 g1 g2 g3 g4
      · exact k_logged hL2 hi hI (o_logged hI hn (hA 0 (i + 1)) (hA 0 (i + 2)) (hA 0 (i + 3))) hY g g0 g1 g2 g3 g4
      · exact k_replay hL2 hi hI (o_replay hI hn (hA 0 (i + 1))) hY g g0 g1 g2 g3 g4
      · exact k_count hL2 hi hI (o_count hI hn (hA 0 (i + 1))) hY g g0 g1 g2 g3 g4
      · have e : cpc c = 1790 := by
          unfold cpc
          simp only [show ¬ c = 0 by omega, show ¬ c = 1 by omega, show ¬ c = 2 by omega, show ¬ c = 3 by omega, show ¬ c = 4 by omega, show ¬ c = 5 by omega, show ¬ c = 6 by omega, show ¬ c = 7 by omega, show ¬ c = 8 by omega, show ¬ c = 9 by omega, show ¬ c = 10 by omega, show ¬ c = 11 by omega, show ¬ c = 12 by omega, show ¬ c = 13 by omega, show ¬ c = 14 by omega, show ¬ c = 15 by omega, show ¬ c = 16 by omega, show ¬ c = 17 by omega, show ¬ c = 18 by omega, show ¬ c = 19 by omega, show ¬ c = 20 by omega, show ¬ c = 21 by omega, show ¬ c = 22 by omega, show ¬ c = 23 by omega, show ¬ c = 24 by omega, show ¬ c = 25 by omega, if_false]
        rw [e]
        exact k_none hL2 hi hI hY g g0 g1 g2 g3 g4
    · exact law_end hL2 (by omega) hi
end
