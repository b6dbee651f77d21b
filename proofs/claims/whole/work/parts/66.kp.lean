/-! steps and messages: kept -/
section
variable {A A' B B' : Nat → Nat → Int}
theorem keyS_1 (A : Nat → Nat → Int) : keyS A 72 1 = rd (A 72 1 + 1) 40 := by
  unfold keyS addF
  rw [uj_ne (by omega), ue_eq, stF_ne _ (by omega) (by omega)]
theorem keyS_2 (A : Nat → Nat → Int) : keyS A 72 2 = if A 72 2 = 40 then 40 else A 72 2 + 1 := by
  unfold keyS addF
  rw [ue_eq, stF_ne _ (by omega) (by omega)]
theorem keyS_3 (A : Nat → Nat → Int) (j : Nat) : keyS A 73 j = if j = (A 72 1).toNat then ((bitsF A : Nat) : Int) else A 73 j := by
  unfold keyS addF
  rw [uk_ne (by omega), uk_ne (by omega), stF_ne A (by omega) (by omega)]
  by_cases c : j = (A 72 1).toNat
  · rw [if_pos c, ← c, ue_eq]
  · rw [if_neg c, uj_ne c, stF_ne _ (by omega) (by omega)]
theorem unS_k (B : Nat → Nat → Int) : ∀ d : Nat, unS B d 2 9 = B 2 9 ∧ ∀ k, unS B d (pO k) 1 = B (pO k) 1 := by
  intro d
  induction d with
  | zero => exact ⟨rfl, fun k => rfl⟩
  | succ d ih =>
    refine ⟨?_, fun k => ?_⟩
    · rw [unS, moveF_ne _ _ _ (by omega) (by omega)]
      exact ih.1
    · rw [unS, moveF_ne _ _ _ (by unfold pO; omega) (by unfold pO; omega)]
      exact ih.2 k
theorem rd_1 {y m : Int} (y0 : 0 ≤ y) (y1 : y < m) : rd (rd (y + 1) m + -1) m = y := by
  unfold rd
  repeat' split
  all_goals omega
theorem unS_s (B : Nat → Nat → Int) (d : Nat) : unS B (d + 1) = moveF (-1) (B 73 ((B 72 1 - 1 - (d : Int)) % 40).toNat).toNat (unS B d) := rfl
/-- one more step: what is undone is one further off -/
theorem unS_ks (h : CO B) : ∀ d : Nat, d < 40 → (∀ s, s < 6 → unS (keyS B) (d + 1) 14 s = unS B d 14 s) ∧ ∀ k, k < 12 → unS (keyS B) (d + 1) 15 k = unS B d 15 k := by
  have hN := h.U.nx
  have hm := h.m
  intro d
  induction d with
  | zero =>
    intro _
    have e1 : ((keyS B 72 1 - 1 - ((0 : Nat) : Int)) % 40).toNat = (B 72 1).toNat := by
      rw [keyS_1]
      unfold rd
      split
      · omega
      · split <;> omega
    have e2 : (keyS B 73 ((keyS B 72 1 - 1 - ((0 : Nat) : Int)) % 40).toNat).toNat = bitsF B := by
      rw [e1, keyS_3, if_pos rfl, Int.toNat_natCast]
    have k9 : keyS B 2 9 = B 2 9 := keyS_ne B (by omega) 9
    have kp : ∀ k, k < 12 → keyS B (pO k) 1 = B (pO k) 1 := fun k hk => keyS_ne B (by unfold pO; omega) 1
    have k4 : ∀ b, keyS B 14 b = stF B 14 b := fun b => addF_ne _ _ (by omega) (by omega) b
    have k5 : ∀ b, keyS B 15 b = stF B 15 b := fun b => addF_ne _ _ (by omega) (by omega) b
    refine ⟨fun s hs => ?_, fun k hk => ?_⟩
    · have p := h.P.pos s hs
      show moveF (-1) (keyS B 73 ((keyS B 72 1 - 1 - ((0 : Nat) : Int)) % 40).toNat).toNat (keyS B) 14 s = B 14 s
      rw [e2, moveF_14, k9, k4]
      unfold stF
      rw [moveF_14]
      by_cases c : s < 6 ∧ (bitsF B).testBit s = true
      · rw [if_pos c, if_pos c]
        exact rd_1 p.1 p.2
      · rw [if_neg c, if_neg c]
    · have p := h.P.pl k hk
      show moveF (-1) (keyS B 73 ((keyS B 72 1 - 1 - ((0 : Nat) : Int)) % 40).toNat).toNat (keyS B) 15 k = B 15 k
      rw [e2, moveF_15, kp k hk, k5]
      unfold stF
      rw [moveF_15]
      by_cases c : k < 12 ∧ 0 < B (pO k) 1
      · rw [if_pos c, if_pos c]
        have := p.2.1 c.2
        exact rd_1 p.1 this
      · rw [if_neg c, if_neg c]
  | succ d ih =>
    intro hd
    obtain ⟨i1, i2⟩ := ih (by omega)
    have e1 : ((keyS B 72 1 - 1 - ((d + 1 : Nat) : Int)) % 40).toNat = ((B 72 1 - 1 - (d : Int)) % 40).toNat := by
      rw [keyS_1]
      unfold rd
      split
      · omega
      · split <;> omega
    have e2 : keyS B 73 ((keyS B 72 1 - 1 - ((d + 1 : Nat) : Int)) % 40).toNat = B 73 ((B 72 1 - 1 - (d : Int)) % 40).toNat := by
      rw [e1, keyS_3, if_neg (by omega)]
    have k9 : keyS B 2 9 = B 2 9 := keyS_ne B (by omega) 9
    have kp : ∀ k, k < 12 → keyS B (pO k) 1 = B (pO k) 1 := fun k hk => keyS_ne B (by unfold pO; omega) 1
    have u1 := unS_k (keyS B) (d + 1)
    have u2 := unS_k B d
    refine ⟨fun s hs => ?_, fun k hk => ?_⟩
    · rw [unS_s (keyS B) (d + 1), unS_s B d, moveF_14, moveF_14, i1 s hs, u1.1, u2.1, k9, e2]
    · rw [unS_s (keyS B) (d + 1), unS_s B d, moveF_15, moveF_15, i2 k hk, u1.2 k, u2.2 k, kp k hk]
theorem goA_16 (h : RL A B) : goA A B 199 16 = if B 72 2 = 40 then 40 else B 72 2 + 1 := by
  have o1 := h.O.U.un
  unfold goA gow
  by_cases c : B 72 2 = 40
  · rw [if_pos c, if_pos c, ue_eq]
    rfl
  · rw [if_neg c, if_neg c, ue_eq]
    omega
/-- the old rows: the newest is the stand, the others as before -/
theorem goA_row (h : RL A B) {d j : Nat} (hd : (d : Int) < if B 72 2 = 40 then 40 else B 72 2 + 1) (hj : j < 18) : goA A B 211 (18 * ((if B 72 2 = 40 then 40 else B 72 2 + 1 : Int).toNat - 1 - d) + j) = if d = 0 then A 208 j else A 211 (18 * ((B 72 2).toNat - 1 - (d - 1)) + j) := by
  have o1 := h.O.U.un
  unfold goA gow gos fillR
  by_cases c : B 72 2 = 40
  · rw [if_pos c] at hd ⊢
    rw [if_pos c, uk_ne (by omega), if_pos rfl]
    by_cases c0 : d = 0
    · rw [if_pos c0, if_pos (by omega)]
      show A 208 (18 * ((40 : Int).toNat - 1 - d) + j - 18 * 39) = A 208 j
      rw [show 18 * ((40 : Int).toNat - 1 - d) + j - 18 * 39 = j by omega]
    · rw [if_neg c0, if_neg (by omega), uk_ne (by omega), if_pos rfl, if_pos (by omega)]
      show A 211 (18 * ((40 : Int).toNat - 1 - d) + j + 18) = A 211 (18 * ((B 72 2).toNat - 1 - (d - 1)) + j)
      rw [show 18 * ((40 : Int).toNat - 1 - d) + j + 18 = 18 * ((B 72 2).toNat - 1 - (d - 1)) + j by omega]
  · rw [if_neg c] at hd ⊢
    rw [if_neg c, uk_ne (by omega), if_pos rfl]
    by_cases c0 : d = 0
    · rw [if_pos c0, if_pos (by omega)]
      show A 208 (18 * ((B 72 2 + 1).toNat - 1 - d) + j - 18 * (B 72 2).toNat) = A 208 j
      rw [show 18 * ((B 72 2 + 1).toNat - 1 - d) + j - 18 * (B 72 2).toNat = j by omega]
    · rw [if_neg c0, if_neg (by omega), show 18 * ((B 72 2 + 1).toNat - 1 - d) + j = 18 * ((B 72 2).toNat - 1 - (d - 1)) + j by omega]
theorem rl_step (h : RL A B) : RL (stR (goA A B) B 0) (keyS B) := by
  have w := RW.ks h
  have o1 := h.O.U.un
  have eA : ∀ a b, a ≠ 208 → a ≠ 210 → a ≠ 211 → (a = 199 → b ≠ 16) → stR (goA A B) B 0 a b = A a b := by
    intro a b h1 h2 h3 h4
    rw [stR_ne _ _ _ h1 h2]
    by_cases c : a = 199
    · subst c
      exact goA_9 A B (h4 rfl)
    · exact goA_ne A B c h3 b
  refine ⟨h.O.ks, w.R, w.P, ⟨?_, fun d hd => ?_⟩, (h.G.cg (fun b hb => eA _ _ (by omega) (by omega) (by omega) (by omega)) (fun a b h1 h2 => eA _ _ (by omega) (by omega) (by omega) (by omega))).cgB h.O.G.ms.2 (fun a b h1 h2 => keyS_ne B (by omega) b)⟩
  · rw [stR_ne _ _ _ (by omega) (by omega), goA_16 h, keyS_2]
  · rw [keyS_2] at hd ⊢
    have hd40 : d < 40 := by
      split at hd <;> omega
    obtain ⟨u1, u2⟩ := unS_ks h.O d hd40
    refine ⟨fun s hs => ?_, fun k hk => ?_⟩
    · rw [u1 s hs, stR_ne _ _ _ (by omega) (by omega), goA_row h hd (by omega)]
      by_cases c0 : d = 0
      · subst c0
        rw [if_pos rfl]
        exact h.P.pos s hs
      · obtain ⟨e, rfl⟩ : ∃ e, d = e + 1 := ⟨d - 1, by omega⟩
        rw [if_neg c0]
        exact (h.U.ol e (by split at hd <;> omega)).1 s hs
    · rw [u2 k hk, stR_ne _ _ _ (by omega) (by omega), goA_row h hd (by omega)]
      by_cases c0 : d = 0
      · subst c0
        rw [if_pos rfl]
        exact h.P.pl k hk
      · obtain ⟨e, rfl⟩ : ∃ e, d = e + 1 := ⟨d - 1, by omega⟩
        rw [if_neg c0]
        exact (h.U.ol e (by split at hd <;> omega)).2 k hk
/-- the undone step -/
theorem undF_ne (B : Nat → Nat → Int) {a : Nat} (h : a ≠ 14 ∧ a ≠ 15 ∧ a ≠ 72) (b : Nat) : undF B a b = B a b := by
  unfold undF
  rw [moveF_ne _ _ _ h.1 h.2.1, uk_ne h.2.2, uk_ne h.2.2]
theorem rd40 {N : Int} (h : 0 ≤ N ∧ N < 40) : rd (N - 1) 40 = (N - 1) % 40 := by
  unfold rd
  split
  · omega
  · split <;> omega
theorem unS_un (h : CO B) : ∀ d : Nat, (∀ s, s < 6 → unS (undF B) d 14 s = unS B (d + 1) 14 s) ∧ ∀ k, k < 12 → unS (undF B) d 15 k = unS B (d + 1) 15 k := by
  have hN := h.U.nx
  have r := rd40 hN
  have f1 : undF B 72 1 = (B 72 1 - 1) % 40 := by
    unfold undF
    rw [moveF_ne _ _ _ (by omega) (by omega), uj_ne (by omega), ue_eq, r]
  intro d
  induction d with
  | zero =>
    have e : ∀ s, unS B 1 14 s = moveF (-1) (B 73 ((B 72 1 - 1) % 40).toNat).toNat B 14 s := fun s => by
      rw [unS]
      show moveF (-1) (B 73 ((B 72 1 - 1 - ((0 : Nat) : Int)) % 40).toNat).toNat B 14 s = _
      rw [show B 72 1 - 1 - ((0 : Nat) : Int) = B 72 1 - 1 by omega]
    have e' : ∀ s, unS B 1 15 s = moveF (-1) (B 73 ((B 72 1 - 1) % 40).toNat).toNat B 15 s := fun s => by
      rw [unS]
      show moveF (-1) (B 73 ((B 72 1 - 1 - ((0 : Nat) : Int)) % 40).toNat).toNat B 15 s = _
      rw [show B 72 1 - 1 - ((0 : Nat) : Int) = B 72 1 - 1 by omega]
    refine ⟨fun s hs => ?_, fun k hk => ?_⟩
    · rw [e]
      show undF B 14 s = _
      unfold undF
      rw [r, moveF_14, moveF_14]
      simp only [uk_ne (show 14 ≠ 72 by omega), uk_ne (show 2 ≠ 72 by omega)]
    · rw [e']
      show undF B 15 k = _
      unfold undF
      rw [r, moveF_15, moveF_15]
      simp only [uk_ne (show 15 ≠ 72 by omega), uk_ne (show pO k ≠ 72 by unfold pO; omega)]
  | succ d ih =>
    obtain ⟨i1, i2⟩ := ih
    have e1 : ((undF B 72 1 - 1 - (d : Int)) % 40).toNat = ((B 72 1 - 1 - ((d + 1 : Nat) : Int)) % 40).toNat := by
      rw [f1]
      omega
    have e3 : ∀ j, undF B 73 j = B 73 j := fun j => undF_ne B (by omega) j
    have v1 := unS_k (undF B) d
    have v2 := unS_k B (d + 1)
    have k9 : undF B 2 9 = B 2 9 := undF_ne B (by omega) 9
    have kp : ∀ k, k < 12 → undF B (pO k) 1 = B (pO k) 1 := fun k hk => undF_ne B (by unfold pO; omega) 1
    refine ⟨fun s hs => ?_, fun k hk => ?_⟩
    · rw [unS_s (undF B) d, unS_s B (d + 1), moveF_14, moveF_14, i1 s hs, v1.1, v2.1, k9, e1, e3]
    · rw [unS_s (undF B) d, unS_s B (d + 1), moveF_15, moveF_15, i2 k hk, v1.2 k, v2.2 k, kp k hk]
theorem CO.un (h : CO B) (h0 : B 72 2 ≠ 0) : CO (undF B) := by
  have hN := h.U.nx
  have hU := h.U.un
  unfold undF
  refine CO.move ⟨h.M.cg (fun a b h1 _ _ => by rw [uk_ne (by omega), uk_ne (by omega)]), h.P.cg (by rw [uk_ne (by omega), uk_ne (by omega)]) (fun k hk => by rw [uk_ne (by unfold pO; omega), uk_ne (by unfold pO; omega)]) (fun b _ => by rw [uk_ne (by omega), uk_ne (by omega)]) (fun b _ => by rw [uk_ne (by omega), uk_ne (by omega)]), ⟨?_, ?_, fun j hj => ?_⟩, h.G.cg (by rw [uk_ne (by omega), uk_ne (by omega)]) (fun a b h1 h2 => by rw [uk_ne (by omega), uk_ne (by omega)])⟩ (Or.inr rfl) _
  · rw [uj_ne (by omega), ue_eq]
    exact rd_in (by omega) (by omega)
  · rw [ue_eq]
    exact ⟨by omega, by omega⟩
  · rw [uk_ne (by omega), uk_ne (by omega)]
    exact h.U.mv j hj
theorem rl_undo (h : RL A B) (h0 : B 72 2 ≠ 0) : RL (fillR (u2 (u2 A 199 0 0) 199 16 (B 72 2 - 1)) 208 0 18 (fun j => A 211 (18 * ((B 72 2).toNat - 1) + j))) (undF B) := by
  have hU := h.O.U.un
  have f2 : undF B 72 2 = B 72 2 - 1 := by
    unfold undF
    rw [moveF_ne _ _ _ (by omega) (by omega), ue_eq]
  have eA : ∀ a b, a ≠ 208 → (a = 199 → b ≠ 0 ∧ b ≠ 16) → fillR (u2 (u2 A 199 0 0) 199 16 (B 72 2 - 1)) 208 0 18 (fun j => A 211 (18 * ((B 72 2).toNat - 1) + j)) a b = A a b := by
    intro a b h1 h2
    unfold fillR
    rw [if_neg h1]
    by_cases c : a = 199
    · subst c
      rw [uj_ne (h2 rfl).2, uj_ne (h2 rfl).1]
    · rw [uk_ne c, uk_ne c]
  have e8 : ∀ j, j < 18 → fillR (u2 (u2 A 199 0 0) 199 16 (B 72 2 - 1)) 208 0 18 (fun j => A 211 (18 * ((B 72 2).toNat - 1) + j)) 208 j = A 211 (18 * ((B 72 2).toNat - 1) + j) := by
    intro j hj
    unfold fillR
    rw [if_pos rfl, if_pos ⟨by omega, hj⟩]
  have k0 := unS_un h.O 0
  have o0 := h.U.ol 0 (by omega)
  rw [show (B 72 2).toNat - 1 - 0 = (B 72 2).toNat - 1 by omega] at o0
  refine ⟨h.O.un h0, (h.R.cg (fun b hb => eA _ _ (by omega) (by omega)) (fun a b h1 h2 => eA _ _ (by omega) (by omega))).cgB (fun a b h1 h2 h3 => undF_ne B (by omega) b), ⟨fun s hs => ?_, fun k hk => ?_⟩, ⟨?_, fun d hd => ?_⟩, (h.G.cg (fun b hb => eA _ _ (by omega) (by omega)) (fun a b h1 h2 => eA _ _ (by omega) (by omega))).cgB h.O.G.ms.2 (fun a b h1 h2 => undF_ne B (by omega) b)⟩
  · rw [e8 s (by omega), o0.1 s hs]
    exact (k0.1 s hs).symm
  · rw [e8 _ (by omega), o0.2 k hk]
    exact (k0.2 k hk).symm
  · unfold fillR
    rw [if_neg (by omega), ue_eq, f2]
  · rw [f2] at hd ⊢
    have kd := unS_un h.O (d + 1)
    have od := h.U.ol (d + 1) (by omega)
    rw [show (B 72 2 - 1).toNat - 1 - d = (B 72 2).toNat - 1 - (d + 1) by omega]
    refine ⟨fun s hs => ?_, fun k hk => ?_⟩
    · rw [eA _ _ (by omega) (by omega), kd.1 s hs]
      exact od.1 s hs
    · rw [eA _ _ (by omega) (by omega), kd.2 k hk]
      exact od.2 k hk
end
