/-! all anew: kept -/
section
variable {A B : Nat → Nat → Int}
theorem clrW_ne : ∀ (n w : Nat) (A : Nat → Nat → Int) {a : Nat}, (∀ v, w ≤ v → v < w + n → a ≠ wO v ∧ a ≠ wL v ∧ a ≠ wC v ∧ a ≠ wN v) → ∀ b, clrW n w A a b = A a b := by
  intro n
  induction n with
  | zero => exact fun w A a _ b => rfl
  | succ n ih =>
    intro w A a h b
    rw [clrW, ih (w + 1) _ (fun v h1 h2 => h v (by omega) (by omega))]
    obtain ⟨h1, h2, h3, h4⟩ := h w (by omega) (by omega)
    rw [uk_ne h1]
    unfold wclr
    rw [if_neg (fun e => by rcases e.1 with e | e; exact h2 e; exact h3 e), if_neg (fun e => h4 e.1)]
theorem clrW_in : ∀ (n w : Nat) (A : Nat → Nat → Int) (v : Nat), w ≤ v → v < w + n → (∀ j, j < 32 → clrW n w A (wL v) j = (j : Int) ∧ clrW n w A (wC v) j = (j : Int) ∧ clrW n w A (wN v) j = 0) ∧ clrW n w A (wO v) 3 = 0 := by
  intro n
  induction n with
  | zero => exact fun w A v h1 h2 => absurd h2 (by omega)
  | succ n ih =>
    intro w A v h1 h2
    rw [clrW]
    by_cases c : v = w
    · subst c
      refine ⟨fun j hj => ⟨?_, ?_, ?_⟩, ?_⟩
      · rw [clrW_ne _ _ _ (fun u h3 h4 => by unfold wO wL wC wN; omega), uk_ne (by unfold wL wO; omega)]
        unfold wclr
        rw [if_pos ⟨Or.inl rfl, by omega, hj⟩]
      · rw [clrW_ne _ _ _ (fun u h3 h4 => by unfold wO wL wC wN; omega), uk_ne (by unfold wC wO; omega)]
        unfold wclr
        rw [if_pos ⟨Or.inr rfl, by omega, hj⟩]
      · rw [clrW_ne _ _ _ (fun u h3 h4 => by unfold wO wL wC wN; omega), uk_ne (by unfold wN wO; omega)]
        unfold wclr
        rw [if_neg (fun e => by have := e.1; unfold wN wL wC at this; omega), if_pos ⟨rfl, by omega, hj⟩]
      · rw [clrW_ne _ _ _ (fun u h3 h4 => by unfold wO wL wC wN; omega), ue_eq]
    · exact ih (w + 1) _ v (by omega) (by omega)
theorem clrP_ne : ∀ (n k : Nat) (A : Nat → Nat → Int) {a : Nat}, (∀ v, k ≤ v → v < k + n → a ≠ pO v ∧ a ≠ pU v) → ∀ b, clrP n k A a b = A a b := by
  intro n
  induction n with
  | zero => exact fun w A a _ b => rfl
  | succ n ih =>
    intro w A a h b
    rw [clrP, ih (w + 1) _ (fun v h1 h2 => h v (by omega) (by omega))]
    obtain ⟨h1, h2⟩ := h w (by omega) (by omega)
    rw [uk_ne h1]
    unfold fillR
    rw [if_neg h2]
theorem clrP_in : ∀ (n k : Nat) (A : Nat → Nat → Int) (v : Nat), k ≤ v → v < k + n → (∀ j, j < 61 → clrP n k A (pU v) j = 0) ∧ clrP n k A (pO v) 1 = 0 := by
  intro n
  induction n with
  | zero => exact fun w A v h1 h2 => absurd h2 (by omega)
  | succ n ih =>
    intro w A v h1 h2
    rw [clrP]
    by_cases c : v = w
    · subst c
      refine ⟨fun j hj => ?_, ?_⟩
      · rw [clrP_ne _ _ _ (fun u h3 h4 => by unfold pO pU; omega), uk_ne (by unfold pU pO; omega)]
        unfold fillR
        rw [if_pos rfl, if_pos ⟨by omega, hj⟩]
      · rw [clrP_ne _ _ _ (fun u h3 h4 => by unfold pO pU; omega), ue_eq]
    · exact ih (w + 1) _ v (by omega) (by omega)
theorem clrM_ne (A : Nat → Nat → Int) (m : Int) {a : Nat} (h : a ≠ 2 ∧ a ≠ 4 ∧ a ≠ 7 ∧ a ≠ 8 ∧ a ≠ 9 ∧ a ≠ 10 ∧ a ≠ 11 ∧ a ≠ 12 ∧ a ≠ 14 ∧ a ≠ 15) (b : Nat) : clrM A m a b = A a b := by
  obtain ⟨h2, h4, h7, h8, h9, h10, h11, h12, h14, h15⟩ := h
  unfold clrM fillR
  simp [ur, h2, h4, h7, h8, h9, h10, h11, h12, h14, h15]
theorem clrM_in (A : Nat → Nat → Int) (m : Int) : clrM A m 2 9 = m ∧ clrM A m 2 10 = 0 ∧ clrM A m 2 11 = 0 ∧ clrM A m 2 12 = 0 ∧ clrM A m 2 13 = 0 ∧ (∀ s, s < 6 → clrM A m 4 s = -1) ∧ (∀ s, s < 27 → clrM A m 7 s = -1) ∧ (∀ s, s < 27 → clrM A m 8 s = -1) ∧ clrM A m 9 1 = 0 ∧ (∀ j, j < 32 → clrM A m 10 j = (j : Int)) ∧ clrM A m 11 1 = 0 ∧ (∀ j, j < 32 → clrM A m 12 j = (j : Int)) ∧ (∀ s, s < 6 → clrM A m 14 s = 0) ∧ ∀ k, k < 12 → clrM A m 15 k = 0 := by
  unfold clrM fillR
  refine ⟨?_, ?_, ?_, ?_, ?_, fun s hs => ?_, fun s hs => ?_, fun s hs => ?_, ?_, fun s hs => ?_, ?_, fun s hs => ?_, fun s hs => ?_, fun s hs => ?_⟩
  all_goals simp [ur]
  all_goals omega
theorem cntF_id {q : Nat} : ∀ n : Nat, (∀ j, j < n → B q j = (j : Int)) → cntF B q n = 0 := by
  intro n
  induction n with
  | zero => exact fun _ => rfl
  | succ n ih =>
    intro h
    rw [cntF, ih (fun j hj => h j (by omega)), h n (by omega), if_pos rfl]
    rfl
/-- the other side, cleared -/
theorem clr_all (B : Nat → Nat → Int) (m : Int) : (clrF B m 2 9 = m ∧ clrF B m 2 10 = 0 ∧ clrF B m 2 11 = 0 ∧ clrF B m 2 12 = 0 ∧ clrF B m 2 13 = 0 ∧ (∀ s, s < 6 → clrF B m 4 s = -1) ∧ (∀ s, s < 27 → clrF B m 7 s = -1) ∧ (∀ s, s < 27 → clrF B m 8 s = -1) ∧ clrF B m 9 1 = 0 ∧ (∀ j, j < 32 → clrF B m 10 j = (j : Int)) ∧ clrF B m 11 1 = 0 ∧ (∀ j, j < 32 → clrF B m 12 j = (j : Int)) ∧ (∀ s, s < 6 → clrF B m 14 s = 0) ∧ ∀ k, k < 12 → clrF B m 15 k = 0) ∧ (∀ v, v < 8 → (∀ j, j < 32 → clrF B m (wL v) j = (j : Int) ∧ clrF B m (wC v) j = (j : Int) ∧ clrF B m (wN v) j = 0) ∧ clrF B m (wO v) 3 = 0) ∧ (∀ v, v < 12 → (∀ j, j < 61 → clrF B m (pU v) j = 0) ∧ clrF B m (pO v) 1 = 0) ∧ ∀ a b, 72 ≤ a → clrF B m a b = B a b := by
  refine ⟨clrM_in _ m, fun v hv => ?_, fun v hv => ?_, fun a b ha => ?_⟩
  · have h := clrW_in 8 0 B v (by omega) (by omega)
    unfold clrF
    refine ⟨fun j hj => ⟨?_, ?_, ?_⟩, ?_⟩
    · rw [clrM_ne _ _ (by unfold wL; omega), clrP_ne _ _ _ (fun u _ _ => by unfold wL pO pU; omega)]
      exact (h.1 j hj).1
    · rw [clrM_ne _ _ (by unfold wC; omega), clrP_ne _ _ _ (fun u _ _ => by unfold wC pO pU; omega)]
      exact (h.1 j hj).2.1
    · rw [clrM_ne _ _ (by unfold wN; omega), clrP_ne _ _ _ (fun u _ _ => by unfold wN pO pU; omega)]
      exact (h.1 j hj).2.2
    · rw [clrM_ne _ _ (by unfold wO; omega), clrP_ne _ _ _ (fun u _ _ => by unfold wO pO pU; omega)]
      exact h.2
  · have h := clrP_in 12 0 (clrW 8 0 B) v (by omega) (by omega)
    unfold clrF
    refine ⟨fun j hj => ?_, ?_⟩
    · rw [clrM_ne _ _ (by unfold pU; omega)]
      exact h.1 j hj
    · rw [clrM_ne _ _ (by unfold pO; omega)]
      exact h.2
  · unfold clrF
    rw [clrM_ne _ _ (by omega), clrP_ne _ _ _ (fun u _ _ => by unfold pO pU; omega), clrW_ne _ _ _ (fun u _ _ => by unfold wO wL wC wN; omega)]
theorem res_all (A : Nat → Nat → Int) : (∀ w, w < 8 → ∀ j, j < 32 → resF A 200 (32 * w + j) = (j : Int) ∧ resF A 202 (32 * w + j) = 0) ∧ (∀ w, w < 8 → resF A 201 w = 0) ∧ (∀ s, s < 6 → resF A 203 s = -1) ∧ (∀ j, j < 32 → resF A 204 j = (j : Int) ∧ resF A 204 (32 + j) = (j : Int)) ∧ (∀ k, k < 12 → resF A 205 k = 0) ∧ (∀ b, b < 54 → resF A 207 b = -1) ∧ (∀ j, j < 18 → resF A 208 j = 0) ∧ (resF A 199 1 = A 199 1 ∧ resF A 199 7 = 0 ∧ resF A 199 11 = 0 ∧ resF A 199 12 = 0 ∧ resF A 199 16 = 0 ∧ resF A 199 18 = 0 ∧ resF A 199 19 = 0 ∧ resF A 199 0 = A 199 0) ∧ ∀ a b, a < 199 → resF A a b = A a b := by
  unfold resF fillR
  refine ⟨fun w hw j hj => ⟨?_, ?_⟩, fun w hw => ?_, fun s hs => ?_, fun j hj => ⟨?_, ?_⟩, fun k hk => ?_, fun b hb => ?_, fun j hj => ?_, ⟨?_, ?_, ?_, ?_, ?_, ?_, ?_, ?_⟩, fun a b ha => ?_⟩
  · simp [ur]
    rw [if_pos (by omega)]
    omega
  · simp [ur]
    omega
  · simp [ur, hw]
  · simp [ur, hs]
  · simp [ur]
    rw [if_pos (by omega)]
    omega
  · simp [ur]
    rw [if_pos (by omega)]
    omega
  · simp [ur, hk]
  · simp [ur, hb]
  · simp [ur, hj]
  · simp [ur]
  · simp [ur]
  · simp [ur]
  · simp [ur]
  · simp [ur]
  · simp [ur]
  · simp [ur]
  · simp [ur]
  · simp [ur, show a ≠ 199 by omega, show a ≠ 200 by omega, show a ≠ 201 by omega, show a ≠ 202 by omega, show a ≠ 203 by omega, show a ≠ 204 by omega, show a ≠ 205 by omega, show a ≠ 207 by omega, show a ≠ 208 by omega]
/-- both cleared -/
theorem rl_clear {A' : Nat → Nat → Int} {m : Int} (hm : m = 10 ∨ m = 26 ∨ m = 32) (hA : A' 199 1 = m) (hN : 0 ≤ B 72 1 ∧ B 72 1 < 40) (hV : ∀ j, j < 40 → 0 ≤ B 73 j ∧ B 73 j < 64) (hO : B 74 2 = 0) : RL (resF A') (u2 (u2 (clrF B m) 72 2 0) 74 1 0) := by
  obtain ⟨⟨c1, c2, c3, c4, c5, c6, c7, c8, c9, c10, c11, c12, c13, c14⟩, cw, cp, ce⟩ := clr_all B m
  obtain ⟨r1, r2, r3, r4, r5, r6, r7, ⟨s1, s2, s3, s4, s5, s6, s7, s8⟩, re⟩ := res_all A'
  have eB : ∀ a b, a < 72 → u2 (u2 (clrF B m) 72 2 0) 74 1 0 a b = clrF B m a b := fun a b ha => by rw [uk_ne (by omega), uk_ne (by omega)]
  have e29 : u2 (u2 (clrF B m) 72 2 0) 74 1 0 2 9 = m := by rw [eB _ _ (by omega), c1]
  have eW : ∀ v, v < 8 → (∀ j, j < 32 → u2 (u2 (clrF B m) 72 2 0) 74 1 0 (wL v) j = (j : Int) ∧ u2 (u2 (clrF B m) 72 2 0) 74 1 0 (wC v) j = (j : Int) ∧ u2 (u2 (clrF B m) 72 2 0) 74 1 0 (wN v) j = 0) ∧ u2 (u2 (clrF B m) 72 2 0) 74 1 0 (wO v) 3 = 0 := by
    intro v hv
    refine ⟨fun j hj => ?_, ?_⟩
    · rw [eB _ _ (by unfold wL; omega), eB _ _ (by unfold wC; omega), eB _ _ (by unfold wN; omega)]
      exact (cw v hv).1 j hj
    · rw [eB _ _ (by unfold wO; omega)]
      exact (cw v hv).2
  have eP : ∀ v, v < 12 → (∀ j, j < 61 → u2 (u2 (clrF B m) 72 2 0) 74 1 0 (pU v) j = 0) ∧ u2 (u2 (clrF B m) 72 2 0) 74 1 0 (pO v) 1 = 0 := by
    intro v hv
    refine ⟨fun j hj => ?_, ?_⟩
    · rw [eB _ _ (by unfold pU; omega)]
      exact (cp v hv).1 j hj
    · rw [eB _ _ (by unfold pO; omega)]
      exact (cp v hv).2
  have e74 : u2 (u2 (clrF B m) 72 2 0) 74 1 0 74 1 = 0 := ue_eq _ _ _
  have e742 : u2 (u2 (clrF B m) 72 2 0) 74 1 0 74 2 = 0 := by rw [uj_ne (by omega), uk_ne (by omega), ce _ _ (by omega), hO]
  have e722 : u2 (u2 (clrF B m) 72 2 0) 74 1 0 72 2 = 0 := by rw [uk_ne (by omega), ue_eq]
  have g2 : ∀ j, j < 6 → u2 (u2 (clrF B m) 72 2 0) 74 1 0 4 j = -1 := fun j hj => by rw [eB _ _ (by omega), c6 j hj]
  generalize hB : u2 (u2 (clrF B m) 72 2 0) 74 1 0 = X at *
  have e7 : ∀ b, b < 27 → X 7 b = -1 := fun b hb => by rw [eB _ _ (by omega), c7 b hb]
  have e8 : ∀ b, b < 27 → X 8 b = -1 := fun b hb => by rw [eB _ _ (by omega), c8 b hb]
  have e10 : ∀ b, b < 32 → X 10 b = (b : Int) := fun b hb => by rw [eB _ _ (by omega), c10 b hb]
  have e12 : ∀ b, b < 32 → X 12 b = (b : Int) := fun b hb => by rw [eB _ _ (by omega), c12 b hb]
  have e14 : ∀ b, b < 6 → X 14 b = 0 := fun b hb => by rw [eB _ _ (by omega), c13 b hb]
  have e15 : ∀ b, b < 12 → X 15 b = 0 := fun b hb => by rw [eB _ _ (by omega), c14 b hb]
  have x72 : X 72 1 = B 72 1 := by rw [← hB, uk_ne (by omega), uj_ne (by omega), ce _ _ (by omega)]
  have x73 : ∀ j, X 73 j = B 73 j := fun j => by rw [← hB, uk_ne (by omega), uk_ne (by omega), ce _ _ (by omega)]
  refine ⟨⟨⟨?_, fun w hw j hj => ?_, fun w hw j hj => ?_, fun w hw => ?_, fun w hw j hj => ?_, fun s hs => ?_, ⟨0, ?_, fun s hs => ?_, ?_, fun i hi => ?_⟩, fun j hj => ?_, fun j hj => ?_, ?_, ?_, ?_, fun k hk => ?_, fun k hk j hj => ?_, fun b hb => ?_, ?_, ?_⟩, ⟨fun s hs => ?_, fun k hk => ?_⟩, ⟨?_, ?_, fun j hj => ?_⟩, ⟨?_, ?_, ?_, fun i hi => ?_, fun i hi => ?_, fun i hi => ?_⟩⟩, ⟨?_, fun w hw j hj => ?_, fun w hw => ?_, fun w hw j hj => ?_, fun s hs => ?_, fun j hj => ?_, fun j hj => ?_, ?_, fun k hk => ?_, fun k hk j hj => ?_, fun b hb => ?_, ?_, ?_⟩, ⟨fun s hs => ?_, fun k hk => ?_⟩, RU.zero s5 e722, ⟨?_, ?_, fun i hi => ?_, fun i hi => ?_, fun i hi => ?_, fun i hi => ?_⟩⟩
  · rw [e29]; exact hm
  · rw [e29] at hj ⊢
    have := (eW w hw).1 j (by omega)
    rw [this.1, Int.toNat_natCast, this.2.1]
    exact ⟨by omega, hj, rfl⟩
  · rw [e29] at hj ⊢
    have := (eW w hw).1 j (by omega)
    rw [this.2.1, Int.toNat_natCast, this.1]
    exact ⟨by omega, hj, rfl⟩
  · rw [e29, (eW w hw).2]
    exact ⟨by omega, by omega⟩
  · exact Or.inl ((eW w hw).1 j hj).2.2
  · rw [g2 s hs]
    exact ⟨by omega, by omega⟩
  · omega
  · rw [g2 s hs]
    simp
  · rw [eB _ _ (by omega), c2]
    rfl
  · exact absurd hi (by have : (ordM 0).length = 0 := by decide
                        omega)
  · rw [e29] at hj ⊢
    rw [e10 j (by omega), Int.toNat_natCast, e10 j (by omega)]
    exact ⟨by omega, hj, rfl⟩
  · rw [e29] at hj ⊢
    rw [e12 j (by omega), Int.toNat_natCast, e12 j (by omega)]
    exact ⟨by omega, hj, rfl⟩
  · rw [e29, cntF_id _ (fun j hj => e10 j (by omega)), eB _ _ (by omega), c9]
    rfl
  · rw [e29, cntF_id _ (fun j hj => e12 j (by omega)), eB _ _ (by omega), c11]
    rfl
  · rw [eB _ _ (by omega), c5]
    exact Or.inl rfl
  · rw [(eP k hk).2]
    exact ⟨by omega, by omega⟩
  · exact Or.inl ((eP k hk).1 j hj)
  · rw [e7 b hb, e8 b hb]
    exact ⟨by omega, by omega, by omega, by omega⟩
  · rw [eB _ _ (by omega), c3]
    exact ⟨by omega, by omega⟩
  · rw [eB _ _ (by omega), c4]
    exact ⟨by omega, by omega⟩
  · rw [e14 s hs, e29]
    exact ⟨by omega, by omega⟩
  · rw [e15 k hk, (eP k hk).2]
    exact ⟨by omega, fun e => e, fun _ => rfl⟩
  · rw [x72]; exact hN
  · rw [e722]
    exact ⟨by omega, by omega⟩
  · rw [x73]; exact hV j hj
  · rw [e74]
    exact ⟨by omega, by omega⟩
  · exact Or.inl e742
  · exact fun e => absurd e742 e
  · rw [e74] at hi; omega
  · rw [e74] at hi; omega
  · rw [e74] at hi; omega
  · rw [s1, hA, e29]
  · rw [(r1 w hw j hj).1, ((eW w hw).1 j hj).1]
  · rw [r2 w hw, (eW w hw).2]
  · rw [(r1 w hw j hj).2, ((eW w hw).1 j hj).2.2]
  · rw [r3 s hs, g2 s hs]
  · rw [(r4 j hj).1, e10 j hj]
  · rw [(r4 j hj).2, e12 j hj]
  · rw [s2, eB _ _ (by omega), c5]
  · rw [r5 k hk, (eP k hk).2]
  · rw [(eP k hk).2] at hj; omega
  · rw [r6 _ (by omega), r6 _ (by omega), e7 b hb, e8 b hb]
    exact ⟨rfl, rfl⟩
  · rw [s3, eB _ _ (by omega), c3]
  · rw [s4, eB _ _ (by omega), c4]
  · rw [r7 s (by omega), e14 s hs]
  · rw [r7 _ (by omega), e15 k hk]
  · rw [s6, e74]
  · rw [s7, e742]
  · rw [e74] at hi; omega
  · rw [e74] at hi; omega
  · rw [e74] at hi; omega
  · rw [e74] at hi; omega
end
