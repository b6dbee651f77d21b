/-! the whole relation -/
def unS (B : Nat → Nat → Int) : Nat → Nat → Nat → Int
  | 0 => B
  | d + 1 => moveF (-1) (B 73 ((B 72 1 - 1 - d) % 40).toNat).toNat (unS B d)
abbrev RU (A B : Nat → Nat → Int) : Prop := (A 199 16 = B 72 2) ∧ (∀ d : Nat, (d : Int) < B 72 2 → (∀ s, s < 6 → A 211 (18 * ((B 72 2).toNat - 1 - d) + s) = unS B (d + 1) 14 s) ∧ ∀ k, k < 12 → A 211 (18 * ((B 72 2).toNat - 1 - d) + (6 + k)) = unS B (d + 1) 15 k)
theorem RU.un {A B : Nat → Nat → Int} (h : RU A B) : A 199 16 = B 72 2 := h.1
theorem RU.ol {A B : Nat → Nat → Int} (h : RU A B) : ∀ d : Nat, (d : Int) < B 72 2 → (∀ s, s < 6 → A 211 (18 * ((B 72 2).toNat - 1 - d) + s) = unS B (d + 1) 14 s) ∧ ∀ k, k < 12 → A 211 (18 * ((B 72 2).toNat - 1 - d) + (6 + k)) = unS B (d + 1) 15 k := h.2
abbrev RG (A B : Nat → Nat → Int) : Prop := (A 199 18 = B 74 1) ∧ (A 199 19 = B 74 2) ∧ (∀ i : Nat, (i : Int) < B 74 1 → A 212 i = B (gO i) 3) ∧ (∀ i : Nat, (i : Int) < B 74 1 → ∀ s, s < 6 → A 213 (18 * i + s) = B (gP i) s) ∧ (∀ i : Nat, (i : Int) < B 74 1 → ∀ k, k < 12 → A 213 (18 * i + (6 + k)) = B (gQ i) k) ∧ (∀ i : Nat, (i : Int) < B 74 1 → ∀ j : Nat, (j : Int) < B (gO i) 3 → A 214 (60 * i + j) = B (gK i) j ∧ A 215 (60 * i + j) = B (gC i) j)
theorem RG.ms {A B : Nat → Nat → Int} (h : RG A B) : A 199 18 = B 74 1 := h.1
theorem RG.op {A B : Nat → Nat → Int} (h : RG A B) : A 199 19 = B 74 2 := h.2.1
theorem RG.sg {A B : Nat → Nat → Int} (h : RG A B) : ∀ i : Nat, (i : Int) < B 74 1 → A 212 i = B (gO i) 3 := h.2.2.1
theorem RG.bp {A B : Nat → Nat → Int} (h : RG A B) : ∀ i : Nat, (i : Int) < B 74 1 → ∀ s, s < 6 → A 213 (18 * i + s) = B (gP i) s := h.2.2.2.1
theorem RG.bq {A B : Nat → Nat → Int} (h : RG A B) : ∀ i : Nat, (i : Int) < B 74 1 → ∀ k, k < 12 → A 213 (18 * i + (6 + k)) = B (gQ i) k := h.2.2.2.2.1
theorem RG.ky {A B : Nat → Nat → Int} (h : RG A B) : ∀ i : Nat, (i : Int) < B 74 1 → ∀ j : Nat, (j : Int) < B (gO i) 3 → A 214 (60 * i + j) = B (gK i) j ∧ A 215 (60 * i + j) = B (gC i) j := h.2.2.2.2.2
abbrev RL (A B : Nat → Nat → Int) : Prop := (CO B) ∧ (RMa A B) ∧ (RP A B) ∧ (RU A B) ∧ (RG A B)
theorem RL.O {A B : Nat → Nat → Int} (h : RL A B) : CO B := h.1
theorem RL.R {A B : Nat → Nat → Int} (h : RL A B) : RMa A B := h.2.1
theorem RL.P {A B : Nat → Nat → Int} (h : RL A B) : RP A B := h.2.2.1
theorem RL.U {A B : Nat → Nat → Int} (h : RL A B) : RU A B := h.2.2.2.1
theorem RL.G {A B : Nat → Nat → Int} (h : RL A B) : RG A B := h.2.2.2.2
section
variable {A A' B B' : Nat → Nat → Int}
theorem moveF_14 (v : Int) (c : Nat) (A : Nat → Nat → Int) (s : Nat) : moveF v c A 14 s = if s < 6 ∧ c.testBit s = true then rd (A 14 s + v) (A 2 9) else A 14 s := by
  rw [moveF_c, if_neg (by omega)]
  by_cases h : s < 6 ∧ c.testBit s = true
  · rw [if_pos h, if_pos ⟨rfl, h⟩]
  · rw [if_neg h, if_neg (fun e => h e.2)]
theorem moveF_15 (v : Int) (c : Nat) (A : Nat → Nat → Int) (k : Nat) : moveF v c A 15 k = if k < 12 ∧ 0 < A (pO k) 1 then rd (A 15 k + v) (A (pO k) 1) else A 15 k := by
  rw [moveF_c]
  by_cases h : k < 12 ∧ 0 < A (pO k) 1
  · rw [if_pos h, if_pos ⟨rfl, h⟩]
  · rw [if_neg h, if_neg (fun e => h e.2), if_neg (by omega)]
theorem RL.w (h : RL A B) : RW A B := ⟨h.R, h.P, h.O.M, h.O.P⟩
theorem unS_cg (e2 : B' 2 9 = B 2 9) (ep : ∀ k, k < 12 → B' (pO k) 1 = B (pO k) 1) (e14 : ∀ b, b < 6 → B' 14 b = B 14 b) (e15 : ∀ b, b < 12 → B' 15 b = B 15 b) (e7 : B' 72 1 = B 72 1) (e3 : ∀ b, B' 73 b = B 73 b) : ∀ d : Nat, (∀ s, s < 6 → unS B' d 14 s = unS B d 14 s) ∧ (∀ k, k < 12 → unS B' d 15 k = unS B d 15 k) ∧ unS B' d 2 9 = B 2 9 ∧ unS B d 2 9 = B 2 9 ∧ (∀ k, k < 12 → unS B' d (pO k) 1 = B (pO k) 1) ∧ ∀ k, k < 12 → unS B d (pO k) 1 = B (pO k) 1 := by
  intro d
  induction d with
  | zero => exact ⟨e14, e15, e2, rfl, ep, fun k _ => rfl⟩
  | succ d ih =>
    obtain ⟨i1, i2, i3, i4, i5, i6⟩ := ih
    have n2 : ∀ (X : Nat → Nat → Int) (c : Nat), moveF (-1) c X 2 9 = X 2 9 := fun X c => moveF_ne _ _ _ (by omega) (by omega) _
    have np : ∀ (X : Nat → Nat → Int) (c k : Nat), moveF (-1) c X (pO k) 1 = X (pO k) 1 := fun X c k => moveF_ne _ _ _ (by unfold pO; omega) (by unfold pO; omega) _
    refine ⟨fun s hs => ?_, fun k hk => ?_, ?_, ?_, fun k hk => ?_, fun k hk => ?_⟩
    · rw [unS, unS, moveF_14, moveF_14, i1 s hs, i3, i4, e7, e3]
    · rw [unS, unS, moveF_15, moveF_15, i5 k hk, i6 k hk, i2 k hk]
    · rw [unS, n2, i3]
    · rw [unS, n2, i4]
    · rw [unS, np, i5 k hk]
    · rw [unS, np, i6 k hk]
theorem RU.cg (h : RU A B) (e6 : A' 199 16 = A 199 16) (e : ∀ b, A' 211 b = A 211 b) : RU A' B := by
  refine ⟨?_, fun d hd => ⟨fun s hs => ?_, fun k hk => ?_⟩⟩
  · rw [e6]; exact h.un
  · rw [e]; exact (h.ol d hd).1 s hs
  · rw [e]; exact (h.ol d hd).2 k hk
theorem RU.cgB (h : RU A B) (e2 : B' 2 9 = B 2 9) (ep : ∀ k, k < 12 → B' (pO k) 1 = B (pO k) 1) (e14 : ∀ b, b < 6 → B' 14 b = B 14 b) (e15 : ∀ b, b < 12 → B' 15 b = B 15 b) (e7 : ∀ b, B' 72 b = B 72 b) (e3 : ∀ b, B' 73 b = B 73 b) : RU A B' := by
  have u := unS_cg e2 ep e14 e15 (e7 1) e3
  refine ⟨?_, fun d hd => ⟨fun s hs => ?_, fun k hk => ?_⟩⟩
  · rw [e7]; exact h.un
  · rw [e7] at hd ⊢
    rw [(u (d + 1)).1 s hs]
    exact (h.ol d hd).1 s hs
  · rw [e7] at hd ⊢
    rw [(u (d + 1)).2.1 k hk]
    exact (h.ol d hd).2 k hk
theorem RU.zero (h6 : A 199 16 = 0) (hB : B 72 2 = 0) : RU A B := ⟨by rw [h6, hB], fun d hd => absurd hd (by omega)⟩
theorem RG.cg (h : RG A B) (e9 : ∀ b, b = 18 ∨ b = 19 → A' 199 b = A 199 b) (e : ∀ a b, 212 ≤ a → a < 216 → A' a b = A a b) : RG A' B := by
  refine ⟨?_, ?_, fun i hi => ?_, fun i hi s hs => ?_, fun i hi k hk => ?_, fun i hi j hj => ?_⟩
  · rw [e9 _ (by omega)]; exact h.ms
  · rw [e9 _ (by omega)]; exact h.op
  · rw [e _ _ (by omega) (by omega)]; exact h.sg i hi
  · rw [e _ _ (by omega) (by omega)]; exact h.bp i hi s hs
  · rw [e _ _ (by omega) (by omega)]; exact h.bq i hi k hk
  · rw [e _ _ (by omega) (by omega), e _ _ (by omega) (by omega)]; exact h.ky i hi j hj
theorem RG.cgB (h : RG A B) (hm : B 74 1 ≤ 20) (e : ∀ a b, 74 ≤ a → a < 196 → B' a b = B a b) : RG A B' := by
  have e4 : ∀ b, B' 74 b = B 74 b := fun b => e _ _ (by omega) (by omega)
  refine ⟨?_, ?_, fun i hi => ?_, fun i hi s hs => ?_, fun i hi k hk => ?_, fun i hi j hj => ?_⟩
  · rw [e4]; exact h.ms
  · rw [e4]; exact h.op
  · rw [e4] at hi; rw [e _ _ (by unfold gO; omega) (by unfold gO; omega)]; exact h.sg i hi
  · rw [e4] at hi; rw [e _ _ (by unfold gP; omega) (by unfold gP; omega)]; exact h.bp i hi s hs
  · rw [e4] at hi; rw [e _ _ (by unfold gQ; omega) (by unfold gQ; omega)]; exact h.bq i hi k hk
  · rw [e4] at hi
    rw [e _ _ (by unfold gO; omega) (by unfold gO; omega)] at hj
    rw [e _ _ (by unfold gK; omega) (by unfold gK; omega), e _ _ (by unfold gC; omega) (by unfold gC; omega)]; exact h.ky i hi j hj
/-- another heap with the same cells of the reference, but for thrown -/
theorem RL.cg (h : RL A B) (e : ∀ a b, 199 ≤ a → a < 216 → (a = 199 → b ≠ 0) → A' a b = A a b) : RL A' B :=
  ⟨h.O, h.R.cg (fun b hb => e _ _ (by omega) (by omega) (by omega)) (fun a b _ _ => e _ _ (by omega) (by omega) (by omega)), h.P.cg (fun b => e _ _ (by omega) (by omega) (by omega)), h.U.cg (e _ _ (by omega) (by omega) (by omega)) (fun b => e _ _ (by omega) (by omega) (by omega)), h.G.cg (fun b hb => e _ _ (by omega) (by omega) (by omega)) (fun a b _ _ => e _ _ (by omega) (by omega) (by omega))⟩
/-- another heap with the same cells of the class -/
theorem RL.cgB (h : RL A B) (e : ∀ a b, a < 196 → B' a b = B a b) : RL A B' :=
  ⟨h.O.cg0 e, h.R.cgB (fun a b h1 _ _ => e _ _ (by omega)), ⟨fun s hs => by rw [e _ _ (by omega)]; exact h.P.pos s hs, fun k hk => by rw [e _ _ (by omega)]; exact h.P.pl k hk⟩, h.U.cgB (e _ _ (by omega)) (fun k _ => e _ _ (by unfold pO; omega)) (fun b _ => e _ _ (by omega)) (fun b _ => e _ _ (by omega)) (fun b => e _ _ (by omega)) (fun b => e _ _ (by omega)), h.G.cgB h.O.G.ms.2 (fun a b _ h2 => e _ _ h2)⟩
end
