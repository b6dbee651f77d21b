/-! closed forms; what holds of the class between calls -/
section
variable {A B : Nat → Nat → Int}
theorem mvP_c (v : Int) : ∀ (n k : Nat) (A : Nat → Nat → Int) (a b : Nat), mvP v n k A a b = if a = 15 ∧ k ≤ b ∧ b < k + n ∧ 0 < A (pO b) 1 then rd (A 15 b + v) (A (pO b) 1) else A a b := by
  intro n
  induction n with
  | zero =>
    intro k A a b
    rw [mvP, if_neg (by omega)]
  | succ n ih =>
    intro k A a b
    rw [mvP, ih]
    have h9 : ∀ (x : Int) (j : Nat), u2 A 15 k x (pO j) 1 = A (pO j) 1 := fun x j => uk_ne (by unfold pO; omega) _ _ _
    by_cases c : 0 < A (pO k) 1
    · rw [if_pos c, h9]
      by_cases hb : b = k
      · subst hb
        rw [if_neg (by omega)]
        by_cases ha : a = 15
        · subst ha
          rw [ue_eq, if_pos ⟨rfl, by omega, by omega, c⟩]
        · rw [uk_ne ha, if_neg (by omega)]
      · rw [uj_ne hb, uj_ne hb]
        by_cases c2 : a = 15 ∧ k + 1 ≤ b ∧ b < k + 1 + n ∧ 0 < A (pO b) 1
        · rw [if_pos c2, if_pos (by omega)]
        · rw [if_neg c2, if_neg (by omega)]
    · rw [if_neg c]
      by_cases hb : b = k
      · subst hb
        rw [if_neg (by omega), if_neg (by omega)]
      · by_cases c2 : a = 15 ∧ k + 1 ≤ b ∧ b < k + 1 + n ∧ 0 < A (pO b) 1
        · rw [if_pos c2, if_pos (by omega)]
        · rw [if_neg c2, if_neg (by omega)]
theorem mvS_c (v : Int) (c : Nat) : ∀ (n k : Nat) (A : Nat → Nat → Int) (a b : Nat), mvS v c n k A a b = if a = 14 ∧ k ≤ b ∧ b < k + n ∧ c.testBit b = true then rd (A 14 b + v) (A 2 9) else A a b := by
  intro n
  induction n with
  | zero =>
    intro k A a b
    rw [mvS, if_neg (by omega)]
  | succ n ih =>
    intro k A a b
    rw [mvS, ih]
    have h9 : ∀ (x : Int), u2 A 14 k x 2 9 = A 2 9 := fun x => uk_ne (by omega) _ _ _
    by_cases c1 : c.testBit k = true
    · rw [if_pos c1, h9]
      by_cases hb : b = k
      · subst hb
        rw [if_neg (by omega)]
        by_cases ha : a = 14
        · subst ha
          rw [ue_eq, if_pos ⟨rfl, by omega, by omega, c1⟩]
        · rw [uk_ne ha, if_neg (by omega)]
      · rw [uj_ne hb, uj_ne hb]
        by_cases c2 : a = 14 ∧ k + 1 ≤ b ∧ b < k + 1 + n ∧ c.testBit b = true
        · rw [if_pos c2, if_pos ⟨c2.1, by omega, by omega, c2.2.2.2⟩]
        · rw [if_neg c2, if_neg (fun h => c2 ⟨h.1, by omega, by omega, h.2.2.2⟩)]
    · rw [if_neg c1]
      by_cases hb : b = k
      · subst hb
        rw [if_neg (by omega), if_neg (fun h => c1 h.2.2.2)]
      · by_cases c2 : a = 14 ∧ k + 1 ≤ b ∧ b < k + 1 + n ∧ c.testBit b = true
        · rw [if_pos c2, if_pos ⟨c2.1, by omega, by omega, c2.2.2.2⟩]
        · rw [if_neg c2, if_neg (fun h => c2 ⟨h.1, by omega, by omega, h.2.2.2⟩)]
theorem moveF_c (v : Int) (c : Nat) (A : Nat → Nat → Int) (a b : Nat) : moveF v c A a b = if a = 15 ∧ b < 12 ∧ 0 < A (pO b) 1 then rd (A 15 b + v) (A (pO b) 1) else if a = 14 ∧ b < 6 ∧ c.testBit b = true then rd (A 14 b + v) (A 2 9) else A a b := by
  unfold moveF
  have h1 : ∀ j, mvS v c 6 0 A (pO j) 1 = A (pO j) 1 := fun j => by rw [mvS_c, if_neg (by unfold pO; omega)]
  have h2 : ∀ j, mvS v c 6 0 A 15 j = A 15 j := fun j => by rw [mvS_c, if_neg (by omega)]
  rw [mvP_c, h1, h2, mvS_c]
  by_cases c1 : a = 15 ∧ b < 12 ∧ 0 < A (pO b) 1
  · rw [if_pos c1, if_pos (by omega)]
  · rw [if_neg c1, if_neg (by omega)]
    by_cases c2 : a = 14 ∧ b < 6 ∧ c.testBit b = true
    · rw [if_pos c2, if_pos ⟨c2.1, by omega, by omega, c2.2.2⟩]
    · rw [if_neg c2, if_neg (fun h => c2 ⟨h.1, by omega, h.2.2.2⟩)]
theorem moveF_ne (v : Int) (c : Nat) (A : Nat → Nat → Int) {a : Nat} (h1 : a ≠ 14) (h2 : a ≠ 15) (b : Nat) : moveF v c A a b = A a b := by
  rw [moveF_c, if_neg (fun h => h2 h.1), if_neg (fun h => h1 h.1)]
/-! the order of the filled slots -/
def ordM (k : Nat) : List Nat := (List.range 6).filter (fun s => k.testBit s)
theorem mask_ex (p : Nat → Bool) : ∃ k, k < 64 ∧ ∀ s, s < 6 → k.testBit s = p s := by
  have key : ∀ b0 b1 b2 b3 b4 b5 : Bool, ∃ k, k < 64 ∧ (k.testBit 0 = b0 ∧ k.testBit 1 = b1 ∧ k.testBit 2 = b2 ∧ k.testBit 3 = b3 ∧ k.testBit 4 = b4 ∧ k.testBit 5 = b5) := by
    intro b0 b1 b2 b3 b4 b5
    refine ⟨b0.toNat + 2 * b1.toNat + 4 * b2.toNat + 8 * b3.toNat + 16 * b4.toNat + 32 * b5.toNat, ?_⟩
    cases b0 <;> cases b1 <;> cases b2 <;> cases b3 <;> cases b4 <;> cases b5 <;> decide
  obtain ⟨k, hk, h0, h1, h2, h3, h4, h5⟩ := key (p 0) (p 1) (p 2) (p 3) (p 4) (p 5)
  refine ⟨k, hk, fun s hs => ?_⟩
  have : s = 0 ∨ s = 1 ∨ s = 2 ∨ s = 3 ∨ s = 4 ∨ s = 5 := by omega
  rcases this with rfl | rfl | rfl | rfl | rfl | rfl <;> assumption
def OrdAt (B : Nat → Nat → Int) (k : Nat) : Prop := k < 64 ∧ (∀ s, s < 6 → (B 4 s ≠ -1 ↔ k.testBit s = true)) ∧ B 2 10 = ((ordM k).length : Nat) ∧ ∀ i, i < (ordM k).length → B 5 i = ((ordM k).getD i 0 : Nat)
def cntF (A : Nat → Nat → Int) (q : Nat) : Nat → Int
  | 0 => 0
  | n + 1 => cntF A q n + (if A q n = n then 0 else 1)
/-- what holds of the class's settings between calls -/
abbrev CM (B : Nat → Nat → Int) : Prop := (B 2 9 = 10 ∨ B 2 9 = 26 ∨ B 2 9 = 32) ∧ (∀ w, w < 8 → ∀ j : Nat, (j : Int) < B 2 9 → 0 ≤ B (wL w) j ∧ B (wL w) j < B 2 9 ∧ B (wC w) (B (wL w) j).toNat = j) ∧ (∀ w, w < 8 → ∀ j : Nat, (j : Int) < B 2 9 → 0 ≤ B (wC w) j ∧ B (wC w) j < B 2 9 ∧ B (wL w) (B (wC w) j).toNat = j) ∧ (∀ w, w < 8 → 0 ≤ B (wO w) 3 ∧ B (wO w) 3 < B 2 9) ∧ (∀ w, w < 8 → ∀ j, j < 32 → B (wN w) j = 0 ∨ B (wN w) j = 1) ∧ (∀ s, s < 6 → -1 ≤ B 4 s ∧ B 4 s < 8) ∧ (∃ k, OrdAt B k) ∧ (∀ j : Nat, (j : Int) < B 2 9 → 0 ≤ B 10 j ∧ B 10 j < B 2 9 ∧ B 10 (B 10 j).toNat = j) ∧ (∀ j : Nat, (j : Int) < B 2 9 → 0 ≤ B 12 j ∧ B 12 j < B 2 9 ∧ B 12 (B 12 j).toNat = j) ∧ (2 * B 9 1 = cntF B 10 (B 2 9).toNat) ∧ (2 * B 11 1 = cntF B 12 (B 2 9).toNat) ∧ (B 2 13 = 0 ∨ B 2 13 = 1) ∧ (∀ k, k < 12 → 0 ≤ B (pO k) 1 ∧ B (pO k) 1 ≤ 61) ∧ (∀ k, k < 12 → ∀ j, j < 61 → B (pU k) j = 0 ∨ B (pU k) j = 1) ∧ (∀ b, b < 27 → -1 ≤ B 7 b ∧ B 7 b < 12 ∧ -1 ≤ B 8 b ∧ B 8 b < 12) ∧ (0 ≤ B 2 11 ∧ B 2 11 < 5) ∧ (0 ≤ B 2 12 ∧ B 2 12 < 3)
theorem CM.m3 {B : Nat → Nat → Int} (h : CM B) : B 2 9 = 10 ∨ B 2 9 = 26 ∨ B 2 9 = 32 := h.1
theorem CM.wi {B : Nat → Nat → Int} (h : CM B) : ∀ w, w < 8 → ∀ j : Nat, (j : Int) < B 2 9 → 0 ≤ B (wL w) j ∧ B (wL w) j < B 2 9 ∧ B (wC w) (B (wL w) j).toNat = j := h.2.1
theorem CM.wj {B : Nat → Nat → Int} (h : CM B) : ∀ w, w < 8 → ∀ j : Nat, (j : Int) < B 2 9 → 0 ≤ B (wC w) j ∧ B (wC w) j < B 2 9 ∧ B (wL w) (B (wC w) j).toNat = j := h.2.2.1
theorem CM.ring {B : Nat → Nat → Int} (h : CM B) : ∀ w, w < 8 → 0 ≤ B (wO w) 3 ∧ B (wO w) 3 < B 2 9 := h.2.2.2.1
theorem CM.notch {B : Nat → Nat → Int} (h : CM B) : ∀ w, w < 8 → ∀ j, j < 32 → B (wN w) j = 0 ∨ B (wN w) j = 1 := h.2.2.2.2.1
theorem CM.slot {B : Nat → Nat → Int} (h : CM B) : ∀ s, s < 6 → -1 ≤ B 4 s ∧ B 4 s < 8 := h.2.2.2.2.2.1
theorem CM.ord {B : Nat → Nat → Int} (h : CM B) : ∃ k, OrdAt B k := h.2.2.2.2.2.2.1
theorem CM.pp {B : Nat → Nat → Int} (h : CM B) : ∀ j : Nat, (j : Int) < B 2 9 → 0 ≤ B 10 j ∧ B 10 j < B 2 9 ∧ B 10 (B 10 j).toNat = j := h.2.2.2.2.2.2.2.1
theorem CM.pr {B : Nat → Nat → Int} (h : CM B) : ∀ j : Nat, (j : Int) < B 2 9 → 0 ≤ B 12 j ∧ B 12 j < B 2 9 ∧ B 12 (B 12 j).toNat = j := h.2.2.2.2.2.2.2.2.1
theorem CM.cp {B : Nat → Nat → Int} (h : CM B) : 2 * B 9 1 = cntF B 10 (B 2 9).toNat := h.2.2.2.2.2.2.2.2.2.1
theorem CM.cr {B : Nat → Nat → Int} (h : CM B) : 2 * B 11 1 = cntF B 12 (B 2 9).toNat := h.2.2.2.2.2.2.2.2.2.2.1
theorem CM.refl {B : Nat → Nat → Int} (h : CM B) : B 2 13 = 0 ∨ B 2 13 = 1 := h.2.2.2.2.2.2.2.2.2.2.2.1
theorem CM.len {B : Nat → Nat → Int} (h : CM B) : ∀ k, k < 12 → 0 ≤ B (pO k) 1 ∧ B (pO k) 1 ≤ 61 := h.2.2.2.2.2.2.2.2.2.2.2.2.1
theorem CM.ups {B : Nat → Nat → Int} (h : CM B) : ∀ k, k < 12 → ∀ j, j < 61 → B (pU k) j = 0 ∨ B (pU k) j = 1 := h.2.2.2.2.2.2.2.2.2.2.2.2.2.1
theorem CM.lug {B : Nat → Nat → Int} (h : CM B) : ∀ b, b < 27 → -1 ≤ B 7 b ∧ B 7 b < 12 ∧ -1 ≤ B 8 b ∧ B 8 b < 12 := h.2.2.2.2.2.2.2.2.2.2.2.2.2.2.1
theorem CM.rule {B : Nat → Nat → Int} (h : CM B) : 0 ≤ B 2 11 ∧ B 2 11 < 5 := h.2.2.2.2.2.2.2.2.2.2.2.2.2.2.2.1
theorem CM.way {B : Nat → Nat → Int} (h : CM B) : 0 ≤ B 2 12 ∧ B 2 12 < 3 := h.2.2.2.2.2.2.2.2.2.2.2.2.2.2.2.2
abbrev CP (B : Nat → Nat → Int) : Prop := (∀ s, s < 6 → 0 ≤ B 14 s ∧ B 14 s < B 2 9) ∧ (∀ k, k < 12 → 0 ≤ B 15 k ∧ (0 < B (pO k) 1 → B 15 k < B (pO k) 1) ∧ (B (pO k) 1 = 0 → B 15 k = 0))
theorem CP.pos {B : Nat → Nat → Int} (h : CP B) : ∀ s, s < 6 → 0 ≤ B 14 s ∧ B 14 s < B 2 9 := h.1
theorem CP.pl {B : Nat → Nat → Int} (h : CP B) : ∀ k, k < 12 → 0 ≤ B 15 k ∧ (0 < B (pO k) 1 → B 15 k < B (pO k) 1) ∧ (B (pO k) 1 = 0 → B 15 k = 0) := h.2
abbrev CU (B : Nat → Nat → Int) : Prop := (0 ≤ B 72 1 ∧ B 72 1 < 40) ∧ (0 ≤ B 72 2 ∧ B 72 2 ≤ 40) ∧ (∀ j, j < 40 → 0 ≤ B 73 j ∧ B 73 j < 64)
theorem CU.nx {B : Nat → Nat → Int} (h : CU B) : 0 ≤ B 72 1 ∧ B 72 1 < 40 := h.1
theorem CU.un {B : Nat → Nat → Int} (h : CU B) : 0 ≤ B 72 2 ∧ B 72 2 ≤ 40 := h.2.1
theorem CU.mv {B : Nat → Nat → Int} (h : CU B) : ∀ j, j < 40 → 0 ≤ B 73 j ∧ B 73 j < 64 := h.2.2
abbrev CG (B : Nat → Nat → Int) : Prop := (0 ≤ B 74 1 ∧ B 74 1 ≤ 20) ∧ (B 74 2 = 0 ∨ B 74 2 = 1) ∧ (B 74 2 ≠ 0 → 1 ≤ B 74 1) ∧ (∀ i : Nat, (i : Int) < B 74 1 → 0 ≤ B (gO i) 3 ∧ B (gO i) 3 ≤ 60) ∧ (∀ i : Nat, (i : Int) < B 74 1 → (∀ s, s < 6 → 0 ≤ B (gP i) s ∧ B (gP i) s < B 2 9) ∧ ∀ k, k < 12 → 0 ≤ B (gQ i) k) ∧ (∀ i : Nat, (i : Int) < B 74 1 → ∀ j : Nat, (j : Int) < B (gO i) 3 → 0 ≤ B (gK i) j ∧ B (gK i) j < B 2 9)
theorem CG.ms {B : Nat → Nat → Int} (h : CG B) : 0 ≤ B 74 1 ∧ B 74 1 ≤ 20 := h.1
theorem CG.op {B : Nat → Nat → Int} (h : CG B) : B 74 2 = 0 ∨ B 74 2 = 1 := h.2.1
theorem CG.opn {B : Nat → Nat → Int} (h : CG B) : B 74 2 ≠ 0 → 1 ≤ B 74 1 := h.2.2.1
theorem CG.sg {B : Nat → Nat → Int} (h : CG B) : ∀ i : Nat, (i : Int) < B 74 1 → 0 ≤ B (gO i) 3 ∧ B (gO i) 3 ≤ 60 := h.2.2.2.1
theorem CG.bg {B : Nat → Nat → Int} (h : CG B) : ∀ i : Nat, (i : Int) < B 74 1 → (∀ s, s < 6 → 0 ≤ B (gP i) s ∧ B (gP i) s < B 2 9) ∧ ∀ k, k < 12 → 0 ≤ B (gQ i) k := h.2.2.2.2.1
theorem CG.ky {B : Nat → Nat → Int} (h : CG B) : ∀ i : Nat, (i : Int) < B 74 1 → ∀ j : Nat, (j : Int) < B (gO i) 3 → 0 ≤ B (gK i) j ∧ B (gK i) j < B 2 9 := h.2.2.2.2.2
abbrev CO (B : Nat → Nat → Int) : Prop := (CM B) ∧ (CP B) ∧ (CU B) ∧ (CG B)
theorem CO.M {B : Nat → Nat → Int} (h : CO B) : CM B := h.1
theorem CO.P {B : Nat → Nat → Int} (h : CO B) : CP B := h.2.1
theorem CO.U {B : Nat → Nat → Int} (h : CO B) : CU B := h.2.2.1
theorem CO.G {B : Nat → Nat → Int} (h : CO B) : CG B := h.2.2.2
theorem cntF_cg {q : Nat} (e : ∀ b, B q b = A q b) : ∀ n, cntF B q n = cntF A q n := by
  intro n
  induction n with
  | zero => rfl
  | succ n ih => rw [cntF, cntF, ih, e]
theorem OrdAt.cg {k : Nat} (h : OrdAt A k) (e4 : ∀ b, B 4 b = A 4 b) (e5 : ∀ b, B 5 b = A 5 b) (e2 : B 2 10 = A 2 10) : OrdAt B k := by
  obtain ⟨h0, h1, h2, h3⟩ := h
  refine ⟨h0, fun s hs => ?_, ?_, fun i hi => ?_⟩
  · rw [e4]
    exact h1 s hs
  · rw [e2]
    exact h2
  · rw [e5]
    exact h3 i hi
theorem CM.cg (h : CM A) (e : ∀ a b, a < 72 → a ≠ 14 → a ≠ 15 → B a b = A a b) : CM B := by
  have e2 : ∀ b, B 2 b = A 2 b := fun b => e _ _ (by omega) (by omega) (by omega)
  have eo : ∀ w, w < 8 → ∀ b, B (wO w) b = A (wO w) b := fun w hw b => e _ _ (by unfold wO; omega) (by unfold wO; omega) (by unfold wO; omega)
  have el : ∀ w, w < 8 → ∀ b, B (wL w) b = A (wL w) b := fun w hw b => e _ _ (by unfold wL; omega) (by unfold wL; omega) (by unfold wL; omega)
  have ec : ∀ w, w < 8 → ∀ b, B (wC w) b = A (wC w) b := fun w hw b => e _ _ (by unfold wC; omega) (by unfold wC; omega) (by unfold wC; omega)
  have en : ∀ w, w < 8 → ∀ b, B (wN w) b = A (wN w) b := fun w hw b => e _ _ (by unfold wN; omega) (by unfold wN; omega) (by unfold wN; omega)
  have ep : ∀ k, k < 12 → ∀ b, B (pO k) b = A (pO k) b := fun w hw b => e _ _ (by unfold pO; omega) (by unfold pO; omega) (by unfold pO; omega)
  have eu : ∀ k, k < 12 → ∀ b, B (pU k) b = A (pU k) b := fun w hw b => e _ _ (by unfold pU; omega) (by unfold pU; omega) (by unfold pU; omega)
  have e4 : ∀ b, B 4 b = A 4 b := fun b => e _ _ (by omega) (by omega) (by omega)
  have e5 : ∀ b, B 5 b = A 5 b := fun b => e _ _ (by omega) (by omega) (by omega)
  have e7 : ∀ b, B 7 b = A 7 b := fun b => e _ _ (by omega) (by omega) (by omega)
  have e8 : ∀ b, B 8 b = A 8 b := fun b => e _ _ (by omega) (by omega) (by omega)
  have e9 : ∀ b, B 9 b = A 9 b := fun b => e _ _ (by omega) (by omega) (by omega)
  have e10 : ∀ b, B 10 b = A 10 b := fun b => e _ _ (by omega) (by omega) (by omega)
  have e11 : ∀ b, B 11 b = A 11 b := fun b => e _ _ (by omega) (by omega) (by omega)
  have e12 : ∀ b, B 12 b = A 12 b := fun b => e _ _ (by omega) (by omega) (by omega)
  refine ⟨?_, fun w hw j hj => ?_, fun w hw j hj => ?_, fun w hw => ?_, fun w hw j hj => ?_, fun s hs => ?_, ?_, fun j hj => ?_, fun j hj => ?_, ?_, ?_, ?_, fun k hk => ?_, fun k hk j hj => ?_, fun b hb => ?_, ?_, ?_⟩
  · rw [e2]; exact h.m3
  · rw [e2] at hj ⊢; rw [el w hw, ec w hw]; exact h.wi w hw j hj
  · rw [e2] at hj ⊢; rw [ec w hw, el w hw]; exact h.wj w hw j hj
  · rw [e2, eo w hw]; exact h.ring w hw
  · rw [en w hw]; exact h.notch w hw j hj
  · rw [e4]; exact h.slot s hs
  · obtain ⟨k, hk⟩ := h.ord
    exact ⟨k, hk.cg e4 e5 (e2 _)⟩
  · rw [e2] at hj ⊢; rw [e10, e10]; exact h.pp j hj
  · rw [e2] at hj ⊢; rw [e12, e12]; exact h.pr j hj
  · rw [e2, e9, cntF_cg e10]; exact h.cp
  · rw [e2, e11, cntF_cg e12]; exact h.cr
  · rw [e2]; exact h.refl
  · rw [ep k hk]; exact h.len k hk
  · rw [eu k hk]; exact h.ups k hk j hj
  · rw [e7, e8]; exact h.lug b hb
  · rw [e2]; exact h.rule
  · rw [e2]; exact h.way
theorem CP.cg (h : CP A) (e2 : B 2 9 = A 2 9) (ep : ∀ k, k < 12 → B (pO k) 1 = A (pO k) 1) (e14 : ∀ b, b < 6 → B 14 b = A 14 b) (e15 : ∀ b, b < 12 → B 15 b = A 15 b) : CP B := by
  refine ⟨fun s hs => ?_, fun k hk => ?_⟩
  · rw [e2, e14 s hs]; exact h.pos s hs
  · rw [ep k hk, e15 k hk]; exact h.pl k hk
theorem CU.cg (h : CU A) (e2 : ∀ b, B 72 b = A 72 b) (e3 : ∀ b, B 73 b = A 73 b) : CU B := by
  refine ⟨?_, ?_, fun j hj => ?_⟩
  · rw [e2]; exact h.nx
  · rw [e2]; exact h.un
  · rw [e3]; exact h.mv j hj
theorem CG.cg (h : CG A) (e2 : B 2 9 = A 2 9) (e : ∀ a b, 74 ≤ a → a < 196 → B a b = A a b) : CG B := by
  have em := h.ms
  have e4 : ∀ b, B 74 b = A 74 b := fun b => e _ _ (by omega) (by omega)
  have eo : ∀ i, i < 20 → ∀ b, B (gO i) b = A (gO i) b := fun i hi b => e _ _ (by unfold gO; omega) (by unfold gO; omega)
  have ep : ∀ i, i < 20 → ∀ b, B (gP i) b = A (gP i) b := fun i hi b => e _ _ (by unfold gP; omega) (by unfold gP; omega)
  have eq : ∀ i, i < 20 → ∀ b, B (gQ i) b = A (gQ i) b := fun i hi b => e _ _ (by unfold gQ; omega) (by unfold gQ; omega)
  have ek : ∀ i, i < 20 → ∀ b, B (gK i) b = A (gK i) b := fun i hi b => e _ _ (by unfold gK; omega) (by unfold gK; omega)
  refine ⟨?_, ?_, ?_, fun i hi => ?_, fun i hi => ?_, fun i hi j hj => ?_⟩
  · rw [e4]; exact h.ms
  · rw [e4]; exact h.op
  · rw [e4, e4]; exact h.opn
  · rw [e4] at hi; rw [eo i (by omega)]; exact h.sg i hi
  · rw [e4] at hi
    refine ⟨fun s hs => ?_, fun k hk => ?_⟩
    · rw [ep i (by omega), e2]; exact (h.bg i hi).1 s hs
    · rw [eq i (by omega)]; exact (h.bg i hi).2 k hk
  · rw [e4] at hi; rw [eo i (by omega)] at hj; rw [ek i (by omega), e2]; exact h.ky i hi j hj
theorem CO.m (h : CO B) : 1 ≤ B 2 9 ∧ B 2 9 ≤ 32 := by
  have := h.M.m3
  omega
theorem ordM_lt : ∀ k, k < 64 → (ordM k).length ≤ 6 ∧ ∀ i, i < 6 → i < (ordM k).length → (ordM k).getD i 0 < 6 ∧ k.testBit ((ordM k).getD i 0) = true := by decide +kernel
theorem CO.wy (h : CO B) : WayOk B := by
  obtain ⟨k, hk, h1, h2, h3⟩ := h.M.ord
  obtain ⟨o1, o2⟩ := ordM_lt k hk
  refine ⟨h.m.1, h.m.2, by omega, by omega, fun i hi => ?_, h.P.pos, fun w hw => ⟨(h.M.ring w hw).1, (h.M.ring w hw).2, fun j hj => ⟨(h.M.wi w hw j hj).1, (h.M.wi w hw j hj).2.1⟩, fun j hj => ⟨(h.M.wj w hw j hj).1, (h.M.wj w hw j hj).2.1⟩⟩⟩
  have hi' : i < (ordM k).length := by omega
  obtain ⟨o3, o4⟩ := o2 i (by omega) hi'
  rw [h3 i hi']
  have e : (((ordM k).getD i 0 : Nat) : Int).toNat = (ordM k).getD i 0 := by omega
  rw [e]
  have s1 := (h1 _ o3).mpr o4
  have s2 := h.M.slot _ o3
  refine ⟨by omega, by omega, by omega, by omega⟩
theorem CO.pk (h : CO B) : PlaceOk B := fun k hk => ⟨(h.M.len k hk).1, (h.M.len k hk).2, (h.P.pl k hk).1, (h.P.pl k hk).2.1⟩
theorem CO.ro (h : CO B) : PairOk B := fun j hj => ⟨(h.M.pp j hj).1, (h.M.pp j hj).2.1, (h.M.pr j hj).1, (h.M.pr j hj).2.1⟩
end
