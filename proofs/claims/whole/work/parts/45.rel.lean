/-! the reference's cells as the class's; arithmetic -/
abbrev RMa (A B : Nat → Nat → Int) : Prop := (A 199 1 = B 2 9) ∧ (∀ w, w < 8 → ∀ j, j < 32 → A 200 (32 * w + j) = B (wL w) j) ∧ (∀ w, w < 8 → A 201 w = B (wO w) 3) ∧ (∀ w, w < 8 → ∀ j, j < 32 → A 202 (32 * w + j) = B (wN w) j) ∧ (∀ s, s < 6 → A 203 s = B 4 s) ∧ (∀ j, j < 32 → A 204 j = B 10 j) ∧ (∀ j, j < 32 → A 204 (32 + j) = B 12 j) ∧ (A 199 7 = B 2 13) ∧ (∀ k, k < 12 → A 205 k = B (pO k) 1) ∧ (∀ k, k < 12 → ∀ j : Nat, (j : Int) < B (pO k) 1 → A 206 (64 * k + j) = B (pU k) j) ∧ (∀ b, b < 27 → A 207 (2 * b) = B 7 b ∧ A 207 (2 * b + 1) = B 8 b) ∧ (A 199 11 = B 2 11) ∧ (A 199 12 = B 2 12)
theorem RMa.m {A B : Nat → Nat → Int} (h : RMa A B) : A 199 1 = B 2 9 := h.1
theorem RMa.wir {A B : Nat → Nat → Int} (h : RMa A B) : ∀ w, w < 8 → ∀ j, j < 32 → A 200 (32 * w + j) = B (wL w) j := h.2.1
theorem RMa.ring {A B : Nat → Nat → Int} (h : RMa A B) : ∀ w, w < 8 → A 201 w = B (wO w) 3 := h.2.2.1
theorem RMa.notch {A B : Nat → Nat → Int} (h : RMa A B) : ∀ w, w < 8 → ∀ j, j < 32 → A 202 (32 * w + j) = B (wN w) j := h.2.2.2.1
theorem RMa.slot {A B : Nat → Nat → Int} (h : RMa A B) : ∀ s, s < 6 → A 203 s = B 4 s := h.2.2.2.2.1
theorem RMa.pp {A B : Nat → Nat → Int} (h : RMa A B) : ∀ j, j < 32 → A 204 j = B 10 j := h.2.2.2.2.2.1
theorem RMa.pr {A B : Nat → Nat → Int} (h : RMa A B) : ∀ j, j < 32 → A 204 (32 + j) = B 12 j := h.2.2.2.2.2.2.1
theorem RMa.refl {A B : Nat → Nat → Int} (h : RMa A B) : A 199 7 = B 2 13 := h.2.2.2.2.2.2.2.1
theorem RMa.len {A B : Nat → Nat → Int} (h : RMa A B) : ∀ k, k < 12 → A 205 k = B (pO k) 1 := h.2.2.2.2.2.2.2.2.1
theorem RMa.ups {A B : Nat → Nat → Int} (h : RMa A B) : ∀ k, k < 12 → ∀ j : Nat, (j : Int) < B (pO k) 1 → A 206 (64 * k + j) = B (pU k) j := h.2.2.2.2.2.2.2.2.2.1
theorem RMa.lug {A B : Nat → Nat → Int} (h : RMa A B) : ∀ b, b < 27 → A 207 (2 * b) = B 7 b ∧ A 207 (2 * b + 1) = B 8 b := h.2.2.2.2.2.2.2.2.2.2.1
theorem RMa.rule {A B : Nat → Nat → Int} (h : RMa A B) : A 199 11 = B 2 11 := h.2.2.2.2.2.2.2.2.2.2.2.1
theorem RMa.way {A B : Nat → Nat → Int} (h : RMa A B) : A 199 12 = B 2 12 := h.2.2.2.2.2.2.2.2.2.2.2.2
abbrev RP (A B : Nat → Nat → Int) : Prop := (∀ s, s < 6 → A 208 s = B 14 s) ∧ (∀ k, k < 12 → A 208 (6 + k) = B 15 k)
theorem RP.pos {A B : Nat → Nat → Int} (h : RP A B) : ∀ s, s < 6 → A 208 s = B 14 s := h.1
theorem RP.pl {A B : Nat → Nat → Int} (h : RP A B) : ∀ k, k < 12 → A 208 (6 + k) = B 15 k := h.2
/-- all that a sign's way and a step read -/
abbrev RW (A B : Nat → Nat → Int) : Prop := (RMa A B) ∧ (RP A B) ∧ (CM B) ∧ (CP B)
theorem RW.R {A B : Nat → Nat → Int} (h : RW A B) : RMa A B := h.1
theorem RW.P {A B : Nat → Nat → Int} (h : RW A B) : RP A B := h.2.1
theorem RW.M {A B : Nat → Nat → Int} (h : RW A B) : CM B := h.2.2.1
theorem RW.C {A B : Nat → Nat → Int} (h : RW A B) : CP B := h.2.2.2
theorem rd_mod {a m : Int} (hm : 0 < m) (h0 : -m ≤ a) (h1 : a < 2 * m) : (a + m) % m = rd a m := by
  unfold rd
  by_cases c1 : a < 0
  · rw [if_pos c1]
    exact Int.emod_eq_of_lt (by omega) (by omega)
  · rw [if_neg c1]
    by_cases c2 : m ≤ a
    · rw [if_pos c2, Int.add_emod_right, ← Int.sub_emod_right]
      exact Int.emod_eq_of_lt (by omega) (by omega)
    · rw [if_neg c2, Int.add_emod_right]
      exact Int.emod_eq_of_lt (by omega) (by omega)
theorem rd_in' {a m : Int} (h0 : -m ≤ a) (h1 : a < 2 * m) : 0 ≤ rd a m ∧ rd a m < m := rd_in h0 h1
theorem rd_rd {y d m : Int} (y0 : 0 ≤ y) (y1 : y < m) (d0 : -m < d) (d1 : d < m) : rd (rd (y - d) m + d) m = y := by
  unfold rd
  repeat' split
  all_goals omega
theorem rd_rd' {y d m : Int} (y0 : 0 ≤ y) (y1 : y < m) (d0 : -m < d) (d1 : d < m) : rd (rd (y + d) m - d) m = y := by
  unfold rd
  repeat' split
  all_goals omega
section
variable {A B : Nat → Nat → Int}
/-- one way through a wheel, and the other -/
theorem pass_inv (hM : CM B) {w : Nat} (hw : w < 8) {c p : Int} (c0 : 0 ≤ c) (c1 : c < B 2 9) (p0 : 0 ≤ p) (p1 : p < B 2 9) : passA B w (wC w) (passA B w (wL w) c p (B 2 9)) p (B 2 9) = c := by
  have hr := hM.ring w hw
  unfold passA
  generalize hd : p - B (wO w) 3 = d at *
  have x0 := rd_in (a := c + d) (m := B 2 9) (by omega) (by omega)
  have hx : ((rd (c + d) (B 2 9)).toNat : Int) = rd (c + d) (B 2 9) := by omega
  obtain ⟨i0, i1, i2⟩ := hM.wi w hw (rd (c + d) (B 2 9)).toNat (by omega)
  rw [rd_rd i0 i1 (by omega) (by omega), i2, hx]
  exact rd_rd' c0 c1 (by omega) (by omega)
theorem pass_inv' (hM : CM B) {w : Nat} (hw : w < 8) {c p : Int} (c0 : 0 ≤ c) (c1 : c < B 2 9) (p0 : 0 ≤ p) (p1 : p < B 2 9) : passA B w (wL w) (passA B w (wC w) c p (B 2 9)) p (B 2 9) = c := by
  have hr := hM.ring w hw
  unfold passA
  generalize hd : p - B (wO w) 3 = d at *
  have x0 := rd_in (a := c + d) (m := B 2 9) (by omega) (by omega)
  have hx : ((rd (c + d) (B 2 9)).toNat : Int) = rd (c + d) (B 2 9) := by omega
  obtain ⟨i0, i1, i2⟩ := hM.wj w hw (rd (c + d) (B 2 9)).toNat (by omega)
  rw [rd_rd i0 i1 (by omega) (by omega), i2, hx]
  exact rd_rd' c0 c1 (by omega) (by omega)
theorem CM.m (h : CM B) : 1 ≤ B 2 9 ∧ B 2 9 ≤ 32 := by
  have := h.m3
  omega
theorem passL_in (hM : CM B) {w : Nat} (hw : w < 8) {c p : Int} (c0 : 0 ≤ c) (c1 : c < B 2 9) (p0 : 0 ≤ p) (p1 : p < B 2 9) : 0 ≤ passA B w (wL w) c p (B 2 9) ∧ passA B w (wL w) c p (B 2 9) < B 2 9 :=
  passA_in hM.m.2 c0 c1 p0 p1 (hM.ring w hw).1 (hM.ring w hw).2 (fun j hj => ⟨(hM.wi w hw j hj).1, (hM.wi w hw j hj).2.1⟩)
theorem passC_in (hM : CM B) {w : Nat} (hw : w < 8) {c p : Int} (c0 : 0 ≤ c) (c1 : c < B 2 9) (p0 : 0 ≤ p) (p1 : p < B 2 9) : 0 ≤ passA B w (wC w) c p (B 2 9) ∧ passA B w (wC w) c p (B 2 9) < B 2 9 :=
  passA_in hM.m.2 c0 c1 p0 p1 (hM.ring w hw).1 (hM.ring w hw).2 (fun j hj => ⟨(hM.wj w hw j hj).1, (hM.wj w hw j hj).2.1⟩)
end
