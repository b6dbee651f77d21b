/-! the cells after the constructors: the shapes of cells 1.., the references -/
def shT : List (Nat × Nat) := [(0, 4), (2, 14), (105, 8), (100, 6), (100, 6), (104, 12), (100, 27), (100, 27), (4, 2), (100, 32), (4, 2), (100, 32), (6, 2), (100, 6), (100, 12), (8, 4), (100, 32), (100, 32), (101, 32), (8, 4), (100, 32), (100, 32), (101, 32), (8, 4), (100, 32), (100, 32), (101, 32), (8, 4), (100, 32), (100, 32), (101, 32), (8, 4), (100, 32), (100, 32), (101, 32), (8, 4), (100, 32), (100, 32), (101, 32), (8, 4), (100, 32), (100, 32), (101, 32), (8, 4), (100, 32), (100, 32), (101, 32), (5, 2), (101, 61), (5, 2), (101, 61), (5, 2), (101, 61), (5, 2), (101, 61), (5, 2), (101, 61), (5, 2), (101, 61), (5, 2), (101, 61), (5, 2), (101, 61), (5, 2), (101, 61), (5, 2), (101, 61), (5, 2), (101, 61), (5, 2), (101, 61), (7, 3), (100, 40), (1, 3), (103, 20), (3, 4), (6, 2), (100, 6), (100, 12), (100, 60), (100, 60), (3, 4), (6, 2), (100, 6), (100, 12), (100, 60), (100, 60), (3, 4), (6, 2), (100, 6), (100, 12), (100, 60), (100, 60), (3, 4), (6, 2), (100, 6), (100, 12), (100, 60), (100, 60), (3, 4), (6, 2), (100, 6), (100, 12), (100, 60), (100, 60), (3, 4), (6, 2), (100, 6), (100, 12), (100, 60), (100, 60), (3, 4), (6, 2), (100, 6), (100, 12), (100, 60), (100, 60), (3, 4), (6, 2), (100, 6), (100, 12), (100, 60), (100, 60), (3, 4), (6, 2), (100, 6), (100, 12), (100, 60), (100, 60), (3, 4), (6, 2), (100, 6), (100, 12), (100, 60), (100, 60), (3, 4), (6, 2), (100, 6), (100, 12), (100, 60), (100, 60), (3, 4), (6, 2), (100, 6), (100, 12), (100, 60), (100, 60), (3, 4), (6, 2), (100, 6), (100, 12), (100, 60), (100, 60), (3, 4), (6, 2), (100, 6), (100, 12), (100, 60), (100, 60), (3, 4), (6, 2), (100, 6), (100, 12), (100, 60), (100, 60), (3, 4), (6, 2), (100, 6), (100, 12), (100, 60), (100, 60), (3, 4), (6, 2), (100, 6), (100, 12), (100, 60), (100, 60), (3, 4), (6, 2), (100, 6), (100, 12), (100, 60), (100, 60), (3, 4), (6, 2), (100, 6), (100, 12), (100, 60), (100, 60), (3, 4), (6, 2), (100, 6), (100, 12), (100, 60), (100, 60), (6, 2), (100, 6), (100, 12), (9, 24), (100, 256), (100, 8), (101, 256), (100, 6), (100, 64), (100, 12), (101, 768), (100, 54), (100, 18), (100, 18), (101, 6), (100, 720), (100, 20), (100, 360), (100, 1200), (100, 1200), (102, 1)]
def grT (k j : Nat) : Option Nat :=
  if k = 3 then (if j < 8 then some (16 + 4 * j) else none)
  else if k = 6 then (if j < 12 then some (48 + 2 * j) else none)
  else if k = 75 then (if j < 20 then some (76 + 6 * j) else none)
  else if 16 ≤ k ∧ k < 48 ∧ k % 4 = 0 then (if j < 3 then some (k + 1 + j) else none)
  else if 48 ≤ k ∧ k < 72 ∧ k % 2 = 0 then (if j = 0 then some (k + 1) else none)
  else if 76 ≤ k ∧ k < 196 ∧ (k - 76) % 6 = 0 then (if j = 0 then some (k + 1) else if j = 1 then some (k + 4) else if j = 2 then some (k + 5) else none)
  else if 76 ≤ k ∧ k < 196 ∧ (k - 76) % 6 = 1 then (if j = 0 then some (k + 1) else if j = 1 then some (k + 2) else none)
  else match k, j with
    | 1, 0 => some 2
    | 1, 1 => some 72
    | 1, 2 => some 74
    | 1, 3 => some 196
    | 2, 0 => some 3
    | 2, 1 => some 4
    | 2, 2 => some 5
    | 2, 3 => some 6
    | 2, 4 => some 7
    | 2, 5 => some 8
    | 2, 6 => some 9
    | 2, 7 => some 11
    | 2, 8 => some 13
    | 9, 0 => some 10
    | 11, 0 => some 12
    | 13, 0 => some 14
    | 13, 1 => some 15
    | 72, 0 => some 73
    | 74, 0 => some 75
    | 196, 0 => some 197
    | 196, 1 => some 198
    | 199, 2 => some 200
    | 199, 3 => some 201
    | 199, 4 => some 202
    | 199, 5 => some 203
    | 199, 6 => some 204
    | 199, 8 => some 205
    | 199, 9 => some 206
    | 199, 10 => some 207
    | 199, 13 => some 208
    | 199, 14 => some 209
    | 199, 15 => some 210
    | 199, 17 => some 211
    | 199, 20 => some 212
    | 199, 21 => some 213
    | 199, 22 => some 214
    | 199, 23 => some 215
    | _, _ => none
def Lay (sh : List (Nat × Nat)) (gr : Nat → Nat → Option Nat) : Prop := (∀ (k : Nat) (z : Nat × Nat), shT[k]? = some z → sh[k + 1]? = some z) ∧ ∀ k j v : Nat, grT k j = some v → gr k j = some v
section
variable {sh : List (Nat × Nat)} {gr : Nat → Nat → Option Nat}
theorem LyS (h : Lay sh gr) : sh[1]? = some (0, 4) ∧ sh[2]? = some (2, 14) ∧ sh[3]? = some (105, 8) ∧ sh[4]? = some (100, 6) ∧ sh[5]? = some (100, 6) ∧ sh[6]? = some (104, 12) ∧ sh[7]? = some (100, 27) ∧ sh[8]? = some (100, 27) ∧ sh[9]? = some (4, 2) ∧ sh[10]? = some (100, 32) ∧ sh[11]? = some (4, 2) ∧ sh[12]? = some (100, 32) ∧ sh[13]? = some (6, 2) ∧ sh[14]? = some (100, 6) ∧ sh[15]? = some (100, 12) ∧ sh[72]? = some (7, 3) ∧ sh[73]? = some (100, 40) ∧ sh[74]? = some (1, 3) ∧ sh[75]? = some (103, 20) ∧ sh[196]? = some (6, 2) ∧ sh[197]? = some (100, 6) ∧ sh[198]? = some (100, 12) ∧ sh[199]? = some (9, 24) ∧ sh[200]? = some (100, 256) ∧ sh[201]? = some (100, 8) ∧ sh[202]? = some (101, 256) ∧ sh[203]? = some (100, 6) ∧ sh[204]? = some (100, 64) ∧ sh[205]? = some (100, 12) ∧ sh[206]? = some (101, 768) ∧ sh[207]? = some (100, 54) ∧ sh[208]? = some (100, 18) ∧ sh[209]? = some (100, 18) ∧ sh[210]? = some (101, 6) ∧ sh[211]? = some (100, 720) ∧ sh[212]? = some (100, 20) ∧ sh[213]? = some (100, 360) ∧ sh[214]? = some (100, 1200) ∧ sh[215]? = some (100, 1200) ∧ sh[216]? = some (102, 1) := ⟨h.1 0 _ rfl, h.1 1 _ rfl, h.1 2 _ rfl, h.1 3 _ rfl, h.1 4 _ rfl, h.1 5 _ rfl, h.1 6 _ rfl, h.1 7 _ rfl, h.1 8 _ rfl, h.1 9 _ rfl, h.1 10 _ rfl, h.1 11 _ rfl, h.1 12 _ rfl, h.1 13 _ rfl, h.1 14 _ rfl, h.1 71 _ rfl, h.1 72 _ rfl, h.1 73 _ rfl, h.1 74 _ rfl, h.1 195 _ rfl, h.1 196 _ rfl, h.1 197 _ rfl, h.1 198 _ rfl, h.1 199 _ rfl, h.1 200 _ rfl, h.1 201 _ rfl, h.1 202 _ rfl, h.1 203 _ rfl, h.1 204 _ rfl, h.1 205 _ rfl, h.1 206 _ rfl, h.1 207 _ rfl, h.1 208 _ rfl, h.1 209 _ rfl, h.1 210 _ rfl, h.1 211 _ rfl, h.1 212 _ rfl, h.1 213 _ rfl, h.1 214 _ rfl, h.1 215 _ rfl⟩
theorem LyG (h : Lay sh gr) : gr 1 0 = some 2 ∧ gr 1 1 = some 72 ∧ gr 1 2 = some 74 ∧ gr 1 3 = some 196 ∧ gr 2 0 = some 3 ∧ gr 2 1 = some 4 ∧ gr 2 2 = some 5 ∧ gr 2 3 = some 6 ∧ gr 2 4 = some 7 ∧ gr 2 5 = some 8 ∧ gr 2 6 = some 9 ∧ gr 2 7 = some 11 ∧ gr 2 8 = some 13 ∧ gr 9 0 = some 10 ∧ gr 11 0 = some 12 ∧ gr 13 0 = some 14 ∧ gr 13 1 = some 15 ∧ gr 72 0 = some 73 ∧ gr 74 0 = some 75 ∧ gr 196 0 = some 197 ∧ gr 196 1 = some 198 ∧ gr 199 2 = some 200 ∧ gr 199 3 = some 201 ∧ gr 199 4 = some 202 ∧ gr 199 5 = some 203 ∧ gr 199 6 = some 204 ∧ gr 199 8 = some 205 ∧ gr 199 9 = some 206 ∧ gr 199 10 = some 207 ∧ gr 199 13 = some 208 ∧ gr 199 14 = some 209 ∧ gr 199 15 = some 210 ∧ gr 199 17 = some 211 ∧ gr 199 20 = some 212 ∧ gr 199 21 = some 213 ∧ gr 199 22 = some 214 ∧ gr 199 23 = some 215 := ⟨h.2 1 0 _ rfl, h.2 1 1 _ rfl, h.2 1 2 _ rfl, h.2 1 3 _ rfl, h.2 2 0 _ rfl, h.2 2 1 _ rfl, h.2 2 2 _ rfl, h.2 2 3 _ rfl, h.2 2 4 _ rfl, h.2 2 5 _ rfl, h.2 2 6 _ rfl, h.2 2 7 _ rfl, h.2 2 8 _ rfl, h.2 9 0 _ rfl, h.2 11 0 _ rfl, h.2 13 0 _ rfl, h.2 13 1 _ rfl, h.2 72 0 _ rfl, h.2 74 0 _ rfl, h.2 196 0 _ rfl, h.2 196 1 _ rfl, h.2 199 2 _ rfl, h.2 199 3 _ rfl, h.2 199 4 _ rfl, h.2 199 5 _ rfl, h.2 199 6 _ rfl, h.2 199 8 _ rfl, h.2 199 9 _ rfl, h.2 199 10 _ rfl, h.2 199 13 _ rfl, h.2 199 14 _ rfl, h.2 199 15 _ rfl, h.2 199 17 _ rfl, h.2 199 20 _ rfl, h.2 199 21 _ rfl, h.2 199 22 _ rfl, h.2 199 23 _ rfl⟩
theorem shT_w : ∀ w, w < 8 → shT[15 + 4 * w]? = some (8, 4) ∧ shT[16 + 4 * w]? = some (100, 32) ∧ shT[17 + 4 * w]? = some (100, 32) ∧ shT[18 + 4 * w]? = some (101, 32) := by decide +kernel
theorem shT_p : ∀ k, k < 12 → shT[47 + 2 * k]? = some (5, 2) ∧ shT[48 + 2 * k]? = some (101, 61) := by decide +kernel
theorem shT_m : ∀ i, i < 20 → shT[75 + 6 * i]? = some (3, 4) ∧ shT[76 + 6 * i]? = some (6, 2) ∧ shT[77 + 6 * i]? = some (100, 6) ∧ shT[78 + 6 * i]? = some (100, 12) ∧ shT[79 + 6 * i]? = some (100, 60) ∧ shT[80 + 6 * i]? = some (100, 60) := by decide +kernel
theorem grT_w : ∀ w, w < 8 → grT 3 w = some (16 + 4 * w) ∧ grT (16 + 4 * w) 0 = some (17 + 4 * w) ∧ grT (16 + 4 * w) 1 = some (18 + 4 * w) ∧ grT (16 + 4 * w) 2 = some (19 + 4 * w) := by decide +kernel
theorem grT_p : ∀ k, k < 12 → grT 6 k = some (48 + 2 * k) ∧ grT (48 + 2 * k) 0 = some (49 + 2 * k) := by decide +kernel
theorem grT_m : ∀ i, i < 20 → grT 75 i = some (76 + 6 * i) ∧ grT (76 + 6 * i) 0 = some (77 + 6 * i) ∧ grT (76 + 6 * i) 1 = some (80 + 6 * i) ∧ grT (76 + 6 * i) 2 = some (81 + 6 * i) ∧ grT (77 + 6 * i) 0 = some (78 + 6 * i) ∧ grT (77 + 6 * i) 1 = some (79 + 6 * i) := by decide +kernel
/-- wheel w: its object, its two wirings, its notches; pin wheel k: object, pins; message i: object, start, positions, places, keyed, came -/
def wO (w : Nat) : Nat := 16 + 4 * w
def wL (w : Nat) : Nat := 17 + 4 * w
def wC (w : Nat) : Nat := 18 + 4 * w
def wN (w : Nat) : Nat := 19 + 4 * w
def pO (k : Nat) : Nat := 48 + 2 * k
def pU (k : Nat) : Nat := 49 + 2 * k
def gO (i : Nat) : Nat := 76 + 6 * i
def gS (i : Nat) : Nat := 77 + 6 * i
def gP (i : Nat) : Nat := 78 + 6 * i
def gQ (i : Nat) : Nat := 79 + 6 * i
def gK (i : Nat) : Nat := 80 + 6 * i
def gC (i : Nat) : Nat := 81 + 6 * i
theorem LyW (h : Lay sh gr) {w : Nat} (hw : w < 8) : sh[wO w]? = some (8, 4) ∧ sh[wL w]? = some (100, 32) ∧ sh[wC w]? = some (100, 32) ∧ sh[wN w]? = some (101, 32) ∧ gr 3 w = some (wO w) ∧ gr (wO w) 0 = some (wL w) ∧ gr (wO w) 1 = some (wC w) ∧ gr (wO w) 2 = some (wN w) := by
  obtain ⟨a, b, c, d⟩ := shT_w w hw
  obtain ⟨e, f, g, i⟩ := grT_w w hw
  have q := fun k z h9 => h.1 k z h9
  refine ⟨?_, ?_, ?_, ?_, h.2 _ _ _ e, h.2 _ _ _ f, h.2 _ _ _ g, h.2 _ _ _ i⟩
  · have := q _ _ a
    rwa [show 15 + 4 * w + 1 = wO w by unfold wO; omega] at this
  · have := q _ _ b
    rwa [show 16 + 4 * w + 1 = wL w by unfold wL; omega] at this
  · have := q _ _ c
    rwa [show 17 + 4 * w + 1 = wC w by unfold wC; omega] at this
  · have := q _ _ d
    rwa [show 18 + 4 * w + 1 = wN w by unfold wN; omega] at this
theorem LyP (h : Lay sh gr) {k : Nat} (hk : k < 12) : sh[pO k]? = some (5, 2) ∧ sh[pU k]? = some (101, 61) ∧ gr 6 k = some (pO k) ∧ gr (pO k) 0 = some (pU k) := by
  obtain ⟨a, b⟩ := shT_p k hk
  obtain ⟨e, f⟩ := grT_p k hk
  refine ⟨?_, ?_, h.2 _ _ _ e, h.2 _ _ _ f⟩
  · have := h.1 _ _ a
    rwa [show 47 + 2 * k + 1 = pO k by unfold pO; omega] at this
  · have := h.1 _ _ b
    rwa [show 48 + 2 * k + 1 = pU k by unfold pU; omega] at this
theorem LyM (h : Lay sh gr) {i : Nat} (hi : i < 20) : sh[gO i]? = some (3, 4) ∧ sh[gS i]? = some (6, 2) ∧ sh[gP i]? = some (100, 6) ∧ sh[gQ i]? = some (100, 12) ∧ sh[gK i]? = some (100, 60) ∧ sh[gC i]? = some (100, 60) ∧ gr 75 i = some (gO i) ∧ gr (gO i) 0 = some (gS i) ∧ gr (gO i) 1 = some (gK i) ∧ gr (gO i) 2 = some (gC i) ∧ gr (gS i) 0 = some (gP i) ∧ gr (gS i) 1 = some (gQ i) := by
  obtain ⟨a, b, c, d, e, f⟩ := shT_m i hi
  obtain ⟨g1, g2, g3, g4, g5, g6⟩ := grT_m i hi
  refine ⟨?_, ?_, ?_, ?_, ?_, ?_, h.2 _ _ _ g1, h.2 _ _ _ g2, h.2 _ _ _ g3, h.2 _ _ _ g4, h.2 _ _ _ g5, h.2 _ _ _ g6⟩
  · have := h.1 _ _ a
    rwa [show 75 + 6 * i + 1 = gO i by unfold gO; omega] at this
  · have := h.1 _ _ b
    rwa [show 76 + 6 * i + 1 = gS i by unfold gS; omega] at this
  · have := h.1 _ _ c
    rwa [show 77 + 6 * i + 1 = gP i by unfold gP; omega] at this
  · have := h.1 _ _ d
    rwa [show 78 + 6 * i + 1 = gQ i by unfold gQ; omega] at this
  · have := h.1 _ _ e
    rwa [show 79 + 6 * i + 1 = gK i by unfold gK; omega] at this
  · have := h.1 _ _ f
    rwa [show 80 + 6 * i + 1 = gC i by unfold gC; omega] at this
theorem Lay.app (h : Lay sh gr) (z : Nat × Nat) : Lay (sh ++ [z]) gr := by
  refine ⟨fun k y hk => ?_, h.2⟩
  have h1 := h.1 k y hk
  rw [List.getElem?_append_left (List.getElem?_eq_some_iff.mp h1).1]
  exact h1
end
/-- ints of cells as integers -/
def oA (A : Nat → Nat → Int) : Nat → Nat → Int32 := fun k j => oi (A k j)
theorem oA_ap (A : Nat → Nat → Int) (k j : Nat) : oA A k j = oi (A k j) := rfl
theorem oA_u2 (A : Nat → Nat → Int) (k j : Nat) (v : Int) : u2 (oA A) k j (oi v) = oA (u2 A k j v) := by
  funext a b
  unfold oA u2
  by_cases h1 : a = k
  · by_cases h2 : b = j
    · simp [h1, h2]
    · simp [h1, h2]
  · simp [h1]
theorem oA_all (g : Nat → Nat → Int32) : ∃ A : Nat → Nat → Int, (∀ k j, sm (A k j)) ∧ g = oA A := by
  refine ⟨fun k j => (g k j).toInt, fun k j => ⟨?_, ?_⟩, ?_⟩
  · have := Int32.le_toInt (g k j); show -2147483648 ≤ (g k j).toInt; omega
  · have := Int32.toInt_lt (g k j); show (g k j).toInt < 2147483648; omega
  · funext k j
    exact (Int32.ofInt_toInt (g k j)).symm
/-- small, as a word for rewriting -/
def sb (a : Int) : Prop := -2147483648 ≤ a ∧ a < 2147483648
theorem pi_lt {a b : Int} (ha : sb a) (hb : sb b) : oi a < oi b ↔ a < b := oi_lt ha hb
theorem pi_le {a b : Int} (ha : sb a) (hb : sb b) : oi a ≤ oi b ↔ a ≤ b := oi_le ha hb
theorem pi_eq {a b : Int} (ha : sb a) (hb : sb b) : oi a = oi b ↔ a = b := oi_eq ha hb
theorem pi_eq0 {a : Int} (ha : sb a) : oi a = 0 ↔ a = 0 := oi_eq0 ha
theorem pi_lt0 {a : Int} (ha : sb a) : oi a < 0 ↔ a < 0 := oi_lt0 ha
theorem pi_le0 {a : Int} (ha : sb a) : oi a ≤ 0 ↔ a ≤ 0 := oi_le0 ha
theorem pi_gt0 {a : Int} (ha : sb a) : 0 < oi a ↔ 0 < a := oi_gt0 ha
theorem pi_ge0 {a : Int} (ha : sb a) : 0 ≤ oi a ↔ 0 ≤ a := oi_ge0 ha
theorem pi_cl {a : Int} (ha : sb a) : (oi a).toNatClampNeg = a.toNat := oi_cl ha
theorem sb_n {n : Nat} (h : n < 5000) : sb (n : Int) := ⟨by omega, by omega⟩
theorem sb_lit : sb 0 ∧ sb 1 ∧ sb 2 ∧ sb 3 ∧ sb 4 ∧ sb 5 ∧ sb 6 ∧ sb 8 ∧ sb 10 ∧ sb 12 ∧ sb 18 ∧ sb 20 ∧ sb 26 ∧ sb 27 ∧ sb 32 ∧ sb 40 ∧ sb 54 ∧ sb 60 ∧ sb 61 ∧ sb 64 ∧ sb 256 ∧ sb 5000 ∧ sb (-1) := by
  refine ⟨?_, ?_, ?_, ?_, ?_, ?_, ?_, ?_, ?_, ?_, ?_, ?_, ?_, ?_, ?_, ?_, ?_, ?_, ?_, ?_, ?_, ?_, ?_⟩ <;> exact ⟨by decide, by decide⟩
theorem isB_oi {v : Int} (h : v = 0 ∨ v = 1) : isB (oi v) = true := by
  rcases h with rfl | rfl <;> decide +kernel
theorem oi_1 : (1 : Int32) = oi 1 := by decide +kernel
