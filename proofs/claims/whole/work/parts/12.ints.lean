/-! ints of the machine as small integers -/
def oi (z : Int) : Int32 := Int32.ofInt z
abbrev sm (a : Int) : Prop := -2147483648 ≤ a ∧ a < 2147483648
theorem oi_of (z : Int) : Int32.ofInt z = oi z := rfl
theorem oi_add (a b : Int) : oi a + oi b = oi (a + b) := (Int32.ofInt_add a b).symm
theorem oi_sub (a b : Int) : oi a - oi b = oi (a - b) := (Int32.ofInt_sub a b).symm
theorem oi_mul (a b : Int) : oi a * oi b = oi (a * b) := (Int32.ofInt_mul a b).symm
theorem oi_toInt {a : Int} (h : sm a) : (oi a).toInt = a := Int32.toInt_ofInt_of_le (by have := h.1; omega) (by have := h.2; omega)
theorem oi_lt {a b : Int} (ha : sm a) (hb : sm b) : oi a < oi b ↔ a < b := by rw [Int32.lt_iff_toInt_lt, oi_toInt ha, oi_toInt hb]
theorem oi_le {a b : Int} (ha : sm a) (hb : sm b) : oi a ≤ oi b ↔ a ≤ b := by rw [Int32.le_iff_toInt_le, oi_toInt ha, oi_toInt hb]
theorem oi_eq {a b : Int} (ha : sm a) (hb : sm b) : oi a = oi b ↔ a = b := by rw [← Int32.toInt_inj, oi_toInt ha, oi_toInt hb]
theorem oi_0 : (0 : Int32) = oi 0 := by decide +kernel
theorem oi_eq0 {a : Int} (ha : sm a) : oi a = 0 ↔ a = 0 := by rw [oi_0, oi_eq ha (by decide)]
theorem oi_lt0 {a : Int} (ha : sm a) : oi a < 0 ↔ a < 0 := by rw [oi_0, oi_lt ha (by decide)]
theorem oi_le0 {a : Int} (ha : sm a) : oi a ≤ 0 ↔ a ≤ 0 := by rw [oi_0, oi_le ha (by decide)]
theorem oi_gt0 {a : Int} (ha : sm a) : 0 < oi a ↔ 0 < a := by rw [oi_0, oi_lt (by decide) ha]
theorem oi_ge0 {a : Int} (ha : sm a) : 0 ≤ oi a ↔ 0 ≤ a := by rw [oi_0, oi_le (by decide) ha]
theorem oi_cl {a : Int} (h : sm a) : (oi a).toNatClampNeg = a.toNat := by rw [← Int32.toNat_toInt, oi_toInt h]
theorem oi_in {a : Int} {n : Nat} (h0 : 0 ≤ a) (h1 : a < n) (hn : n < 2147483648) : (oi a < 0 ∨ n ≤ (oi a).toNatClampNeg) ↔ False := by
  have hs : sm a := ⟨by omega, by omega⟩
  rw [oi_lt0 hs, oi_cl hs]
  constructor
  · intro h
    omega
  · exact False.elim
theorem oi_all (x : Int32) : ∃ a : Int, sm a ∧ x = oi a := ⟨x.toInt, ⟨by have := Int32.le_toInt x; omega, by have := Int32.toInt_lt x; omega⟩, (Int32.ofInt_toInt x).symm⟩
/-- what needs no division: one round off at most -/
def rd (a n : Int) : Int := if a < 0 then a + n else if n ≤ a then a - n else a
