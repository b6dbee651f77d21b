/-! small facts for rewriting -/
theorem nlt0 (n : Nat) : ((n : Int) < 0) = False := by simp
theorem rd_in {a : Int} {m : Int} (h0 : -m ≤ a) (h1 : a < 2 * m) : 0 ≤ rd a m ∧ rd a m < m := by
  unfold rd
  repeat' split
  all_goals omega
theorem wO_ne (w : Nat) : wO w ≠ 0 := by unfold wO; omega
theorem wL_ne (w : Nat) : wL w ≠ 0 := by unfold wL; omega
theorem wC_ne (w : Nat) : wC w ≠ 0 := by unfold wC; omega
theorem wN_ne (w : Nat) : wN w ≠ 0 := by unfold wN; omega
theorem pO_ne (w : Nat) : pO w ≠ 0 := by unfold pO; omega
theorem pU_ne (w : Nat) : pU w ≠ 0 := by unfold pU; omega
theorem EvU_0 (stp : Nat → Bool) (mi pc : Nat) (ls : Lc) (st : List Value) (h : Hp) (sl : Nat) (r : Out) : EvU stp 0 mi pc ls st h sl r ↔ Ev (mi, pc, ls, st, h, sl) r := Iff.rfl
theorem nl_I {ls : Lc} (h : nl ls = true) (i : Nat) (x : Int32) : nl (lput ls i (.int x)) = true := nl_lput h i rfl
theorem nl_R {ls : Lc} (h : nl ls = true) (i : Nat) (x : Nat) : nl (lput ls i (.ref x)) = true := nl_lput h i rfl
theorem cat_i (x : Int32) : (Value.int x).category = 1 := rfl
theorem cat_r (a : Nat) : (Value.ref a).category = 1 := rfl
theorem cat_l (x : Int64) : (Value.long x).category = 2 := rfl
