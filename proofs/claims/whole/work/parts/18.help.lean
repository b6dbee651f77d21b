/-! small facts for rewriting -/
theorem nlt0 (n : Nat) : ((n : Int) < 0) = False := by simp
theorem rd_in {a : Int} {m : Int} (h0 : -m ≤ a) (h1 : a < 2 * m) : 0 ≤ rd a m ∧ rd a m < m := by
  unfold rd
  repeat' split
  all_goals omega
theorem wO_ne (w : Nat) : wO w ≠ 0 := by unfold wO; omega
theorem wL_ne (w : Nat) : wL w ≠ 0 := by unfold wL; omega
theorem wC_ne (w : Nat) : wC w ≠ 0 := by unfold wC; omega
theorem wN_ne (w : Nat) : wN w ≠ 0 := by unfold wN; omega
theorem pO_ne (w : Nat) : pO w ≠ 0 := by unfold pO; omega
theorem pU_ne (w : Nat) : pU w ≠ 0 := by unfold pU; omega
