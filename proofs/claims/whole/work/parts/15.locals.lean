/-! what locals hold behind a store -/
def nl (ls : Lc) : Bool := ls.all (fun q => q.2.category == 1)
theorem lget_lput {ls : Lc} (h : nl ls = true) (i k : Nat) (v : Value) : lget (lput ls i v) k = if k = i then some v else lget ls k := by
  unfold lget lput
  rw [List.find?_cons]
  by_cases hk : k = i
  · subst hk
    simp
  · have e : (i == k) = false := by simpa using fun h => hk h.symm
    rw [if_neg hk]
    simp only [e]
    rw [List.find?_filter]
    congr 1
    unfold nl at h
    rw [List.all_eq_true] at h
    induction ls with
    | nil => rfl
    | cons q t ih =>
      have hq := h q List.mem_cons_self
      have hc : q.2.category = 1 := by simpa using hq
      have ih' := ih (fun x hx => h x (List.mem_cons_of_mem _ hx))
      rw [List.find?_cons, List.find?_cons, ih']
      by_cases hqk : q.1 = k
      · have e1 : (q.1 == k) = true := by simp [hqk]
        have e2 : (q.1 == i) = false := by simpa [hqk] using hk
        simp [e1, e2, hc]
      · have e1 : (q.1 == k) = false := by simpa using hqk
        simp [e1]
theorem nl_lput {ls : Lc} (h : nl ls = true) (i : Nat) {v : Value} (hv : v.category = 1) : nl (lput ls i v) = true := by
  unfold nl lput at *
  rw [List.all_eq_true] at *
  intro q hq
  rcases List.mem_cons.mp hq with rfl | hq
  · simp [hv]
  · exact h q (List.mem_filter.mp hq).1
theorem fv4 : ((0 : Fin 4) : Nat) = 0 ∧ ((1 : Fin 4) : Nat) = 1 ∧ ((2 : Fin 4) : Nat) = 2 ∧ ((3 : Fin 4) : Nat) = 3 := ⟨rfl, rfl, rfl, rfl⟩
theorem isB01 : isB (oi 0) = true ∧ isB (oi 1) = true := ⟨by decide +kernel, by decide +kernel⟩
