/-! slots, pins, places, all anew: kept -/
section
variable {A A' B B' : Nat → Nat → Int}
theorem putL_ne : ∀ (n s : Nat) (A : Nat → Nat → Int) {a b : Nat}, a ≠ 5 → (a = 2 → b ≠ 10) → putL n s A a b = A a b := by
  intro n
  induction n with
  | zero => exact fun s A a b _ _ => rfl
  | succ n ih =>
    intro s A a b h1 h2
    rw [putL, ih _ _ h1 h2]
    split
    · rfl
    · by_cases c : a = 2
      · subst c
        rw [uj_ne (h2 rfl), uk_ne h1]
      · rw [uk_ne c, uk_ne h1]
theorem putL_ord (q : Nat → Int) : ∀ (n s : Nat) (A : Nat → Nat → Int), (∀ b, A 4 b = q b) → A 2 10 = (((List.range s).filter (fun s => decide (q s ≠ -1))).length : Nat) → (∀ i, i < ((List.range s).filter (fun s => decide (q s ≠ -1))).length → A 5 i = (((List.range s).filter (fun s => decide (q s ≠ -1))).getD i 0 : Nat)) →
    putL n s A 2 10 = (((List.range (s + n)).filter (fun s => decide (q s ≠ -1))).length : Nat) ∧ ∀ i, i < ((List.range (s + n)).filter (fun s => decide (q s ≠ -1))).length → putL n s A 5 i = (((List.range (s + n)).filter (fun s => decide (q s ≠ -1))).getD i 0 : Nat) := by
  intro n
  induction n with
  | zero => exact fun s A _ h1 h2 => ⟨h1, h2⟩
  | succ n ih =>
    intro s A h0 h1 h2
    have e : s + (n + 1) = s + 1 + n := by omega
    rw [putL, e]
    generalize hl : (List.range s).filter (fun s => decide (q s ≠ -1)) = l at *
    have hs : (List.range (s + 1)).filter (fun s => decide (q s ≠ -1)) = l ++ (if q s = -1 then [] else [s]) := by
      rw [List.range_succ, List.filter_append, hl]
      by_cases c : q s = -1
      · simp [c]
      · simp [c]
    by_cases c : q s = -1
    · rw [h0 s, if_pos c]
      rw [if_pos c, List.append_nil] at hs
      refine ih (s + 1) A h0 ?_ ?_
      · rw [hs]
        exact h1
      · rw [hs]
        exact h2
    · rw [h0 s, if_neg c]
      rw [if_neg c] at hs
      refine ih (s + 1) _ (fun b => ?_) ?_ ?_
      · rw [uk_ne (by omega), uk_ne (by omega)]
        exact h0 b
      · rw [hs, ue_eq, h1, List.length_append]
        rfl
      · rw [hs]
        intro i hi
        rw [uk_ne (by omega)]
        have hn : (A 2 10).toNat = l.length := by omega
        rw [hn]
        by_cases ci : i = l.length
        · subst ci
          rw [ue_eq, List.getD_eq_getElem?_getD, List.getElem?_append_right (Nat.le_refl _)]
          simp
        · rw [List.length_append] at hi
          have hi' : i < l.length := by
            simp at hi
            omega
          rw [uj_ne ci, h2 i hi', List.getD_eq_getElem?_getD, List.getD_eq_getElem?_getD, List.getElem?_append_left hi']
theorem put_ord (B : Nat → Nat → Int) (h0 : B 2 10 = 0) : ∃ k, OrdAt (putL 6 0 B) k := by
  obtain ⟨k, hk, hb⟩ := mask_ex (fun s => decide (B 4 s ≠ -1))
  have e : (List.range 6).filter (fun s => decide (B 4 s ≠ -1)) = ordM k := by
    unfold ordM
    refine List.filter_congr (fun s hs => ?_)
    exact (hb s (List.mem_range.mp hs)).symm
  have p := putL_ord (fun s => B 4 s) 6 0 B (fun b => rfl) h0 (fun i hi => absurd hi (Nat.not_lt_zero i))
  simp only [Nat.zero_add] at p
  rw [e] at p
  refine ⟨k, hk, fun s hs => ?_, p.1, p.2⟩
  rw [putL_ne 6 0 B (by omega) (by omega), hb s hs, decide_eq_true_eq]
theorem rl_fill (h : RL A B) {t : Nat} {x : Int} (ht : t < 6) (hx : -1 ≤ x ∧ x < 8) : RL (u2 (u2 A 199 0 0) 203 t x) (putL 6 0 (u2 (u2 B 4 t x) 2 10 0)) := by
  have eB : ∀ a b, (a ≠ 5 ∧ (a = 2 → b ≠ 10)) ∧ (a = 4 → b ≠ t) → putL 6 0 (u2 (u2 B 4 t x) 2 10 0) a b = B a b := by
    intro a b hab
    rw [putL_ne 6 0 _ hab.1.1 hab.1.2]
    by_cases c : a = 2
    · subst c
      rw [uj_ne (hab.1.2 rfl), uk_ne (by omega)]
    · rw [uk_ne c]
      by_cases c2 : a = 4
      · subst c2
        rw [uj_ne (hab.2 rfl)]
      · rw [uk_ne c2]
  have e4 : ∀ s, putL 6 0 (u2 (u2 B 4 t x) 2 10 0) 4 s = if s = t then x else B 4 s := by
    intro s
    rw [putL_ne 6 0 _ (by omega) (by omega), uk_ne (by omega)]
    by_cases c : s = t
    · subst c
      rw [ue_eq, if_pos rfl]
    · rw [uj_ne c, if_neg c]
  have eA : ∀ a b, (a = 199 → b ≠ 0) ∧ a ≠ 203 → u2 (u2 A 199 0 0) 203 t x a b = A a b := by
    intro a b hab
    rw [uk_ne hab.2]
    by_cases c : a = 199
    · subst c
      rw [uj_ne (hab.1 rfl)]
    · rw [uk_ne c]
  refine h.set ⟨h.O.M.k_m3 (eB 2 9 (by first | omega | (simp only [wO, wL, wC, wN, pO, pU, gO, gS, gP, gQ, gK, gC]; omega))), h.O.M.k_wi (eB 2 9 (by first | omega | (simp only [wO, wL, wC, wN, pO, pU, gO, gS, gP, gQ, gK, gC]; omega))) (fun w hw b => eB _ _ (by first | omega | (simp only [wO, wL, wC, wN, pO, pU, gO, gS, gP, gQ, gK, gC]; omega))) (fun w hw b => eB _ _ (by first | omega | (simp only [wO, wL, wC, wN, pO, pU, gO, gS, gP, gQ, gK, gC]; omega))), h.O.M.k_wj (eB 2 9 (by first | omega | (simp only [wO, wL, wC, wN, pO, pU, gO, gS, gP, gQ, gK, gC]; omega))) (fun w hw b => eB _ _ (by first | omega | (simp only [wO, wL, wC, wN, pO, pU, gO, gS, gP, gQ, gK, gC]; omega))) (fun w hw b => eB _ _ (by first | omega | (simp only [wO, wL, wC, wN, pO, pU, gO, gS, gP, gQ, gK, gC]; omega))), h.O.M.k_ring (eB 2 9 (by first | omega | (simp only [wO, wL, wC, wN, pO, pU, gO, gS, gP, gQ, gK, gC]; omega))) (fun w hw => eB _ _ (by first | omega | (simp only [wO, wL, wC, wN, pO, pU, gO, gS, gP, gQ, gK, gC]; omega))), h.O.M.k_notch (fun w hw b => eB _ _ (by first | omega | (simp only [wO, wL, wC, wN, pO, pU, gO, gS, gP, gQ, gK, gC]; omega))), ?_, ?_, h.O.M.k_pp (eB 2 9 (by first | omega | (simp only [wO, wL, wC, wN, pO, pU, gO, gS, gP, gQ, gK, gC]; omega))) (fun b => eB 10 b (by first | omega | (simp only [wO, wL, wC, wN, pO, pU, gO, gS, gP, gQ, gK, gC]; omega))), h.O.M.k_pr (eB 2 9 (by first | omega | (simp only [wO, wL, wC, wN, pO, pU, gO, gS, gP, gQ, gK, gC]; omega))) (fun b => eB 12 b (by first | omega | (simp only [wO, wL, wC, wN, pO, pU, gO, gS, gP, gQ, gK, gC]; omega))), h.O.M.k_cp (eB 2 9 (by first | omega | (simp only [wO, wL, wC, wN, pO, pU, gO, gS, gP, gQ, gK, gC]; omega))) (fun b => eB 9 b (by first | omega | (simp only [wO, wL, wC, wN, pO, pU, gO, gS, gP, gQ, gK, gC]; omega))) (fun b => eB 10 b (by first | omega | (simp only [wO, wL, wC, wN, pO, pU, gO, gS, gP, gQ, gK, gC]; omega))), h.O.M.k_cr (eB 2 9 (by first | omega | (simp only [wO, wL, wC, wN, pO, pU, gO, gS, gP, gQ, gK, gC]; omega))) (fun b => eB 11 b (by first | omega | (simp only [wO, wL, wC, wN, pO, pU, gO, gS, gP, gQ, gK, gC]; omega))) (fun b => eB 12 b (by first | omega | (simp only [wO, wL, wC, wN, pO, pU, gO, gS, gP, gQ, gK, gC]; omega))), h.O.M.k_refl (eB 2 13 (by first | omega | (simp only [wO, wL, wC, wN, pO, pU, gO, gS, gP, gQ, gK, gC]; omega))), h.O.M.k_len (fun k hk => eB _ _ (by first | omega | (simp only [wO, wL, wC, wN, pO, pU, gO, gS, gP, gQ, gK, gC]; omega))), h.O.M.k_ups (fun w hw b => eB _ _ (by first | omega | (simp only [wO, wL, wC, wN, pO, pU, gO, gS, gP, gQ, gK, gC]; omega))), h.O.M.k_lug (fun b => eB 7 b (by first | omega | (simp only [wO, wL, wC, wN, pO, pU, gO, gS, gP, gQ, gK, gC]; omega))) (fun b => eB 8 b (by first | omega | (simp only [wO, wL, wC, wN, pO, pU, gO, gS, gP, gQ, gK, gC]; omega))), h.O.M.k_rule (eB 2 11 (by first | omega | (simp only [wO, wL, wC, wN, pO, pU, gO, gS, gP, gQ, gK, gC]; omega))), h.O.M.k_way (eB 2 12 (by first | omega | (simp only [wO, wL, wC, wN, pO, pU, gO, gS, gP, gQ, gK, gC]; omega)))⟩ ⟨h.R.k_m (eA 199 1 (by first | omega | (simp only [wO, wL, wC, wN, pO, pU, gO, gS, gP, gQ, gK, gC]; omega))) (eB 2 9 (by first | omega | (simp only [wO, wL, wC, wN, pO, pU, gO, gS, gP, gQ, gK, gC]; omega))), h.R.k_wir (fun b => eA 200 b (by first | omega | (simp only [wO, wL, wC, wN, pO, pU, gO, gS, gP, gQ, gK, gC]; omega))) (fun w hw b => eB _ _ (by first | omega | (simp only [wO, wL, wC, wN, pO, pU, gO, gS, gP, gQ, gK, gC]; omega))), h.R.k_ring (fun b => eA 201 b (by first | omega | (simp only [wO, wL, wC, wN, pO, pU, gO, gS, gP, gQ, gK, gC]; omega))) (fun w hw => eB _ _ (by first | omega | (simp only [wO, wL, wC, wN, pO, pU, gO, gS, gP, gQ, gK, gC]; omega))), h.R.k_notch (fun b => eA 202 b (by first | omega | (simp only [wO, wL, wC, wN, pO, pU, gO, gS, gP, gQ, gK, gC]; omega))) (fun w hw b => eB _ _ (by first | omega | (simp only [wO, wL, wC, wN, pO, pU, gO, gS, gP, gQ, gK, gC]; omega))), ?_, h.R.k_pp (fun b => eA 204 b (by first | omega | (simp only [wO, wL, wC, wN, pO, pU, gO, gS, gP, gQ, gK, gC]; omega))) (fun b => eB 10 b (by first | omega | (simp only [wO, wL, wC, wN, pO, pU, gO, gS, gP, gQ, gK, gC]; omega))), h.R.k_pr (fun b => eA 204 b (by first | omega | (simp only [wO, wL, wC, wN, pO, pU, gO, gS, gP, gQ, gK, gC]; omega))) (fun b => eB 12 b (by first | omega | (simp only [wO, wL, wC, wN, pO, pU, gO, gS, gP, gQ, gK, gC]; omega))), h.R.k_refl (eA 199 7 (by first | omega | (simp only [wO, wL, wC, wN, pO, pU, gO, gS, gP, gQ, gK, gC]; omega))) (eB 2 13 (by first | omega | (simp only [wO, wL, wC, wN, pO, pU, gO, gS, gP, gQ, gK, gC]; omega))), h.R.k_len (fun b => eA 205 b (by first | omega | (simp only [wO, wL, wC, wN, pO, pU, gO, gS, gP, gQ, gK, gC]; omega))) (fun k hk => eB _ _ (by first | omega | (simp only [wO, wL, wC, wN, pO, pU, gO, gS, gP, gQ, gK, gC]; omega))), h.R.k_ups (fun b => eA 206 b (by first | omega | (simp only [wO, wL, wC, wN, pO, pU, gO, gS, gP, gQ, gK, gC]; omega))) (fun k hk => eB _ _ (by first | omega | (simp only [wO, wL, wC, wN, pO, pU, gO, gS, gP, gQ, gK, gC]; omega))) (fun w hw b => eB _ _ (by first | omega | (simp only [wO, wL, wC, wN, pO, pU, gO, gS, gP, gQ, gK, gC]; omega))), h.R.k_lug (fun b => eA 207 b (by first | omega | (simp only [wO, wL, wC, wN, pO, pU, gO, gS, gP, gQ, gK, gC]; omega))) (fun b => eB 7 b (by first | omega | (simp only [wO, wL, wC, wN, pO, pU, gO, gS, gP, gQ, gK, gC]; omega))) (fun b => eB 8 b (by first | omega | (simp only [wO, wL, wC, wN, pO, pU, gO, gS, gP, gQ, gK, gC]; omega))), h.R.k_rule (eA 199 11 (by first | omega | (simp only [wO, wL, wC, wN, pO, pU, gO, gS, gP, gQ, gK, gC]; omega))) (eB 2 11 (by first | omega | (simp only [wO, wL, wC, wN, pO, pU, gO, gS, gP, gQ, gK, gC]; omega))), h.R.k_way (eA 199 12 (by first | omega | (simp only [wO, wL, wC, wN, pO, pU, gO, gS, gP, gQ, gK, gC]; omega))) (eB 2 12 (by first | omega | (simp only [wO, wL, wC, wN, pO, pU, gO, gS, gP, gQ, gK, gC]; omega)))⟩ (fun a b h1 h2 => eB a b (by omega)) (eB 2 9 (by omega)) (fun k hk => eB _ _ (by first | omega | (simp only [wO, wL, wC, wN, pO, pU, gO, gS, gP, gQ, gK, gC]; omega))) (fun a b hb => eA a b (by omega))
  · intro s hs
    rw [e4]
    split
    · exact hx
    · exact h.O.M.slot s hs
  · exact put_ord _ (by rw [ue_eq])
  · intro s hs
    rw [e4]
    by_cases c : s = t
    · subst c
      rw [ue_eq, if_pos rfl]
    · rw [uj_ne c, if_neg c, uk_ne (by omega)]
      exact h.R.slot s hs
theorem rl_pins (h : RL A B) {k : Nat} {x : Int} (hk : k < 12) (hx : 0 ≤ x ∧ x ≤ 61) : RL (u2 (u2 (fillR (u2 (u2 A 199 0 0) 205 k x) 206 (64 * k + 0) (64 * k + 64) (fun _ => 0)) 208 (6 + k) 0) 199 16 0) (u2 (u2 (u2 (fillR B (pU k) 0 61 (fun _ => 0)) (pO k) 1 x) 15 k 0) 72 2 0) := by
  have eB : ∀ a b, (a ≠ pU k ∧ a ≠ pO k ∧ a ≠ 15 ∧ a ≠ 72) → u2 (u2 (u2 (fillR B (pU k) 0 61 (fun _ => 0)) (pO k) 1 x) 15 k 0) 72 2 0 a b = B a b := by
    intro a b hab
    rw [uk_ne hab.2.2.2, uk_ne hab.2.2.1, uk_ne hab.2.1]
    unfold fillR
    rw [if_neg hab.1]
  have eA : ∀ a b, (a = 199 → b ≠ 0 ∧ b ≠ 16) ∧ a ≠ 205 ∧ a ≠ 206 ∧ a ≠ 208 → u2 (u2 (fillR (u2 (u2 A 199 0 0) 205 k x) 206 (64 * k + 0) (64 * k + 64) (fun _ => 0)) 208 (6 + k) 0) 199 16 0 a b = A a b := by
    intro a b hab
    by_cases c : a = 199
    · subst c
      rw [uj_ne (hab.1 rfl).2, uk_ne (by omega)]
      unfold fillR
      rw [if_neg (by omega), uk_ne (by omega), uj_ne (hab.1 rfl).1]
    · rw [uk_ne c, uk_ne hab.2.2.2]
      unfold fillR
      rw [if_neg hab.2.2.1, uk_ne hab.2.1, uk_ne c]
  have eO : ∀ v, v < 12 → u2 (u2 (u2 (fillR B (pU k) 0 61 (fun _ => 0)) (pO k) 1 x) 15 k 0) 72 2 0 (pO v) 1 = if v = k then x else B (pO v) 1 := by
    intro v hv
    rw [uk_ne (by unfold pO; omega), uk_ne (by unfold pO; omega)]
    by_cases c : v = k
    · subst c
      rw [ue_eq, if_pos rfl]
    · rw [uk_ne (by unfold pO; omega), if_neg c]
      unfold fillR
      rw [if_neg (by unfold pO pU; omega)]
  have eU : ∀ v j, v < 12 → u2 (u2 (u2 (fillR B (pU k) 0 61 (fun _ => 0)) (pO k) 1 x) 15 k 0) 72 2 0 (pU v) j = if v = k ∧ j < 61 then 0 else B (pU v) j := by
    intro v j hv
    rw [uk_ne (by unfold pU; omega), uk_ne (by unfold pU; omega), uk_ne (by unfold pO pU; omega)]
    unfold fillR
    by_cases c : v = k
    · subst c
      rw [if_pos rfl]
      by_cases c2 : j < 61
      · rw [if_pos ⟨by omega, c2⟩, if_pos ⟨rfl, c2⟩]
      · rw [if_neg (by omega), if_neg (by omega)]
    · rw [if_neg (by unfold pU; omega), if_neg (fun e => c e.1)]
  have e5 : ∀ j, j < 12 → u2 (u2 (u2 (fillR B (pU k) 0 61 (fun _ => 0)) (pO k) 1 x) 15 k 0) 72 2 0 15 j = if j = k then 0 else B 15 j := by
    intro j hj
    rw [uk_ne (by omega)]
    by_cases c : j = k
    · subst c
      rw [ue_eq, if_pos rfl]
    · rw [uj_ne c, if_neg c, uk_ne (by unfold pO; omega)]
      unfold fillR
      rw [if_neg (by unfold pU; omega)]
  refine ⟨⟨⟨h.O.M.k_m3 (eB 2 9 (by first | omega | (simp only [wO, wL, wC, wN, pO, pU, gO, gS, gP, gQ, gK, gC]; omega))), h.O.M.k_wi (eB 2 9 (by first | omega | (simp only [wO, wL, wC, wN, pO, pU, gO, gS, gP, gQ, gK, gC]; omega))) (fun w hw b => eB _ _ (by first | omega | (simp only [wO, wL, wC, wN, pO, pU, gO, gS, gP, gQ, gK, gC]; omega))) (fun w hw b => eB _ _ (by first | omega | (simp only [wO, wL, wC, wN, pO, pU, gO, gS, gP, gQ, gK, gC]; omega))), h.O.M.k_wj (eB 2 9 (by first | omega | (simp only [wO, wL, wC, wN, pO, pU, gO, gS, gP, gQ, gK, gC]; omega))) (fun w hw b => eB _ _ (by first | omega | (simp only [wO, wL, wC, wN, pO, pU, gO, gS, gP, gQ, gK, gC]; omega))) (fun w hw b => eB _ _ (by first | omega | (simp only [wO, wL, wC, wN, pO, pU, gO, gS, gP, gQ, gK, gC]; omega))), h.O.M.k_ring (eB 2 9 (by first | omega | (simp only [wO, wL, wC, wN, pO, pU, gO, gS, gP, gQ, gK, gC]; omega))) (fun w hw => eB _ _ (by first | omega | (simp only [wO, wL, wC, wN, pO, pU, gO, gS, gP, gQ, gK, gC]; omega))), h.O.M.k_notch (fun w hw b => eB _ _ (by first | omega | (simp only [wO, wL, wC, wN, pO, pU, gO, gS, gP, gQ, gK, gC]; omega))), h.O.M.k_slot (fun b => eB 4 b (by first | omega | (simp only [wO, wL, wC, wN, pO, pU, gO, gS, gP, gQ, gK, gC]; omega))), h.O.M.k_ord (fun b => eB 4 b (by first | omega | (simp only [wO, wL, wC, wN, pO, pU, gO, gS, gP, gQ, gK, gC]; omega))) (fun b => eB 5 b (by first | omega | (simp only [wO, wL, wC, wN, pO, pU, gO, gS, gP, gQ, gK, gC]; omega))) (eB 2 10 (by first | omega | (simp only [wO, wL, wC, wN, pO, pU, gO, gS, gP, gQ, gK, gC]; omega))), h.O.M.k_pp (eB 2 9 (by first | omega | (simp only [wO, wL, wC, wN, pO, pU, gO, gS, gP, gQ, gK, gC]; omega))) (fun b => eB 10 b (by first | omega | (simp only [wO, wL, wC, wN, pO, pU, gO, gS, gP, gQ, gK, gC]; omega))), h.O.M.k_pr (eB 2 9 (by first | omega | (simp only [wO, wL, wC, wN, pO, pU, gO, gS, gP, gQ, gK, gC]; omega))) (fun b => eB 12 b (by first | omega | (simp only [wO, wL, wC, wN, pO, pU, gO, gS, gP, gQ, gK, gC]; omega))), h.O.M.k_cp (eB 2 9 (by first | omega | (simp only [wO, wL, wC, wN, pO, pU, gO, gS, gP, gQ, gK, gC]; omega))) (fun b => eB 9 b (by first | omega | (simp only [wO, wL, wC, wN, pO, pU, gO, gS, gP, gQ, gK, gC]; omega))) (fun b => eB 10 b (by first | omega | (simp only [wO, wL, wC, wN, pO, pU, gO, gS, gP, gQ, gK, gC]; omega))), h.O.M.k_cr (eB 2 9 (by first | omega | (simp only [wO, wL, wC, wN, pO, pU, gO, gS, gP, gQ, gK, gC]; omega))) (fun b => eB 11 b (by first | omega | (simp only [wO, wL, wC, wN, pO, pU, gO, gS, gP, gQ, gK, gC]; omega))) (fun b => eB 12 b (by first | omega | (simp only [wO, wL, wC, wN, pO, pU, gO, gS, gP, gQ, gK, gC]; omega))), h.O.M.k_refl (eB 2 13 (by first | omega | (simp only [wO, wL, wC, wN, pO, pU, gO, gS, gP, gQ, gK, gC]; omega))), ?_, ?_, h.O.M.k_lug (fun b => eB 7 b (by first | omega | (simp only [wO, wL, wC, wN, pO, pU, gO, gS, gP, gQ, gK, gC]; omega))) (fun b => eB 8 b (by first | omega | (simp only [wO, wL, wC, wN, pO, pU, gO, gS, gP, gQ, gK, gC]; omega))), h.O.M.k_rule (eB 2 11 (by first | omega | (simp only [wO, wL, wC, wN, pO, pU, gO, gS, gP, gQ, gK, gC]; omega))), h.O.M.k_way (eB 2 12 (by first | omega | (simp only [wO, wL, wC, wN, pO, pU, gO, gS, gP, gQ, gK, gC]; omega)))⟩, ⟨fun s hs => ?_, fun v hv => ?_⟩, ⟨?_, ?_, fun j hj => ?_⟩, h.O.G.cg (eB _ _ (by first | omega | (simp only [wO, wL, wC, wN, pO, pU, gO, gS, gP, gQ, gK, gC]; omega))) (fun a b h1 h2 => eB _ _ (by first | omega | (simp only [wO, wL, wC, wN, pO, pU, gO, gS, gP, gQ, gK, gC]; omega)))⟩, ⟨h.R.k_m (eA 199 1 (by first | omega | (simp only [wO, wL, wC, wN, pO, pU, gO, gS, gP, gQ, gK, gC]; omega))) (eB 2 9 (by first | omega | (simp only [wO, wL, wC, wN, pO, pU, gO, gS, gP, gQ, gK, gC]; omega))), h.R.k_wir (fun b => eA 200 b (by first | omega | (simp only [wO, wL, wC, wN, pO, pU, gO, gS, gP, gQ, gK, gC]; omega))) (fun w hw b => eB _ _ (by first | omega | (simp only [wO, wL, wC, wN, pO, pU, gO, gS, gP, gQ, gK, gC]; omega))), h.R.k_ring (fun b => eA 201 b (by first | omega | (simp only [wO, wL, wC, wN, pO, pU, gO, gS, gP, gQ, gK, gC]; omega))) (fun w hw => eB _ _ (by first | omega | (simp only [wO, wL, wC, wN, pO, pU, gO, gS, gP, gQ, gK, gC]; omega))), h.R.k_notch (fun b => eA 202 b (by first | omega | (simp only [wO, wL, wC, wN, pO, pU, gO, gS, gP, gQ, gK, gC]; omega))) (fun w hw b => eB _ _ (by first | omega | (simp only [wO, wL, wC, wN, pO, pU, gO, gS, gP, gQ, gK, gC]; omega))), h.R.k_slot (fun b => eA 203 b (by first | omega | (simp only [wO, wL, wC, wN, pO, pU, gO, gS, gP, gQ, gK, gC]; omega))) (fun b => eB 4 b (by first | omega | (simp only [wO, wL, wC, wN, pO, pU, gO, gS, gP, gQ, gK, gC]; omega))), h.R.k_pp (fun b => eA 204 b (by first | omega | (simp only [wO, wL, wC, wN, pO, pU, gO, gS, gP, gQ, gK, gC]; omega))) (fun b => eB 10 b (by first | omega | (simp only [wO, wL, wC, wN, pO, pU, gO, gS, gP, gQ, gK, gC]; omega))), h.R.k_pr (fun b => eA 204 b (by first | omega | (simp only [wO, wL, wC, wN, pO, pU, gO, gS, gP, gQ, gK, gC]; omega))) (fun b => eB 12 b (by first | omega | (simp only [wO, wL, wC, wN, pO, pU, gO, gS, gP, gQ, gK, gC]; omega))), h.R.k_refl (eA 199 7 (by first | omega | (simp only [wO, wL, wC, wN, pO, pU, gO, gS, gP, gQ, gK, gC]; omega))) (eB 2 13 (by first | omega | (simp only [wO, wL, wC, wN, pO, pU, gO, gS, gP, gQ, gK, gC]; omega))), ?_, ?_, h.R.k_lug (fun b => eA 207 b (by first | omega | (simp only [wO, wL, wC, wN, pO, pU, gO, gS, gP, gQ, gK, gC]; omega))) (fun b => eB 7 b (by first | omega | (simp only [wO, wL, wC, wN, pO, pU, gO, gS, gP, gQ, gK, gC]; omega))) (fun b => eB 8 b (by first | omega | (simp only [wO, wL, wC, wN, pO, pU, gO, gS, gP, gQ, gK, gC]; omega))), h.R.k_rule (eA 199 11 (by first | omega | (simp only [wO, wL, wC, wN, pO, pU, gO, gS, gP, gQ, gK, gC]; omega))) (eB 2 11 (by first | omega | (simp only [wO, wL, wC, wN, pO, pU, gO, gS, gP, gQ, gK, gC]; omega))), h.R.k_way (eA 199 12 (by first | omega | (simp only [wO, wL, wC, wN, pO, pU, gO, gS, gP, gQ, gK, gC]; omega))) (eB 2 12 (by first | omega | (simp only [wO, wL, wC, wN, pO, pU, gO, gS, gP, gQ, gK, gC]; omega)))⟩, ⟨fun s hs => ?_, fun v hv => ?_⟩, RU.zero (by rw [ue_eq]) (by rw [ue_eq]), (h.G.cg (fun b hb => eA _ _ (by omega)) (fun a b h1 h2 => eA _ _ (by omega))).cgB h.O.G.ms.2 (fun a b h1 h2 => eB _ _ (by first | omega | (simp only [wO, wL, wC, wN, pO, pU, gO, gS, gP, gQ, gK, gC]; omega)))⟩
  · intro v hv
    rw [eO v hv]
    split
    · exact hx
    · exact h.O.M.len v hv
  · intro v hv j hj
    rw [eU v j hv]
    split
    · exact Or.inl rfl
    · exact h.O.M.ups v hv j hj
  · rw [eB _ _ (by first | omega | (simp only [wO, wL, wC, wN, pO, pU, gO, gS, gP, gQ, gK, gC]; omega)), eB _ _ (by first | omega | (simp only [wO, wL, wC, wN, pO, pU, gO, gS, gP, gQ, gK, gC]; omega))]
    exact h.O.P.pos s hs
  · rw [e5 v hv, eO v hv]
    by_cases c : v = k
    · rw [if_pos c, if_pos c]
      exact ⟨by omega, fun e => e, fun _ => rfl⟩
    · rw [if_neg c, if_neg c]
      exact h.O.P.pl v hv
  · rw [uj_ne (by omega), uk_ne (by omega), uk_ne (by first | omega | (simp only [wO, wL, wC, wN, pO, pU, gO, gS, gP, gQ, gK, gC]; omega))]
    unfold fillR
    rw [if_neg (by first | omega | (simp only [wO, wL, wC, wN, pO, pU, gO, gS, gP, gQ, gK, gC]; omega))]
    exact h.O.U.nx
  · rw [ue_eq]
    exact ⟨by omega, by omega⟩
  · rw [eB _ _ (by first | omega | (simp only [wO, wL, wC, wN, pO, pU, gO, gS, gP, gQ, gK, gC]; omega))]
    exact h.O.U.mv j hj
  · intro v hv
    rw [eO v hv, uk_ne (by omega), uk_ne (by omega)]
    unfold fillR
    rw [if_neg (by omega)]
    by_cases c : v = k
    · subst c
      rw [ue_eq, if_pos rfl]
    · rw [uj_ne c, if_neg c, uk_ne (by omega)]
      exact h.R.len v hv
  · intro v hv j hj
    rw [eO v hv] at hj
    rw [eU v j hv, uk_ne (by omega), uk_ne (by omega)]
    unfold fillR
    rw [if_pos rfl]
    by_cases c : v = k
    · subst c
      rw [if_pos rfl] at hj
      rw [if_pos (by omega), if_pos ⟨rfl, by omega⟩]
    · rw [if_neg c] at hj
      have l := h.O.M.len v hv
      rw [if_neg (by omega), if_neg (fun e => c e.1), uk_ne (by omega), uk_ne (by omega)]
      exact h.R.ups v hv j hj
  · rw [eB _ _ (by first | omega | (simp only [wO, wL, wC, wN, pO, pU, gO, gS, gP, gQ, gK, gC]; omega)), uk_ne (by omega), uj_ne (by omega)]
    unfold fillR
    rw [if_neg (by omega), uk_ne (by omega), uk_ne (by omega)]
    exact h.P.pos s hs
  · rw [e5 v hv, uk_ne (by omega)]
    by_cases c : v = k
    · subst c
      rw [ue_eq, if_pos rfl]
    · rw [uj_ne (by omega), if_neg c]
      unfold fillR
      rw [if_neg (by omega), uk_ne (by omega), uk_ne (by omega)]
      exact h.P.pl v hv
theorem rl_set0 (h : RL A B) {k : Nat} {x : Int} (hk : k < 6) (hx : 0 ≤ x ∧ x < B 2 9) : RL (u2 (u2 (u2 A 199 0 0) 208 k x) 199 16 0) (u2 (u2 B 14 k x) 72 2 0) := by
  have eB : ∀ a b, (a ≠ 14 ∧ a ≠ 72) → u2 (u2 B 14 k x) 72 2 0 a b = B a b := by
    intro a b hab
    rw [uk_ne hab.2, uk_ne hab.1]
  have eA : ∀ a b, (a = 199 → b ≠ 0 ∧ b ≠ 16) ∧ a ≠ 208 → u2 (u2 (u2 A 199 0 0) 208 k x) 199 16 0 a b = A a b := by
    intro a b hab
    by_cases c : a = 199
    · subst c
      rw [uj_ne (hab.1 rfl).2, uk_ne (by omega), uj_ne (hab.1 rfl).1]
    · rw [uk_ne c, uk_ne hab.2, uk_ne c]
  have eS : ∀ j, u2 (u2 B 14 k x) 72 2 0 14 j = if j = k then x else B 14 j := by
    intro j
    rw [uk_ne (by omega)]
    by_cases c : j = k
    · subst c
      rw [ue_eq, if_pos rfl]
    · rw [uj_ne c, if_neg c]
  refine ⟨⟨h.O.M.cg (fun a b h1 h2 h3 => eB a b (by omega)), ⟨fun s hs => ?_, fun v hv => ?_⟩, ⟨?_, ?_, fun j hj => ?_⟩, h.O.G.cg (eB _ _ (by first | omega | (simp only [wO, wL, wC, wN, pO, pU, gO, gS, gP, gQ, gK, gC]; omega))) (fun a b h1 h2 => eB _ _ (by first | omega | (simp only [wO, wL, wC, wN, pO, pU, gO, gS, gP, gQ, gK, gC]; omega)))⟩, (h.R.cg (fun b hb => eA _ _ (by omega)) (fun a b h1 h2 => eA _ _ (by omega))).cgB (fun a b h1 h2 h3 => eB a b (by omega)), ⟨fun s hs => ?_, fun v hv => ?_⟩, RU.zero (by rw [ue_eq]) (by rw [ue_eq]), (h.G.cg (fun b hb => eA _ _ (by omega)) (fun a b h1 h2 => eA _ _ (by omega))).cgB h.O.G.ms.2 (fun a b h1 h2 => eB _ _ (by first | omega | (simp only [wO, wL, wC, wN, pO, pU, gO, gS, gP, gQ, gK, gC]; omega)))⟩
  · rw [eB 2 9 (by omega), eS]
    split
    · exact hx
    · exact h.O.P.pos s hs
  · rw [eB _ _ (by first | omega | (simp only [wO, wL, wC, wN, pO, pU, gO, gS, gP, gQ, gK, gC]; omega)), eB _ _ (by first | omega | (simp only [wO, wL, wC, wN, pO, pU, gO, gS, gP, gQ, gK, gC]; omega))]
    exact h.O.P.pl v hv
  · rw [uj_ne (by omega), uk_ne (by omega)]
    exact h.O.U.nx
  · rw [ue_eq]
    exact ⟨by omega, by omega⟩
  · rw [eB _ _ (by first | omega | (simp only [wO, wL, wC, wN, pO, pU, gO, gS, gP, gQ, gK, gC]; omega))]
    exact h.O.U.mv j hj
  · rw [eS, uk_ne (by omega)]
    by_cases c : s = k
    · subst c
      rw [ue_eq, if_pos rfl]
    · rw [uj_ne c, if_neg c, uk_ne (by omega)]
      exact h.P.pos s hs
  · rw [eB _ _ (by first | omega | (simp only [wO, wL, wC, wN, pO, pU, gO, gS, gP, gQ, gK, gC]; omega)), uk_ne (by omega), uj_ne (by omega), uk_ne (by omega)]
    exact h.P.pl v hv
theorem rl_set1 (h : RL A B) {k : Nat} {x : Int} (hk : k < 12) (hx : 0 ≤ x ∧ x < B (pO k) 1) : RL (u2 (u2 (u2 A 199 0 0) 208 (6 + k) x) 199 16 0) (u2 (u2 B 15 k x) 72 2 0) := by
  have eB : ∀ a b, (a ≠ 15 ∧ a ≠ 72) → u2 (u2 B 15 k x) 72 2 0 a b = B a b := by
    intro a b hab
    rw [uk_ne hab.2, uk_ne hab.1]
  have eA : ∀ a b, (a = 199 → b ≠ 0 ∧ b ≠ 16) ∧ a ≠ 208 → u2 (u2 (u2 A 199 0 0) 208 (6 + k) x) 199 16 0 a b = A a b := by
    intro a b hab
    by_cases c : a = 199
    · subst c
      rw [uj_ne (hab.1 rfl).2, uk_ne (by omega), uj_ne (hab.1 rfl).1]
    · rw [uk_ne c, uk_ne hab.2, uk_ne c]
  have eS : ∀ j, u2 (u2 B 15 k x) 72 2 0 15 j = if j = k then x else B 15 j := by
    intro j
    rw [uk_ne (by omega)]
    by_cases c : j = k
    · subst c
      rw [ue_eq, if_pos rfl]
    · rw [uj_ne c, if_neg c]
  refine ⟨⟨h.O.M.cg (fun a b h1 h2 h3 => eB a b (by omega)), ⟨fun s hs => ?_, fun v hv => ?_⟩, ⟨?_, ?_, fun j hj => ?_⟩, h.O.G.cg (eB _ _ (by first | omega | (simp only [wO, wL, wC, wN, pO, pU, gO, gS, gP, gQ, gK, gC]; omega))) (fun a b h1 h2 => eB _ _ (by first | omega | (simp only [wO, wL, wC, wN, pO, pU, gO, gS, gP, gQ, gK, gC]; omega)))⟩, (h.R.cg (fun b hb => eA _ _ (by omega)) (fun a b h1 h2 => eA _ _ (by omega))).cgB (fun a b h1 h2 h3 => eB a b (by omega)), ⟨fun s hs => ?_, fun v hv => ?_⟩, RU.zero (by rw [ue_eq]) (by rw [ue_eq]), (h.G.cg (fun b hb => eA _ _ (by omega)) (fun a b h1 h2 => eA _ _ (by omega))).cgB h.O.G.ms.2 (fun a b h1 h2 => eB _ _ (by first | omega | (simp only [wO, wL, wC, wN, pO, pU, gO, gS, gP, gQ, gK, gC]; omega)))⟩
  · rw [eB _ _ (by first | omega | (simp only [wO, wL, wC, wN, pO, pU, gO, gS, gP, gQ, gK, gC]; omega)), eB _ _ (by first | omega | (simp only [wO, wL, wC, wN, pO, pU, gO, gS, gP, gQ, gK, gC]; omega))]
    exact h.O.P.pos s hs
  · rw [eB (pO v) 1 (by first | omega | (simp only [wO, wL, wC, wN, pO, pU, gO, gS, gP, gQ, gK, gC]; omega)), eS]
    by_cases c : v = k
    · subst c
      rw [if_pos rfl]
      exact ⟨hx.1, fun _ => hx.2, fun e => by omega⟩
    · rw [if_neg c]
      exact h.O.P.pl v hv
  · rw [uj_ne (by omega), uk_ne (by omega)]
    exact h.O.U.nx
  · rw [ue_eq]
    exact ⟨by omega, by omega⟩
  · rw [eB _ _ (by first | omega | (simp only [wO, wL, wC, wN, pO, pU, gO, gS, gP, gQ, gK, gC]; omega))]
    exact h.O.U.mv j hj
  · rw [eB _ _ (by first | omega | (simp only [wO, wL, wC, wN, pO, pU, gO, gS, gP, gQ, gK, gC]; omega)), uk_ne (by omega), uj_ne (by omega), uk_ne (by omega)]
    exact h.P.pos s hs
  · rw [eS, uk_ne (by omega)]
    by_cases c : v = k
    · subst c
      rw [ue_eq, if_pos rfl]
    · rw [uj_ne (by omega), if_neg c, uk_ne (by omega)]
      exact h.P.pl v hv
end
