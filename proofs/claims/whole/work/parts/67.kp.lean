/-! messages, period, replay: kept -/
section
variable {A A' B B' : Nat → Nat → Int}
/-- only messages change -/
theorem RL.msg (h : RL A B) (hG : CG B') (hR : RG A' B') (eB : ∀ a b, a < 74 → B' a b = B a b) (eA : ∀ a b, 199 ≤ a → a < 212 → (a = 199 → b ≠ 0 ∧ b ≠ 18 ∧ b ≠ 19) → A' a b = A a b) : RL A' B' := by
  refine ⟨⟨h.O.M.cg (fun a b h1 _ _ => eB _ _ (by omega)), h.O.P.cg (eB _ _ (by omega)) (fun k hk => eB _ _ (by unfold pO; omega)) (fun b _ => eB _ _ (by omega)) (fun b _ => eB _ _ (by omega)), h.O.U.cg (fun b => eB _ _ (by omega)) (fun b => eB _ _ (by omega)), hG⟩, (h.R.cg (fun b hb => eA _ _ (by omega) (by omega) (by omega)) (fun a b h1 h2 => eA _ _ (by omega) (by omega) (by omega))).cgB (fun a b h1 _ _ => eB _ _ (by omega)), ⟨fun s hs => ?_, fun k hk => ?_⟩, (h.U.cg (eA _ _ (by omega) (by omega) (by omega)) (fun b => eA _ _ (by omega) (by omega) (by omega))).cgB (eB _ _ (by omega)) (fun k hk => eB _ _ (by unfold pO; omega)) (fun b _ => eB _ _ (by omega)) (fun b _ => eB _ _ (by omega)) (fun b => eB _ _ (by omega)) (fun b => eB _ _ (by omega)), hR⟩
  · rw [eA _ _ (by omega) (by omega) (by omega), eB _ _ (by omega)]
    exact h.P.pos s hs
  · rw [eA _ _ (by omega) (by omega) (by omega), eB _ _ (by omega)]
    exact h.P.pl k hk
theorem rl_log (h : RL A B) {i n : Nat} {x v : Int} (hi : B 74 1 = (i : Int) + 1) (hn : B (gO i) 3 = (n : Int)) (hn2 : n < 60) (hx : 0 ≤ x ∧ x < B 2 9) : RL (u2 (u2 (u2 A 214 (60 * i + n) x) 215 (60 * i + n) v) 212 i ((n : Int) + 1)) (u2 (u2 (u2 B (gK i) n x) (gC i) n v) (gO i) 3 ((n : Int) + 1)) := by
  have ms := h.O.G.ms
  have eB : ∀ a b, a ≠ gK i → a ≠ gC i → a ≠ gO i → u2 (u2 (u2 B (gK i) n x) (gC i) n v) (gO i) 3 ((n : Int) + 1) a b = B a b := fun a b h1 h2 h3 => by rw [uk_ne h3, uk_ne h2, uk_ne h1]
  have eO : ∀ j, u2 (u2 (u2 B (gK i) n x) (gC i) n v) (gO i) 3 ((n : Int) + 1) (gO j) 3 = if j = i then (n : Int) + 1 else B (gO j) 3 := by
    intro j
    by_cases c : j = i
    · subst c
      rw [ue_eq, if_pos rfl]
    · rw [uk_ne (by unfold gO; omega), uk_ne (by unfold gO gC; omega), uk_ne (by unfold gO gK; omega), if_neg c]
  have eK : ∀ j l, u2 (u2 (u2 B (gK i) n x) (gC i) n v) (gO i) 3 ((n : Int) + 1) (gK j) l = if j = i ∧ l = n then x else B (gK j) l := by
    intro j l
    rw [uk_ne (by unfold gO gK; omega), uk_ne (by unfold gC gK; omega)]
    by_cases c : j = i
    · subst c
      by_cases c2 : l = n
      · subst c2
        rw [ue_eq, if_pos ⟨rfl, rfl⟩]
      · rw [uj_ne c2, if_neg (fun e => c2 e.2)]
    · rw [uk_ne (by unfold gK; omega), if_neg (fun e => c e.1)]
  have eC : ∀ j l, u2 (u2 (u2 B (gK i) n x) (gC i) n v) (gO i) 3 ((n : Int) + 1) (gC j) l = if j = i ∧ l = n then v else B (gC j) l := by
    intro j l
    rw [uk_ne (by unfold gO gC; omega)]
    by_cases c : j = i
    · subst c
      by_cases c2 : l = n
      · subst c2
        rw [ue_eq, if_pos ⟨rfl, rfl⟩]
      · rw [uj_ne c2, if_neg (fun e => c2 e.2), uk_ne (by unfold gC gK; omega)]
    · rw [uk_ne (by unfold gC; omega), uk_ne (by unfold gC gK; omega), if_neg (fun e => c e.1)]
  have e74 : ∀ b, u2 (u2 (u2 B (gK i) n x) (gC i) n v) (gO i) 3 ((n : Int) + 1) 74 b = B 74 b := fun b => eB _ _ (by unfold gK; omega) (by unfold gC; omega) (by unfold gO; omega)
  have e29 : u2 (u2 (u2 B (gK i) n x) (gC i) n v) (gO i) 3 ((n : Int) + 1) 2 9 = B 2 9 := eB _ _ (by unfold gK; omega) (by unfold gC; omega) (by unfold gO; omega)
  refine h.msg ⟨?_, ?_, ?_, fun j hj => ?_, fun j hj => ⟨fun s hs => ?_, fun k hk => ?_⟩, fun j hj l hl => ?_⟩ ⟨?_, ?_, fun j hj => ?_, fun j hj s hs => ?_, fun j hj k hk => ?_, fun j hj l hl => ?_⟩ (fun a b h1 => eB a b (by unfold gK; omega) (by unfold gC; omega) (by unfold gO; omega)) (fun a b h1 h2 _ => by rw [uk_ne (by omega), uk_ne (by omega), uk_ne (by omega)])
  · rw [e74]; exact h.O.G.ms
  · rw [e74]; exact h.O.G.op
  · rw [e74, e74]; exact h.O.G.opn
  · rw [e74] at hj
    rw [eO]
    split
    · exact ⟨by omega, by omega⟩
    · exact h.O.G.sg j hj
  · rw [e74] at hj
    rw [e29, eB _ _ (by unfold gK gP; omega) (by unfold gC gP; omega) (by unfold gO gP; omega)]
    exact (h.O.G.bg j hj).1 s hs
  · rw [e74] at hj
    rw [eB _ _ (by unfold gK gQ; omega) (by unfold gC gQ; omega) (by unfold gO gQ; omega)]
    exact (h.O.G.bg j hj).2 k hk
  · rw [e74] at hj
    rw [eO] at hl
    rw [e29, eK]
    by_cases c : j = i ∧ l = n
    · rw [if_pos c]
      exact hx
    · rw [if_neg c]
      refine h.O.G.ky j hj l ?_
      by_cases c2 : j = i
      · subst c2
        rw [if_pos rfl] at hl
        omega
      · rw [if_neg c2] at hl
        exact hl
  · rw [e74, uk_ne (by omega), uk_ne (by omega), uk_ne (by omega)]; exact h.G.ms
  · rw [e74, uk_ne (by omega), uk_ne (by omega), uk_ne (by omega)]; exact h.G.op
  · rw [e74] at hj
    rw [eO]
    by_cases c : j = i
    · subst c
      rw [ue_eq, if_pos rfl]
    · rw [uj_ne c, uk_ne (by omega), uk_ne (by omega), if_neg c]
      exact h.G.sg j hj
  · rw [e74] at hj
    rw [eB _ _ (by unfold gK gP; omega) (by unfold gC gP; omega) (by unfold gO gP; omega), uk_ne (by omega), uk_ne (by omega), uk_ne (by omega)]
    exact h.G.bp j hj s hs
  · rw [e74] at hj
    rw [eB _ _ (by unfold gK gQ; omega) (by unfold gC gQ; omega) (by unfold gO gQ; omega), uk_ne (by omega), uk_ne (by omega), uk_ne (by omega)]
    exact h.G.bq j hj k hk
  · rw [e74] at hj
    rw [eO] at hl
    rw [eK, eC, uk_ne (show 214 ≠ 212 by omega), uk_ne (show 214 ≠ 215 by omega), uk_ne (show 215 ≠ 212 by omega)]
    by_cases c : j = i ∧ l = n
    · obtain ⟨rfl, rfl⟩ := c
      rw [if_pos ⟨rfl, rfl⟩, if_pos ⟨rfl, rfl⟩, ue_eq, ue_eq]
      exact ⟨rfl, rfl⟩
    · have hl2 : (l : Int) < B (gO j) 3 := by
        by_cases c2 : j = i
        · subst c2
          rw [if_pos rfl] at hl
          omega
        · rw [if_neg c2] at hl
          exact hl
      have l60 := h.O.G.sg j hj
      rw [if_neg c, if_neg c, uj_ne (by omega), uj_ne (by omega), uk_ne (show 215 ≠ 214 by omega)]
      exact h.G.ky j hj l hl2
theorem rl_open (h : RL A B) {i : Nat} (hi : B 74 1 = (i : Int)) (hj : i < 20) : RL (u2 (u2 (u2 (fillR (u2 A 199 0 0) 213 (18 * i + 0) (18 * i + 18) (fun j => A 208 (j - 18 * i))) 212 i 0) 199 18 ((i : Int) + 1)) 199 19 1) (u2 (u2 (u2 (rowC (rowC B 14 (gP i) 6) 15 (gQ i) 12) (gO i) 3 0) 74 2 1) 74 1 ((i : Int) + 1)) := by
  have eB : ∀ a b, a ≠ 74 → a ≠ gO i → a ≠ gP i → a ≠ gQ i → u2 (u2 (u2 (rowC (rowC B 14 (gP i) 6) 15 (gQ i) 12) (gO i) 3 0) 74 2 1) 74 1 ((i : Int) + 1) a b = B a b := by
    intro a b h1 h2 h3 h4
    rw [uk_ne h1, uk_ne h1, uk_ne h2]
    unfold rowC
    rw [if_neg h4, if_neg h3]
  have e74 : u2 (u2 (u2 (rowC (rowC B 14 (gP i) 6) 15 (gQ i) 12) (gO i) 3 0) 74 2 1) 74 1 ((i : Int) + 1) 74 1 = (i : Int) + 1 := ue_eq _ _ _
  have e742 : u2 (u2 (u2 (rowC (rowC B 14 (gP i) 6) 15 (gQ i) 12) (gO i) 3 0) 74 2 1) 74 1 ((i : Int) + 1) 74 2 = 1 := by rw [uj_ne (by omega), ue_eq]
  have eO : ∀ j, u2 (u2 (u2 (rowC (rowC B 14 (gP i) 6) 15 (gQ i) 12) (gO i) 3 0) 74 2 1) 74 1 ((i : Int) + 1) (gO j) 3 = if j = i then 0 else B (gO j) 3 := by
    intro j
    rw [uk_ne (by unfold gO; omega), uk_ne (by unfold gO; omega)]
    by_cases c : j = i
    · subst c
      rw [ue_eq, if_pos rfl]
    · rw [uk_ne (by unfold gO; omega), if_neg c]
      unfold rowC
      rw [if_neg (by unfold gO gQ; omega), if_neg (by unfold gO gP; omega)]
  have eP : ∀ j s, s < 6 → u2 (u2 (u2 (rowC (rowC B 14 (gP i) 6) 15 (gQ i) 12) (gO i) 3 0) 74 2 1) 74 1 ((i : Int) + 1) (gP j) s = if j = i then B 14 s else B (gP j) s := by
    intro j s hs
    rw [uk_ne (by unfold gP; omega), uk_ne (by unfold gP; omega), uk_ne (by unfold gP gO; omega)]
    unfold rowC
    rw [if_neg (by unfold gP gQ; omega)]
    by_cases c : j = i
    · subst c
      rw [if_pos rfl, if_pos hs, if_pos rfl]
    · rw [if_neg (by unfold gP; omega), if_neg c]
  have eQ : ∀ j s, s < 12 → u2 (u2 (u2 (rowC (rowC B 14 (gP i) 6) 15 (gQ i) 12) (gO i) 3 0) 74 2 1) 74 1 ((i : Int) + 1) (gQ j) s = if j = i then B 15 s else B (gQ j) s := by
    intro j s hs
    rw [uk_ne (by unfold gQ; omega), uk_ne (by unfold gQ; omega), uk_ne (by unfold gQ gO; omega)]
    unfold rowC
    by_cases c : j = i
    · subst c
      rw [if_pos rfl, if_pos hs, if_neg (by unfold gP; omega), if_pos rfl]
    · rw [if_neg (by unfold gQ; omega), if_neg (by unfold gP gQ; omega), if_neg c]
  have e29 : u2 (u2 (u2 (rowC (rowC B 14 (gP i) 6) 15 (gQ i) 12) (gO i) 3 0) 74 2 1) 74 1 ((i : Int) + 1) 2 9 = B 2 9 := eB _ _ (by omega) (by unfold gO; omega) (by unfold gP; omega) (by unfold gQ; omega)
  have a3 : ∀ b, u2 (u2 (u2 (fillR (u2 A 199 0 0) 213 (18 * i + 0) (18 * i + 18) (fun j => A 208 (j - 18 * i))) 212 i 0) 199 18 ((i : Int) + 1)) 199 19 1 213 b = if 18 * i ≤ b ∧ b < 18 * i + 18 then A 208 (b - 18 * i) else A 213 b := by
    intro b
    rw [uk_ne (by omega), uk_ne (by omega), uk_ne (by omega)]
    unfold fillR
    rw [if_pos rfl, uk_ne (by omega)]
    rfl
  have a2 : ∀ b, u2 (u2 (u2 (fillR (u2 A 199 0 0) 213 (18 * i + 0) (18 * i + 18) (fun j => A 208 (j - 18 * i))) 212 i 0) 199 18 ((i : Int) + 1)) 199 19 1 212 b = if b = i then 0 else A 212 b := by
    intro b
    rw [uk_ne (by omega), uk_ne (by omega)]
    by_cases c : b = i
    · subst c
      rw [ue_eq, if_pos rfl]
    · rw [uj_ne c, if_neg c]
      unfold fillR
      rw [if_neg (by omega), uk_ne (by omega)]
  have aE : ∀ a b, a ≠ 212 → a ≠ 213 → (a = 199 → b ≠ 0 ∧ b ≠ 18 ∧ b ≠ 19) → u2 (u2 (u2 (fillR (u2 A 199 0 0) 213 (18 * i + 0) (18 * i + 18) (fun j => A 208 (j - 18 * i))) 212 i 0) 199 18 ((i : Int) + 1)) 199 19 1 a b = A a b := by
    intro a b h1 h2 h3
    by_cases c : a = 199
    · subst c
      obtain ⟨k1, k2, k3⟩ := h3 rfl
      rw [uj_ne k3, uj_ne k2, uk_ne (by omega)]
      unfold fillR
      rw [if_neg (by omega), uj_ne k1]
    · rw [uk_ne c, uk_ne c, uk_ne h1]
      unfold fillR
      rw [if_neg h2, uk_ne c]
  refine h.msg ⟨?_, ?_, ?_, fun j hj => ?_, fun j hj => ⟨fun s hs => ?_, fun k hk => ?_⟩, fun j hj l hl => ?_⟩ ⟨?_, ?_, fun j hj => ?_, fun j hj s hs => ?_, fun j hj k hk => ?_, fun j hj l hl => ?_⟩ (fun a b h1 => eB a b (by omega) (by unfold gO; omega) (by unfold gP; omega) (by unfold gQ; omega)) (fun a b h1 h2 h3 => aE a b (by omega) (by omega) h3)
  · rw [e74]
    exact ⟨by omega, by omega⟩
  · exact Or.inr e742
  · intro _
    rw [e74]
    omega
  · rw [e74] at hj
    rw [eO]
    split
    · exact ⟨by omega, by omega⟩
    · exact h.O.G.sg j (by omega)
  · rw [e74] at hj
    rw [e29, eP j s hs]
    split
    · exact h.O.P.pos s hs
    · exact (h.O.G.bg j (by omega)).1 s hs
  · rw [e74] at hj
    rw [eQ j k hk]
    split
    · exact (h.O.P.pl k hk).1
    · exact (h.O.G.bg j (by omega)).2 k hk
  · rw [e74] at hj
    rw [eO] at hl
    by_cases c : j = i
    · rw [if_pos c] at hl
      omega
    · rw [if_neg c] at hl
      rw [e29, eB _ _ (by unfold gK; omega) (by unfold gO gK; omega) (by unfold gP gK; omega) (by unfold gQ gK; omega)]
      exact h.O.G.ky j (by omega) l hl
  · rw [e74, uj_ne (by omega), ue_eq]
  · rw [e742, ue_eq]
  · rw [e74] at hj
    rw [eO, a2]
    by_cases c : j = i
    · rw [if_pos c, if_pos c]
    · rw [if_neg c, if_neg c]
      exact h.G.sg j (by omega)
  · rw [e74] at hj
    rw [eP j s hs, a3]
    by_cases c : j = i
    · subst c
      rw [if_pos (by omega), if_pos rfl, show 18 * j + s - 18 * j = s by omega]
      exact h.P.pos s hs
    · rw [if_neg (by omega), if_neg c]
      exact h.G.bp j (by omega) s hs
  · rw [e74] at hj
    rw [eQ j k hk, a3]
    by_cases c : j = i
    · subst c
      rw [if_pos (by omega), if_pos rfl, show 18 * j + (6 + k) - 18 * j = 6 + k by omega]
      exact h.P.pl k hk
    · rw [if_neg (by omega), if_neg c]
      exact h.G.bq j (by omega) k hk
  · rw [e74] at hj
    rw [eO] at hl
    by_cases c : j = i
    · rw [if_pos c] at hl
      omega
    · rw [if_neg c] at hl
      rw [eB _ _ (by unfold gK; omega) (by unfold gO gK; omega) (by unfold gP gK; omega) (by unfold gQ gK; omega), eB _ _ (by unfold gC; omega) (by unfold gO gC; omega) (by unfold gP gC; omega) (by unfold gQ gC; omega), aE _ _ (by omega) (by omega) (by omega), aE _ _ (by omega) (by omega) (by omega)]
      exact h.G.ky j (by omega) l hl
theorem rl_close (h : RL A B) : RL (u2 (u2 A 199 0 0) 199 19 0) (u2 B 74 2 0) := by
  have e1 : u2 B 74 2 0 74 1 = B 74 1 := uj_ne (by omega) _ _ _
  have eB : ∀ a b, a ≠ 74 → u2 B 74 2 0 a b = B a b := fun a b ha => uk_ne ha _ _ _
  have eA : ∀ a b, (a = 199 → b ≠ 0 ∧ b ≠ 19) → u2 (u2 A 199 0 0) 199 19 0 a b = A a b := by
    intro a b ha
    by_cases c : a = 199
    · subst c
      rw [uj_ne (ha rfl).2, uj_ne (ha rfl).1]
    · rw [uk_ne c, uk_ne c]
  refine h.msg ⟨?_, ?_, ?_, fun j hj => ?_, fun j hj => ⟨fun s hs => ?_, fun k hk => ?_⟩, fun j hj l hl => ?_⟩ ⟨?_, ?_, fun j hj => ?_, fun j hj s hs => ?_, fun j hj k hk => ?_, fun j hj l hl => ?_⟩ (fun a b h1 => eB a b (by omega)) (fun a b h1 h2 h3 => eA a b (fun e => ⟨(h3 e).1, (h3 e).2.2⟩))
  · rw [e1]; exact h.O.G.ms
  · rw [ue_eq]; exact Or.inl rfl
  · rw [ue_eq]; exact fun e => absurd rfl e
  · rw [e1] at hj; rw [eB _ _ (by unfold gO; omega)]; exact h.O.G.sg j hj
  · rw [e1] at hj; rw [eB _ _ (by unfold gP; omega), eB _ _ (by omega)]; exact (h.O.G.bg j hj).1 s hs
  · rw [e1] at hj; rw [eB _ _ (by unfold gQ; omega)]; exact (h.O.G.bg j hj).2 k hk
  · rw [e1] at hj; rw [eB _ _ (by unfold gO; omega)] at hl; rw [eB _ _ (by unfold gK; omega), eB _ _ (by omega)]; exact h.O.G.ky j hj l hl
  · rw [e1, eA _ _ (by omega)]; exact h.G.ms
  · rw [ue_eq, ue_eq]
  · rw [e1] at hj; rw [eB _ _ (by unfold gO; omega), eA _ _ (by omega)]; exact h.G.sg j hj
  · rw [e1] at hj; rw [eB _ _ (by unfold gP; omega), eA _ _ (by omega)]; exact h.G.bp j hj s hs
  · rw [e1] at hj; rw [eB _ _ (by unfold gQ; omega), eA _ _ (by omega)]; exact h.G.bq j hj k hk
  · rw [e1] at hj; rw [eB _ _ (by unfold gO; omega)] at hl; rw [eB _ _ (by unfold gK; omega), eB _ _ (by unfold gC; omega), eA _ _ (by omega), eA _ _ (by omega)]; exact h.G.ky j hj l hl
/-! period and replay leave all as it was -/
theorem stF_big (B : Nat → Nat → Int) : (∀ s, 6 ≤ s → stF B 14 s = B 14 s) ∧ ∀ k, 12 ≤ k → stF B 15 k = B 15 k := by
  refine ⟨fun s hs => ?_, fun k hk => ?_⟩
  · unfold stF
    rw [moveF_14, if_neg (by omega)]
  · unfold stF
    rw [moveF_15, if_neg (by omega)]
/-- what a run of steps leaves alone -/
abbrev Same (X B : Nat → Nat → Int) : Prop := (∀ a b, a ≠ 14 → a ≠ 15 → X a b = B a b) ∧ (∀ s, 6 ≤ s → X 14 s = B 14 s) ∧ ∀ k, 12 ≤ k → X 15 k = B 15 k
theorem Same.st {X B : Nat → Nat → Int} (h : Same X B) : Same (stF X) B := by
  refine ⟨fun a b h1 h2 => ?_, fun s hs => ?_, fun k hk => ?_⟩
  · rw [stF_ne _ h1 h2]; exact h.1 a b h1 h2
  · rw [(stF_big X).1 s hs]; exact h.2.1 s hs
  · rw [(stF_big X).2 k hk]; exact h.2.2 k hk
theorem till_same : ∀ (n t : Nat) (X : Nat → Nat → Int), Same X B → Same (tillF n t X).2 B := by
  intro n
  induction n with
  | zero => exact fun t X h => h
  | succ n ih =>
    intro t X h
    rw [tillF]
    split
    · exact h.st
    · exact ih _ _ h.st
theorem oth_same (i : Nat) : ∀ (n k : Nat) (X : Nat → Nat → Int), Same X B → Same (othF i n k X).2 B := by
  intro n
  induction n with
  | zero => exact fun t X h => h
  | succ n ih =>
    intro t X h
    rw [othF]
    split
    · exact ih _ _ h.st
    · exact h.st
theorem bring_same {X : Nat → Nat → Int} (h : Same X (keepF B)) {a : Nat} (ha : a < 196) (b : Nat) : bringF X a b = B a b := by
  have k7 : ∀ s, s < 6 → keepF B 197 s = B 14 s := fun s hs => by
    unfold keepF rowC
    rw [if_neg (by omega), if_pos rfl, if_pos hs]
  have k8 : ∀ s, s < 12 → keepF B 198 s = B 15 s := fun s hs => by
    unfold keepF rowC
    rw [if_pos rfl, if_pos hs, if_neg (by omega)]
  unfold bringF rowC
  by_cases c5 : a = 15
  · subst c5
    rw [if_pos rfl]
    by_cases cb : b < 12
    · rw [if_pos cb, if_neg (by omega), h.1 _ _ (by omega) (by omega), k8 b cb]
    · rw [if_neg cb, if_neg (by omega), h.2.2 b (by omega), keepF_ne B (by omega)]
  · rw [if_neg c5]
    by_cases c4 : a = 14
    · subst c4
      rw [if_pos rfl]
      by_cases cb : b < 6
      · rw [if_pos cb, h.1 _ _ (by omega) (by omega), k7 b cb]
      · rw [if_neg cb, h.2.1 b (by omega), keepF_ne B (by omega)]
    · rw [if_neg c4, h.1 _ _ c4 c5, keepF_ne B ha]
theorem stR_big (A B : Nat → Nat → Int) {j : Nat} (hj : 18 ≤ j) : stR A B 0 208 j = A 208 j := by
  unfold stR fillR
  rw [if_pos rfl, if_neg (by omega), if_pos rfl, if_neg (by omega), if_neg (by omega)]
theorem perR_big : ∀ (n : Nat) (A B : Nat → Nat → Int) {j : Nat}, 18 ≤ j → perR n A B 208 j = A 208 j := by
  intro n
  induction n with
  | zero => exact fun A B j _ => rfl
  | succ n ih =>
    intro A B j hj
    rw [perR]
    split
    · exact stR_big A B hj
    · rw [ih _ _ hj, stR_big A B hj]
theorem othR_big (i : Nat) : ∀ (n k : Nat) (A B : Nat → Nat → Int) {j : Nat}, 18 ≤ j → othR i n k A B 208 j = A 208 j := by
  intro n
  induction n with
  | zero => exact fun k A B j _ => rfl
  | succ n ih =>
    intro k A B j hj
    rw [othR]
    split
    · rw [ih _ _ _ hj, stR_big A B hj]
    · exact stR_big A B hj
theorem bringR_all {X A : Nat → Nat → Int} (h1 : ∀ a b, a ≠ 208 → a ≠ 210 → X a b = asideR A a b) (h2 : ∀ j, 18 ≤ j → X 208 j = asideR A 208 j) {a b : Nat} (ha : a ≠ 209) (hb : a ≠ 210) (hc : a = 199 → b ≠ 0) : bringR X A a b = A a b := by
  unfold bringR fillR
  by_cases c : a = 208
  · subst c
    rw [if_pos rfl]
    by_cases cb : b < 18
    · rw [if_pos ⟨by omega, cb⟩]
      exact asideR_9 A cb
    · rw [if_neg (by omega), h2 b (by omega), asideR_ne A (by omega) (by omega)]
  · rw [if_neg c, h1 a b c hb, asideR_ne A ha hc]
theorem RL.cg2 (h : RL A B) (e : ∀ a b, a ≠ 209 → a ≠ 210 → (a = 199 → b ≠ 0) → A' a b = A a b) : RL A' B :=
  ⟨h.O, h.R.cg (fun b hb => e _ _ (by omega) (by omega) (by omega)) (fun a b _ _ => e _ _ (by omega) (by omega) (by omega)), h.P.cg (fun b => e _ _ (by omega) (by omega) (by omega)), h.U.cg (e _ _ (by omega) (by omega) (by omega)) (fun b => e _ _ (by omega) (by omega) (by omega)), h.G.cg (fun b hb => e _ _ (by omega) (by omega) (by omega)) (fun a b _ _ => e _ _ (by omega) (by omega) (by omega))⟩
theorem rl_period (h : RL A B) (n : Nat) : RL (bringR (perR n (asideR A) (keepF B)) A) (bringF (tillF n 1 (keepF B)).2) :=
  (h.cg2 (fun a b h1 h2 h3 => bringR_all (fun a b h4 h5 => perR_ne n _ _ h4 h5 b) (fun j hj => perR_big n _ _ hj) h1 h2 h3)).cgB (fun a b ha => bring_same (till_same n 1 _ ⟨fun _ _ _ _ => rfl, fun _ _ => rfl, fun _ _ => rfl⟩) ha b)
theorem rl_replay (h : RL A B) (i : Nat) : RL (bringR (othR i (B (gO i) 3).toNat 0 (asR A B i) (asF (keepF B) i)) A) (bringF (repF B i).2) := by
  refine (h.cg2 (fun a b h1 h2 h3 => bringR_all (fun a b h4 h5 => ?_) (fun j hj => ?_) h1 h2 h3)).cgB (fun a b ha => bring_same (oth_same i _ 0 _ ⟨fun a b h1 h2 => asF_ne _ i h1 h2 b, fun s hs => ?_, fun k hk => ?_⟩) ha b)
  · rw [othR_ne i _ _ _ _ h4 h5, asR_ne _ _ _ h4]
  · rw [othR_big i _ _ _ _ hj]
    unfold asR fillR
    rw [if_pos rfl, if_neg (by omega)]
  · rw [asF_c, if_neg (by omega), if_neg (by omega)]
  · rw [asF_c, if_neg (by omega), if_neg (by omega)]
end
