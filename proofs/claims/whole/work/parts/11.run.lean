/-! running the small machine by rewriting: until a place named in stp, or a symbol that blocks -/
theorem Ev.stuck {x : Cf} {r : Out} (h : sx x = none) : ¬ Ev x r := by
  rintro ⟨n, hn⟩
  cases n with
  | zero => cases hn
  | succ n => rw [exe, h] at hn; cases hn
theorem Ev.callI {x : Cf} {y : Cg} {r : Out} {mj : Nat} {as : List Value} (h : sx x = some (.inr (.inl (mj, as, y)))) : Ev x r ↔ ∃ ro : Out, Ev (mj, 0, lv_args 0 as, [], y.2.2.2) ro ∧ (match ro with
    | (.inl v, hs) => Ev (x.1, y.1 + 3, y.2.1, v.toList ++ y.2.2.1, hs) r
    | (.inr q, hs) => match hnd x.1 y.1 q.2 with
      | none => False
      | some none => r = (.inr q, hs)
      | some (some pc') => Ev (x.1, pc', y.2.1, [.ref q.1], hs) r) := by
  constructor
  · rintro ⟨n, hn⟩
    cases n with
    | zero => cases hn
    | succ n =>
      rw [exe, h] at hn
      simp only at hn
      cases hr : exe n (mj, 0, lv_args 0 as, [], y.2.2.2) with
      | none => rw [hr] at hn; cases hn
      | some ro =>
        rw [hr] at hn
        refine ⟨ro, ⟨n, hr⟩, ?_⟩
        obtain ⟨v | ⟨q, E⟩, hs⟩ := ro
        · exact ⟨n, hn⟩
        · simp only at hn ⊢
          cases hh : hnd x.1 y.1 E with
          | none => rw [hh] at hn; cases hn
          | some z =>
            rw [hh] at hn
            cases z with
            | none => exact (Option.some.inj hn).symm
            | some pc' => exact ⟨n, hn⟩
  · rintro ⟨⟨v | ⟨q, E⟩, hs⟩, hc, hr⟩
    · exact (Ev.call h hc).mpr hr
    · simp only at hr
      cases hh : hnd x.1 y.1 E with
      | none => rw [hh] at hr; exact hr.elim
      | some z =>
        rw [hh] at hr
        cases z with
        | none =>
          simp only at hr
          subst hr
          exact Ev.throw h hc hh
        | some pc' => exact Ev.caught h hc hh hr
def EvU (stp : Nat → Bool) : Nat → Nat → Nat → Lc → List Value → Hp → Nat → Out → Prop
  | 0, mi, pc, ls, st, h, sl, r => Ev (mi, pc, ls, st, h, sl) r
  | k + 1, mi, pc, ls, st, h, sl, r => if stp pc = true then Ev (mi, pc, ls, st, h, sl) r else match cd mi pc with
    | some (.ifCond cc _, _, a, _) => (match st with
      | .int x :: st' => (match cc with
        | .eq => if x = 0 then EvU stp k mi a ls st' h sl r else EvU stp k mi (pc + 3) ls st' h sl r
        | .ne => if x = 0 then EvU stp k mi (pc + 3) ls st' h sl r else EvU stp k mi a ls st' h sl r
        | .lt => if x < 0 then EvU stp k mi a ls st' h sl r else EvU stp k mi (pc + 3) ls st' h sl r
        | .ge => if 0 ≤ x then EvU stp k mi a ls st' h sl r else EvU stp k mi (pc + 3) ls st' h sl r
        | .gt => if 0 < x then EvU stp k mi a ls st' h sl r else EvU stp k mi (pc + 3) ls st' h sl r
        | .le => if x ≤ 0 then EvU stp k mi a ls st' h sl r else EvU stp k mi (pc + 3) ls st' h sl r)
      | _ => False)
    | some (.if_icmp cc _, _, a, _) => (match st with
      | .int y :: .int x :: st' => (match cc with
        | .eq => if x = y then EvU stp k mi a ls st' h sl r else EvU stp k mi (pc + 3) ls st' h sl r
        | .ne => if x = y then EvU stp k mi (pc + 3) ls st' h sl r else EvU stp k mi a ls st' h sl r
        | .lt => if x < y then EvU stp k mi a ls st' h sl r else EvU stp k mi (pc + 3) ls st' h sl r
        | .ge => if y ≤ x then EvU stp k mi a ls st' h sl r else EvU stp k mi (pc + 3) ls st' h sl r
        | .gt => if y < x then EvU stp k mi a ls st' h sl r else EvU stp k mi (pc + 3) ls st' h sl r
        | .le => if x ≤ y then EvU stp k mi a ls st' h sl r else EvU stp k mi (pc + 3) ls st' h sl r)
      | _ => False)
    | _ => match sx (mi, pc, ls, st, h, sl) with
      | none => False
      | some (.inl y) => EvU stp k mi y.1 y.2.1 y.2.2.1 y.2.2.2.1 y.2.2.2.2 r
      | some (.inr (.inr o)) => r = o
      | some (.inr (.inl (mj, as, y))) => ∃ ro : Out, Ev (mj, 0, lv_args 0 as, [], y.2.2.2) ro ∧ (match ro with
        | (.inl v, hs) => EvU stp k mi (y.1 + 3) y.2.1 (v.toList ++ y.2.2.1) hs.1 hs.2 r
        | (.inr q, hs) => match hnd mi y.1 q.2 with
          | none => False
          | some none => r = (.inr q, hs)
          | some (some pc') => EvU stp k mi pc' y.2.1 [.ref q.1] hs.1 hs.2 r)
theorem Ev.iff1 {x : Cf} {r : Out} : Ev x r ↔ (match sx x with
      | none => False
      | some (.inl y) => Ev (x.1, y) r
      | some (.inr (.inr o)) => r = o
      | some (.inr (.inl (mj, as, y))) => ∃ ro : Out, Ev (mj, 0, lv_args 0 as, [], y.2.2.2) ro ∧ (match ro with
        | (.inl v, hs) => Ev (x.1, y.1 + 3, y.2.1, v.toList ++ y.2.2.1, hs) r
        | (.inr q, hs) => match hnd x.1 y.1 q.2 with
          | none => False
          | some none => r = (.inr q, hs)
          | some (some pc') => Ev (x.1, pc', y.2.1, [.ref q.1], hs) r)) := by
  cases h : sx x with
  | none => exact ⟨fun h' => absurd h' (Ev.stuck h), fun h' => h'.elim⟩
  | some z =>
    rcases z with y | ⟨mj, as, y⟩ | o
    · exact Ev.step h
    · exact Ev.callI h
    · exact Ev.fin h
theorem EvU_iff (stp : Nat → Bool) : ∀ (k mi pc : Nat) (ls : Lc) (st : List Value) (h : Hp) (sl : Nat) (r : Out), Ev (mi, pc, ls, st, h, sl) r ↔ EvU stp k mi pc ls st h sl r := by
  intro k
  induction k with
  | zero => intro mi pc ls st h sl r; exact Iff.rfl
  | succ k ih =>
    intro mi pc ls st h sl r
    unfold EvU
    by_cases hp : stp pc = true
    · rw [if_pos hp]
    · rw [if_neg hp]
      obtain ⟨sh, gi, gl, gr⟩ := h
      split
      · rename_i cc o9 l9 a q9 hcd
        rw [Ev.iff1]
        unfold sx
        simp only [hcd, stI, s_if, enI, caI, Option.map_none]
        cases st with
        | nil => exact Iff.rfl
        | cons v st' =>
          cases v with
          | int x =>
            cases cc
            · by_cases hq : x = 0 <;> simp only [br, go, hq, if_true, if_false] <;> exact ih _ _ _ _ _ _ _
            · by_cases hq : x = 0 <;> simp only [br, go, hq, if_true, if_false] <;> exact ih _ _ _ _ _ _ _
            · by_cases hq : x < 0 <;> simp only [br, go, hq, if_true, if_false] <;> exact ih _ _ _ _ _ _ _
            · by_cases hq : 0 ≤ x <;> simp only [br, go, hq, if_true, if_false] <;> exact ih _ _ _ _ _ _ _
            · by_cases hq : 0 < x <;> simp only [br, go, hq, if_true, if_false] <;> exact ih _ _ _ _ _ _ _
            · by_cases hq : x ≤ 0 <;> simp only [br, go, hq, if_true, if_false] <;> exact ih _ _ _ _ _ _ _
          | _ => exact Iff.rfl
      · rename_i cc o9 l9 a q9 hcd
        rw [Ev.iff1]
        unfold sx
        simp only [hcd, stI, s_icmp, enI, caI, Option.map_none]
        cases st with
        | nil => exact Iff.rfl
        | cons v st' =>
          cases v with
          | int y =>
            cases st' with
            | nil => exact Iff.rfl
            | cons v st' =>
              cases v with
              | int x =>
                cases cc
                · by_cases hq : x = y <;> simp only [br, go, hq, if_true, if_false] <;> exact ih _ _ _ _ _ _ _
                · by_cases hq : x = y <;> simp only [br, go, hq, if_true, if_false] <;> exact ih _ _ _ _ _ _ _
                · by_cases hq : x < y <;> simp only [br, go, hq, if_true, if_false] <;> exact ih _ _ _ _ _ _ _
                · by_cases hq : y ≤ x <;> simp only [br, go, hq, if_true, if_false] <;> exact ih _ _ _ _ _ _ _
                · by_cases hq : y < x <;> simp only [br, go, hq, if_true, if_false] <;> exact ih _ _ _ _ _ _ _
                · by_cases hq : x ≤ y <;> simp only [br, go, hq, if_true, if_false] <;> exact ih _ _ _ _ _ _ _
              | _ => exact Iff.rfl
          | _ => exact Iff.rfl
      · rw [Ev.iff1]
        cases sx (mi, pc, ls, st, (sh, gi, gl, gr), sl) with
        | none => exact Iff.rfl
        | some z =>
          rcases z with y | ⟨mj, as, y⟩ | o
          · exact ih _ _ _ _ _ _ _
          · simp only
            constructor
            · rintro ⟨⟨v | q, hs⟩, h1, h2⟩
              · exact ⟨_, h1, (ih _ _ _ _ _ _ _).mp h2⟩
              · refine ⟨_, h1, ?_⟩
                simp only at h2 ⊢
                cases hh : hnd mi y.1 q.2 with
                | none => rw [hh] at h2; exact h2
                | some z =>
                  rw [hh] at h2
                  cases z with
                  | none => exact h2
                  | some pc' => exact (ih _ _ _ _ _ _ _).mp h2
            · rintro ⟨⟨v | q, hs⟩, h1, h2⟩
              · exact ⟨_, h1, (ih _ _ _ _ _ _ _).mpr h2⟩
              · refine ⟨_, h1, ?_⟩
                simp only at h2 ⊢
                cases hh : hnd mi y.1 q.2 with
                | none => rw [hh] at h2; exact h2
                | some z =>
                  rw [hh] at h2
                  cases z with
                  | none => exact h2
                  | some pc' => exact (ih _ _ _ _ _ _ _).mpr h2
          · exact Iff.rfl
