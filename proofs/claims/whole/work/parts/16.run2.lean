/-! one step, by the row of the code at that place -/
def EvS (stp : Nat → Bool) (k mi pc : Nat) (e : En) (ls : Lc) (st : List Value) (h : Hp) (sl : Nat) (r : Out) : Prop := if stp pc = true then Ev (mi, pc, ls, st, h, sl) r else match e with
    | (.ifCond cc _, _, a, _) => (match st with
      | .int x :: st' => (match cc with
        | .eq => if x = 0 then EvU stp k mi a ls st' h sl r else EvU stp k mi (pc + 3) ls st' h sl r
        | .ne => if x = 0 then EvU stp k mi (pc + 3) ls st' h sl r else EvU stp k mi a ls st' h sl r
        | .lt => if x < 0 then EvU stp k mi a ls st' h sl r else EvU stp k mi (pc + 3) ls st' h sl r
        | .ge => if 0 ≤ x then EvU stp k mi a ls st' h sl r else EvU stp k mi (pc + 3) ls st' h sl r
        | .gt => if 0 < x then EvU stp k mi a ls st' h sl r else EvU stp k mi (pc + 3) ls st' h sl r
        | .le => if x ≤ 0 then EvU stp k mi a ls st' h sl r else EvU stp k mi (pc + 3) ls st' h sl r)
      | _ => False)
    | (.if_icmp cc _, _, a, _) => (match st with
      | .int y :: .int x :: st' => (match cc with
        | .eq => if x = y then EvU stp k mi a ls st' h sl r else EvU stp k mi (pc + 3) ls st' h sl r
        | .ne => if x = y then EvU stp k mi (pc + 3) ls st' h sl r else EvU stp k mi a ls st' h sl r
        | .lt => if x < y then EvU stp k mi a ls st' h sl r else EvU stp k mi (pc + 3) ls st' h sl r
        | .ge => if y ≤ x then EvU stp k mi a ls st' h sl r else EvU stp k mi (pc + 3) ls st' h sl r
        | .gt => if y < x then EvU stp k mi a ls st' h sl r else EvU stp k mi (pc + 3) ls st' h sl r
        | .le => if x ≤ y then EvU stp k mi a ls st' h sl r else EvU stp k mi (pc + 3) ls st' h sl r)
      | _ => False)
    | (i, len, a, b, c, _) => match stI i len a b c mi pc ls st h.1 h.2.1 h.2.2.1 h.2.2.2 sl with
      | some y => EvU stp k mi y.1 y.2.1 y.2.2.1 y.2.2.2.1 y.2.2.2.2 r
      | none => match enI i a mi st h.1 h.2.1 h.2.2.1 h.2.2.2 sl with
        | some o => r = o
        | none => match caI i a b pc ls st h.1 h.2.1 h.2.2.1 h.2.2.2 sl with
          | none => False
          | some q => ∃ ro : Out, Ev (q.1, 0, lv_args 0 q.2.1, [], q.2.2.2.2.2) ro ∧ (match ro with
            | (.inl v, hs) => EvU stp k mi (q.2.2.1 + 3) q.2.2.2.1 (v.toList ++ q.2.2.2.2.1) hs.1 hs.2 r
            | (.inr q', hs) => match hnd mi q.2.2.1 q'.2 with
              | none => False
              | some none => r = (.inr q', hs)
              | some (some pc') => EvU stp k mi pc' q.2.2.2.1 [.ref q'.1] hs.1 hs.2 r)
theorem EvU_at {mi pc : Nat} {e : En} (hc : cd mi pc = some e) (stp : Nat → Bool) (k : Nat) (ls : Lc) (st : List Value) (h : Hp) (sl : Nat) (r : Out) : EvU stp (k + 1) mi pc ls st h sl r ↔ EvS stp k mi pc e ls st h sl r := by
  obtain ⟨i, len, a, b, c, z⟩ := e
  obtain ⟨sh, gi, gl, gr⟩ := h
  unfold EvU EvS
  rw [hc]
  by_cases hp : stp pc = true
  · rw [if_pos hp, if_pos hp]
  · rw [if_neg hp, if_neg hp]
    have key : (match sx (mi, pc, ls, st, (sh, gi, gl, gr), sl) with
      | none => False
      | some (.inl y) => EvU stp k mi y.1 y.2.1 y.2.2.1 y.2.2.2.1 y.2.2.2.2 r
      | some (.inr (.inr o)) => r = o
      | some (.inr (.inl (mj, as, y))) => ∃ ro : Out, Ev (mj, 0, lv_args 0 as, [], y.2.2.2) ro ∧ (match ro with
        | (.inl v, hs) => EvU stp k mi (y.1 + 3) y.2.1 (v.toList ++ y.2.2.1) hs.1 hs.2 r
        | (.inr q, hs) => match hnd mi y.1 q.2 with
          | none => False
          | some none => r = (.inr q, hs)
          | some (some pc') => EvU stp k mi pc' y.2.1 [.ref q.1] hs.1 hs.2 r)) ↔ (match stI i len a b c mi pc ls st sh gi gl gr sl with
      | some y => EvU stp k mi y.1 y.2.1 y.2.2.1 y.2.2.2.1 y.2.2.2.2 r
      | none => match enI i a mi st sh gi gl gr sl with
        | some o => r = o
        | none => match caI i a b pc ls st sh gi gl gr sl with
          | none => False
          | some q => ∃ ro : Out, Ev (q.1, 0, lv_args 0 q.2.1, [], q.2.2.2.2.2) ro ∧ (match ro with
            | (.inl v, hs) => EvU stp k mi (q.2.2.1 + 3) q.2.2.2.1 (v.toList ++ q.2.2.2.2.1) hs.1 hs.2 r
            | (.inr q', hs) => match hnd mi q.2.2.1 q'.2 with
              | none => False
              | some none => r = (.inr q', hs)
              | some (some pc') => EvU stp k mi pc' q.2.2.2.1 [.ref q'.1] hs.1 hs.2 r)) := by
      unfold sx
      simp only [hc]
      cases stI i len a b c mi pc ls st sh gi gl gr sl with
      | some y => exact Iff.rfl
      | none =>
        simp only
        cases enI i a mi st sh gi gl gr sl with
        | some o => exact Iff.rfl
        | none =>
          simp only
          cases caI i a b pc ls st sh gi gl gr sl with
          | none => exact Iff.rfl
          | some q => exact Iff.rfl
    cases i <;> first | exact Iff.rfl | exact key
