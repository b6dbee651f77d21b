/-! one call on both sides -/
section
variable {sh : List (Nat × Nat)} {A : Nat → Nat → Int} {gl : Nat → Nat → Int64} {gr : Nat → Nat → Option Nat} {sl : Nat}
/-- what holds at the head of the law's loop, after n calls -/
def Iv (L : Nat) (sh : List (Nat × Nat)) (A : Nat → Nat → Int) (gr : Nat → Nat → Option Nat) (sl n : Nat) : Prop := (∀ k j, sb (A k j)) ∧ Lay sh gr ∧ RL A A ∧ sh.length ≤ 217 + n ∧ sl ≤ 100000 + 6 * n ∧ sh[0]? = some (100, L)
/-- both sides answer alike, and all holds again -/
def Good (L wn : Nat) (wa : List (Nat × Value)) (mn : Nat) (ma : List (Nat × Value)) (vd : Bool) (bl : Prop) (sh : List (Nat × Nat)) (A : Nat → Nat → Int) (gl : Nat → Nat → Int64) (gr : Nat → Nat → Option Nat) (sl n : Nat) : Prop :=
  ∃ (k b : Int) (sh' : List (Nat × Nat)) (A' A'' : Nat → Nat → Int) (gl' : Nat → Nat → Int64) (sl' : Nat), (∀ r : Out, Ev (wn, 0, wa, [], (sh, oA A, gl, gr), sl) r ↔ r = (.inl (some (.int (oi k))), (sh', oA A', gl', gr), sl')) ∧ (∀ r : Out, Ev (mn, 0, ma, [], (sh', oA A', gl', gr), sl') r ↔ r = (.inl (if vd then none else some (.int (oi b))), (sh', oA A'', gl', gr), sl')) ∧ (∀ j, A' 0 j = A 0 j) ∧ (bl → b = 0 ∨ b = 1) ∧ A'' 199 0 = k ∧ sb k ∧ (k = 0 → gl' 216 0 = (oi b).toInt64 ∨ vd = true) ∧ Iv L sh' A'' gr sl' (n + 1)
theorem RL.self {A' A'' : Nat → Nat → Int} (h : RL A'' A') (e : ∀ a b, a < 196 → A'' a b = A' a b) : RL A'' A'' := h.cgB e
theorem good_fail {L wn mn n : Nat} {wa ma : List (Nat × Value)} {vd : Bool} {bl : Prop} (hI : Iv L sh A gr sl n) {k : Int} (hk : k = 1 ∨ k = 2 ∨ k = 3) {E : Nat} (W : ∀ r : Out, Ev (wn, 0, wa, [], (sh, oA A, gl, gr), sl) r ↔ r = (.inl (some (.int (oi k))), (sh ++ [(10 + E, 0)], oA A, gl, gr), sl + 6)) (M : ∀ r : Out, Ev (mn, 0, ma, [], (sh ++ [(10 + E, 0)], oA A, gl, gr), sl + 6) r ↔ r = (.inl (if vd then none else some (.int (oi 0))), (sh ++ [(10 + E, 0)], oA (u2 A 199 0 k), gl, gr), sl + 6)) : Good L wn wa mn ma vd bl sh A gl gr sl n := by
  obtain ⟨hA, hL, h, hC, hS, h0⟩ := hI
  have sk : sb k := by rcases hk with rfl | rfl | rfl <;> exact ⟨by decide, by decide⟩
  refine ⟨k, 0, _, A, _, gl, _, W, M, fun _ => rfl, fun _ => Or.inl rfl, ue_eq _ _ _, sk, fun e => by omega, sb_u2 hA sk _ _, hL.app _, ?_, ?_, by omega, ?_⟩
  · refine RL.self (A' := A) (h.t k) (fun a b ha => uk_ne (by omega) _ _ _)
  · rw [List.length_append]
    show sh.length + 1 ≤ _
    omega
  · rw [List.getElem?_append_left (List.getElem?_eq_some_iff.mp h0).1]
    exact h0
theorem good_ok {L wn mn n : Nat} {wa ma : List (Nat × Value)} {vd : Bool} {bl : Prop} (hI : Iv L sh A gr sl n) {A' A'' : Nat → Nat → Int} {gl' : Nat → Nat → Int64} {v : Int} (W : ∀ r : Out, Ev (wn, 0, wa, [], (sh, oA A, gl, gr), sl) r ↔ r = (.inl (some (.int (oi 0))), (sh, oA A', gl', gr), sl)) (M : ∀ r : Out, Ev (mn, 0, ma, [], (sh, oA A', gl', gr), sl) r ↔ r = (.inl (if vd then none else some (.int (oi v))), (sh, oA A'', gl', gr), sl)) (e0 : ∀ j, A' 0 j = A 0 j) (hb : bl → v = 0 ∨ v = 1) (hg : gl' 216 0 = (oi v).toInt64 ∨ vd = true) (hA2 : ∀ k j, sb (A'' k j)) (t : A'' 199 0 = 0) (hR : RL A'' A') (e : ∀ a b, a < 196 → A'' a b = A' a b) : Good L wn wa mn ma vd bl sh A gl gr sl n := by
  obtain ⟨hA, hL, h, hC, hS, h0⟩ := hI
  exact ⟨0, v, sh, A', A'', gl', sl, W, M, e0, hb, t, ⟨by decide, by decide⟩, fun _ => hg, hA2, hL, RL.self hR e, by omega, by omega, h0⟩
theorem Iv.c {L n : Nat} (hI : Iv L sh A gr sl n) (hn : n < 600) : sh.length ≤ mxC ∧ sl + 6 ≤ mxS := by
  obtain ⟨hA, hL, h, hC, hS, h0⟩ := hI
  unfold mxC mxS
  omega
theorem i64 : (oi 0).toInt64 = 0 ∧ (oi 1).toInt64 = 1 := ⟨by decide +kernel, by decide +kernel⟩
theorem g216 (g : Nat → Nat → Int64) (v : Int64) : u2 g 216 0 v 216 0 = v := by
  unfold u2
  rw [if_pos rfl, if_pos rfl]
end
