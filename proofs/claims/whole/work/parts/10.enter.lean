/-! the law's entry: the world is empty but for the script -/
theorem en_K {s : State} {args : Array Value} (hts : ∀ z, z ∈ lw_tbl → okw z = true → ∀ a : Array Value, z.before a s = true) : ∃ (D : va_G) (aC : Nat → ClassId), va_K D kCl (tyl aC) s := by
  have h1 : ∀ x : Nat, ∃ (cC : ClassId) (iS : Nat → Nat), ∀ q, kCl[x]? = some q → u_Kn s q.1 q.2.1 q.2.2 cC iS := by
    intro x
    by_cases hx : x < 10
    · cases hq : kCl[x]? with
      | none => exact ⟨0, fun _ => 0, fun q h => by cases h⟩
      | some q =>
        obtain ⟨C, T, N⟩ := q
        obtain ⟨-, -, -, -, k5, k6, -⟩ := okK_spec hq (tb_K x hx)
        obtain ⟨cC, iS, h⟩ := u_known (ws := tbG) (args := args) (fun z hz => hts z (List.mem_filter.mp hz).1 (List.mem_filter.mp hz).2 args) k5 (hts _ (List.mem_of_getElem? (of_decide_eq_true k6)) rfl args)
        exact ⟨cC, iS, fun q hq' => by cases hq'; exact h⟩
    · by_cases hx2 : x < 13
      · obtain ⟨E, rfl⟩ : ∃ E, x = 10 + E := ⟨x - 10, by omega⟩
        have hE : E < 3 := by omega
        have hw := zipA_spec _ _ (tb_E E hE) (.instantiable (exN E) 6) (by simp [exWs, xAt])
        obtain ⟨cC, iS, h⟩ := u_known (ws := tbG) (args := args) (C := exN E) (T := kFE) (N := 0) (n := 6) (fun z hz => hts z (List.mem_filter.mp hz).1 (List.mem_filter.mp hz).2 args) (fun z hz => by cases hz) (hts _ hw.1 hw.2 args)
        exact ⟨cC, iS, fun q hq' => by rw [ex_kCl E hE] at hq'; cases hq'; exact h⟩
      · exact ⟨0, fun _ => 0, fun q h => by
          have := (List.getElem?_eq_some_iff.mp h).1
          have h9 : kCl.length = 13 := rfl
          omega⟩
  have h2 : ∀ x : Nat, ∃ cA : ClassId, ∀ ty, (tyl (fun _ => cA))[x]? = some (cA, ty) → ArrOfT s cA ty ∧ va_RA s cA ty := by
    intro x
    have prim : ∀ ty : FieldType, Cond.arrayClass ty ∈ lw_tbl → (∀ (u : State) (cA : ClassId), u.vm.findClass ("[" ++ ty.toString) = some cA → va_RA u cA ty) → ∃ cA : ClassId, ArrOfT s cA ty ∧ va_RA s cA ty := by
      intro ty hty hra
      obtain ⟨cA, k, comp, g1, g2, g3⟩ := Cond.arrayClass_spec (hts _ hty rfl args)
      exact ⟨cA, fun n z => ⟨(fun k h => by cases h), k, g2, comp, g3⟩, hra s cA g1⟩
    have hm : ∀ t, t ∈ [FieldType.int, .boolean, .long] → Cond.arrayClass t ∈ lw_tbl := tb_all.2.2.2.2.1
    by_cases h0 : x = 0
    · subst h0
      obtain ⟨cA, g⟩ := prim .int (hm _ (by simp)) (fun _ _ h => h)
      exact ⟨cA, fun ty h => by cases h; exact g⟩
    · by_cases h1 : x = 1
      · subst h1
        obtain ⟨cA, g⟩ := prim .boolean (hm _ (by simp)) (fun _ _ h => h)
        exact ⟨cA, fun ty h => by cases h; exact g⟩
      · by_cases h2 : x = 2
        · subst h2
          obtain ⟨cA, g⟩ := prim .long (hm _ (by simp)) (fun _ _ h => h)
          exact ⟨cA, fun ty h => by cases h; exact g⟩
        · by_cases h3 : x < 6
          · obtain ⟨j, rfl⟩ : ∃ j, x = 3 + j := ⟨x - 3, by omega⟩
            have hj : j < arN.length := by
              show j < 3
              omega
            have hao := aoP_in j hj
            obtain ⟨comp, cA, k, g1, -, g3, g4, g5⟩ := Cond.arrayOver_spec (hts _ hao rfl args)
            refine ⟨cA, fun ty h => ?_⟩
            rw [tyl3 _ hj] at h
            cases h
            exact ⟨fun n z => ⟨(fun k h => by cases h), k, g3, comp, g4⟩, k, comp, g3, g4, g1, g5⟩
          · exact ⟨0, fun ty h => by
              have := (List.getElem?_eq_some_iff.mp h).1
              have h9 : (tyl (fun _ => (0 : ClassId))).length = 6 := rfl
              omega⟩
  refine ⟨(fun x => Classical.choose (h1 x), fun x => Classical.choose (Classical.choose_spec (h1 x))), fun x => Classical.choose (h2 x), fun x q hq => Classical.choose_spec (Classical.choose_spec (h1 x)) q hq, fun x q hq => ?_⟩
  have hsp := Classical.choose_spec (h2 x)
  generalize hfe : (fun x => Classical.choose (h2 x)) = f at hq
  have hfx : Classical.choose (h2 x) = f x := by rw [← hfe]
  rw [hfx] at hsp
  have hlt : x < 6 := (List.getElem?_eq_some_iff.mp hq).1
  have hty : ∃ ty, q = (f x, ty) ∧ (tyl (fun _ => f x))[x]? = some (f x, ty) := by
    obtain rfl | rfl | rfl | rfl | rfl | rfl : x = 0 ∨ x = 1 ∨ x = 2 ∨ x = 3 ∨ x = 4 ∨ x = 5 := by omega
    · cases hq; exact ⟨_, rfl, rfl⟩
    · cases hq; exact ⟨_, rfl, rfl⟩
    · cases hq; exact ⟨_, rfl, rfl⟩
    · cases hq; exact ⟨_, rfl, rfl⟩
    · cases hq; exact ⟨_, rfl, rfl⟩
    · cases hq; exact ⟨_, rfl, rfl⟩
  obtain ⟨ty, rfl, h9⟩ := hty
  exact hsp ty h9
/-- from a run of the small machine to the law's own end -/
theorem en_law {p : Program} {l : Launch} {e : Env} {s : State} {m : MethodId} {below : List Frame} {meth : Method} {c : Code} {b L : Nat} {xs : Nat → Int32} {hs : Hp × Nat} (hl : l.stackTraces = false)
    (hx : p.tables.exec = Jvm.exec) (hM : MC 0 s m meth c) (hts : ∀ z ∈ lw_tbl, z.before #[Value.ref b] s = true) (hX : va_X b L xs s s.heap) (hb : b < s.heap.size)
    (z1 : ZL Bundle.tN "UNASSIGNED_STACK" Bundle.steD s.heap.size s s.heap) (z2 : ZL Bundle.tN "SUPPRESSED_SENTINEL" Bundle.listD s.heap.size s s.heap) (hn : ∀ i, i < 3 → ∀ j, j < 3 → i ≠ j → NCs (exN i) (exN j) s) {R : Room} (hR : RM R 0 1 0)
    (hev : Ev (0, 0, [(0, .ref 0)], [], ([(100, L)], fun _ j => xs j, fun _ _ => 0, fun _ _ => none), 0) (.inl (some (.int 1)), hs)) :
    W p l e R s m #[Value.ref b] below meth c s.heap [] 0 0 (fun t => t.status = .running ∧ Ended t below (.returned (some (.int 1))) ∧ s.WarmedH t.vm ∧ s.sameButNew ({ t with vm := s.vm } : State) [] R.cells R.slots) (entryFrame m ([Value.ref b] : List Value).toArray (mL 0)) := by
  have hw : ∀ z, z ∈ lw_tbl → okw z = true → ∀ a : Array Value, z.before a s = true := fun z hz hk a => okw_at (State.WarmedH.refl s) hk (hts z hz)
  obtain ⟨D, aC, hK⟩ := en_K (args := #[]) hw
  obtain ⟨n, hn9⟩ := hev
  have C : Cx (D, aC, b, s.heap.size, L, xs) s := ⟨hw, hK, hX, hb, Nat.le_refl _, fun q cell hq hc => absurd (Array.getElem?_eq_some_iff.mp hc).1 (Nat.not_lt.mpr hq), z1, z2, hn⟩
  have B : Bx p l R s m meth c (D, aC, b, s.heap.size, L, xs) 0 1 0 := ⟨hx, hl, C, hM, hR, Nat.one_pos, rfl⟩
  have k := snd tb_all (p := p) (l := l) (e := e) (w := (D, aC, b, s.heap.size, L, xs)) n _ _ hn9 R s m #[Value.ref b] below meth c 1 0 B
  rw [lg_entry_eq]
  have hlv := lv_entry [Value.ref b] (n := mL 0) (by rw [sl_len]; exact (by decide : 1 ≤ 7))
  refine W.mono (fun t ht => ?_) (k s.heap [] _ ⟨⟨Nat.one_pos, (fun k q hq => by cases hq), rfl, fun j _ => rfl⟩, va_S.rf, hlv, Nat.le_refl _, (show 1 ≤ mxC + 1 by decide), Nat.le_refl _, Nat.zero_le _⟩)
  obtain ⟨h1, h2, h3, -, -, -, q1, q2, q3, q4, -, L1, hL1, h5⟩ := ht
  refine ⟨h1, h2, h3, h5.weaken (fun y hy hlt => absurd hlt (Nat.not_lt.mpr (hL1 y hy))) ?_ ?_⟩
  · have := hR.2.2.1
    omega
  · have := hR.2.2.2
    omega
