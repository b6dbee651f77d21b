/-! one instruction of the small machine, over the machine itself -/
def kYd (x k : Nat) : FieldType := (kYs.getD x (fun _ => .int)) k
def kty (ty : FieldType) : Nat := match ty with
  | .int => 0
  | .boolean => 1
  | .object _ => 2
  | .array _ => 2
  | _ => 9
def okK (x : Nat) : Bool := match kCl[x]? with
  | some (C, T, N) => decide (N = (kKd x).length) && (List.range N).all (fun k => decide (parseFieldDescriptor (T k).2.2.1 = some (kYd x k)) && decide (kty (kYd x k) = (kKd x).getD k 0) && decide (kty (kYd x k) < 3) && wAt ((kWl.getD x []).getD k 0) (u_lay C T k)) && (List.range N).all (fun a => (List.range N).all (fun b => a == b || decide ((T a).2.1 ≠ (T b).2.1)))
    && wAt (kPl.getD x (0, 0)).1 (.instantiable C N) && wAt (kPl.getD x (0, 0)).2 (.initialized C)
  | none => false
theorem okw_lay (C : String) (T : u_T) (k : Nat) : okw (u_lay C T k) = true := by
  unfold u_lay
  split <;> rfl
theorem okK_spec {x : Nat} {C : String} {T : u_T} {N : Nat} (hx : kCl[x]? = some (C, T, N)) (h : okK x = true) : N = (kKd x).length ∧ (∀ k, k < N → parseFieldDescriptor (T k).2.2.1 = some (kYd x k)) ∧ (∀ k, k < N → kty (kYd x k) = (kKd x).getD k 0 ∧ kty (kYd x k) < 3) ∧ (∀ a, a < N → ∀ b, b < N → a ≠ b → (T a).2.1 ≠ (T b).2.1) ∧ (∀ w ∈ u_ws C T N, w ∈ tbG) ∧
    wAt (kPl.getD x (0, 0)).1 (.instantiable C N) = true ∧ wAt (kPl.getD x (0, 0)).2 (.initialized C) = true := by
  unfold okK at h
  rw [hx] at h
  simp only [Bool.and_eq_true, List.all_eq_true, List.mem_range, decide_eq_true_eq, Bool.or_eq_true, beq_iff_eq] at h
  obtain ⟨⟨⟨⟨h1, h2⟩, h3⟩, h4⟩, h5⟩ := h
  refine ⟨h1, fun k hk => (h2 k hk).1.1.1, fun k hk => ⟨(h2 k hk).1.1.2, (h2 k hk).1.2⟩, fun a ha b hb hab => (h3 a ha b hb).resolve_left hab, fun w hw => ?_, h4, h5⟩
  obtain ⟨k, hk, rfl⟩ := List.mem_map.mp hw
  exact List.mem_filter.mpr ⟨List.mem_of_getElem? (of_decide_eq_true (h2 k (List.mem_range.mp hk)).2), okw_lay C T k⟩
def mY (i : Nat) : MethodName := mYl.getD i ⟨"", "", ""⟩
def mB (i : Nat) : ByteArray := mBl.getD i ⟨#[]⟩
def hX (i : Nat) : List (Nat × Nat × Nat × Nat) := (hXl.getD i []).map (fun q => (q.1, q.2.1, q.2.2.1, q.2.2.2.1))
def nF (i : Nat) : Nat := nFl.getD i 0
def nW (i : Nat) : Nat := nWl.getD i 0
def MC (mi : Nat) (s : State) (m : MethodId) (meth : Method) (c : Code) : Prop := s.vm.findClass (mY mi).cls = some m.cls ∧ c.code = mB mi ∧ c.maxLocals = mL mi ∧ meth.sig.returnType = mR mi ∧ meth.locks = false ∧ meth.name = (mY mi).name ∧ c.exceptionTable.toList.map (fun h => (h.startPc, h.endPc, h.handlerPc, h.catchType)) = hX mi
def RM (R : Room) (mi sh0 sl0 : Nat) : Prop := nF mi ≤ R.frames ∧ nW mi ≤ R.locals ∧ R.cells + sh0 = mxC + 1 ∧ R.slots + sl0 = mxS
def Bx (p : Program) (l : Launch) (R : Room) (s : State) (m : MethodId) (meth : Method) (c : Code) (w : Wd) (mi sh0 sl0 : Nat) : Prop :=
  p.tables.exec = Jvm.exec ∧ l.stackTraces = false ∧ Cx w s ∧ MC mi s m meth c ∧ RM R mi sh0 sl0 ∧ 0 < sh0 ∧ s.heap.size = w.base + (sh0 - 1)
def cvl (w : Wd) (lc : Lc) : List (Nat × Value) := lc.map (fun q => (q.1, cv w.b w.base q.2))
def In (w : Wd) (s : State) (sh0 sl0 mi : Nat) (lc : Lc) (h : Hp) (sl : Nat) (H : Heap) (locs : List Loc) (ls : Array Slot) : Prop :=
  HR w h H ∧ va_S (fun q => w.base ≤ q) s.heap H locs ∧ lv_has ls (mL mi) (cvl w lc) ∧ sh0 ≤ h.1.length ∧ h.1.length ≤ mxC + 1 ∧ sl0 ≤ sl ∧ sl ≤ mxS
abbrev KK (p : Program) (l : Launch) (e : Env) (R : Room) (s : State) (m : MethodId) (args : Array Value) (below : List Frame) (meth : Method) (c : Code) (w : Wd) (sh0 sl0 : Nat) (Q : State → Prop) (y : Cf) : Prop :=
  ∀ (H : Heap) (locs : List Loc) (ls : Array Slot), In w s sh0 sl0 y.1 y.2.2.1 y.2.2.2.2.1 y.2.2.2.2.2 H locs ls → W p l e R s m args below meth c H locs (y.2.2.2.2.1.1.length - sh0) (y.2.2.2.2.2 - sl0) Q (F0 m y.2.1 ls (y.2.2.2.1.map (cv w.b w.base)))
def oc (w : Wd) (o : Option Value ⊕ Nat × Nat) : Outcome := match o with
  | .inl v => .returned (v.map (cv w.b w.base))
  | .inr q => .threw (ad w.b w.base q.1)
def thk (r : Out) : Prop := match r.1 with
  | .inl _ => True
  | .inr q => r.2.1.1[q.1]? = some (10 + q.2, 0) ∧ q.1 ≠ 0 ∧ q.2 < 3
def QQ (w : Wd) (below : List Frame) (s : State) (sh0 sl0 : Nat) (r : Out) (t : State) : Prop :=
  t.status = .running ∧ Ended t below (oc w r.1) ∧ s.WarmedH t.vm ∧ HR w r.2.1 t.heap ∧ t.heap.size = w.base + (r.2.1.1.length - 1) ∧ (∀ a, a < w.base → t.heap[a]? = s.heap[a]?) ∧ sh0 ≤ r.2.1.1.length ∧ r.2.1.1.length ≤ mxC + 1 ∧ sl0 ≤ r.2.2 ∧ r.2.2 ≤ mxS ∧ thk r ∧ ∃ L1 : List Loc, (∀ q ∈ L1, w.base ≤ q.base) ∧ s.sameButNew ({ t with vm := s.vm } : State) L1 (r.2.1.1.length - sh0) (r.2.2 - sl0)
theorem lget_has {w : Wd} {ls : Array Slot} {n : Nat} {lc : Lc} (h : lv_has ls n (cvl w lc)) {k : Nat} {v : Value} (hk : lget lc k = some v) : ls[k]? = some (.val (cv w.b w.base v)) := by
  unfold lget at hk
  obtain ⟨q, hq, rfl⟩ := Option.map_eq_some_iff.mp hk
  have h1 := List.mem_of_find?_eq_some hq
  have h2 := List.find?_some hq
  have h3 : q.1 = k := by simpa using h2
  have h4 := h.2.2 (q.1, cv w.b w.base q.2) (List.mem_map.mpr ⟨q, h1, rfl⟩)
  rw [← h3]
  exact h4
theorem lput_cvl (w : Wd) (lc : Lc) (i : Nat) (v : Value) : (i, cv w.b w.base v) :: (cvl w lc).filter (fun q => !(q.1 == i) && !(q.1 + 1 == i && q.2.category == 2)) = cvl w (lput lc i v) := by
  unfold lput cvl
  rw [List.map_cons, List.filter_map]
  congr 2
  apply List.filter_congr
  intro q _
  simp [Function.comp, cv_cat]
theorem go_inv {mi : Nat} {ls : Lc} {sh : List (Nat × Nat)} {gi : Nat → Nat → Int32} {gl : Nat → Nat → Int64} {gr : Nat → Nat → Option Nat} {sl pc' : Nat} {st : List Value} {y : Cg} (h : go mi ls sh gi gl gr sl pc' st = some y) : (pc', ls, st, (sh, gi, gl, gr), sl) = y := by
  unfold go at h
  exact Option.some.inj h
theorem ldI_inv {sh : List (Nat × Nat)} {x q : Nat} {i : Int32} {k : Nat → Option Cg} {r : Cg} (h : ldI sh x q i k = some r) : ∃ n, sh[q]? = some (x, n) ∧ vp_in i n ∧ k i.toNatClampNeg = some r := by
  unfold ldI at h
  split at h
  · rename_i y n hq
    split at h
    · rename_i hy
      subst hy
      split at h
      · cases h
      · rename_i hn
        exact ⟨n, hq, hn, h⟩
    · cases h
  · cases h
section
variable {w : Wd} {sh : List (Nat × Nat)} {gi : Nat → Nat → Int32} {gl : Nat → Nat → Int64} {gr : Nat → Nat → Option Nat} {q n : Nat}
theorem wi {b base : Nat} {aC : Nat → ClassId} (h : sh[q + 1]? = some (100, n)) : (wld aC b base sh gi gl gr)[q]? = some (base + q, .inl (aC 0, n, .inl (gi (q + 1)))) := wld_at h
theorem wz {b base : Nat} {aC : Nat → ClassId} (h : sh[q + 1]? = some (101, n)) : (wld aC b base sh gi gl gr)[q]? = some (base + q, .inl (aC 1, n, .inl (gi (q + 1)))) := wld_at h
theorem wl {b base : Nat} {aC : Nat → ClassId} (h : sh[q + 1]? = some (102, n)) : (wld aC b base sh gi gl gr)[q]? = some (base + q, .inl (aC 2, n, .inr (.inl (gl (q + 1))))) := wld_at h
theorem cel_r {b base : Nat} {aC : Nat → ClassId} {x : Nat} (hx : 103 ≤ x) (k : Nat) : cel aC b base gi gl gr k (x, n) = .inl (aC (x - 100), n, .inr (.inr (.inr (.inr (fun j => (gr k j).map (ad b base)))))) := by
  unfold cel
  rw [if_neg (show ¬ (x, n).1 < 100 by show ¬ x < 100; omega), if_neg (show ¬ (x, n).1 = 102 by show ¬ x = 102; omega), if_pos (show 103 ≤ (x, n).1 from hx)]
theorem wr {b base : Nat} {aC : Nat → ClassId} {x : Nat} (hx : 103 ≤ x) (h : sh[q + 1]? = some (x, n)) : (wld aC b base sh gi gl gr)[q]? = some (base + q, .inl (aC (x - 100), n, .inr (.inr (.inr (.inr (fun j => (gr (q + 1) j).map (ad b base))))))) := by
  rw [wld_at h, cel_r hx]
theorem cel_o {b base : Nat} {aC : Nat → ClassId} {x : Nat} (hx : x < 100) (k : Nat) : cel aC b base gi gl gr k (x, n) = .inr (x, fldv b base x gi gr k) := by
  unfold cel
  rw [if_pos (show (x, n).1 < 100 from hx)]
theorem wo {b base : Nat} {aC : Nat → ClassId} {x : Nat} (hx : x < 100) (h : sh[q + 1]? = some (x, n)) : (wld aC b base sh gi gl gr)[q]? = some (base + q, .inr (x, fldv b base x gi gr (q + 1))) := by
  rw [wld_at h, cel_o hx]
theorem fldv_len (b base x k : Nat) : (fldv b base x gi gr k).length = (kKd x).length := by simp [fldv]
theorem fldv_get (b base x k : Nat) {j : Nat} (hj : j < (kKd x).length) : (fldv b base x gi gr k)[j]? = some (if (kKd x).getD j 0 = 2 then va_rf ((gr k j).map (ad b base)) else .int (gi k j)) := by
  simp [fldv, List.getElem?_map, List.getElem?_range hj]
theorem fldv_setI (b base x k : Nat) {j : Nat} (hj : j < (kKd x).length) (hk : (kKd x).getD j 0 ≠ 2) (v : Int32) : (fldv b base x gi gr k).set j (.int v) = fldv b base x (u2 gi k j v) gr k := by
  apply List.ext_getElem?
  intro i
  by_cases hi : i < (kKd x).length
  · by_cases e : i = j
    · subst e
      rw [List.getElem?_set_self (by rw [fldv_len]; exact hi), fldv_get _ _ _ _ hi, if_neg hk]
      simp [u2]
    · rw [List.getElem?_set_ne (Ne.symm e), fldv_get _ _ _ _ hi, fldv_get _ _ _ _ hi]
      simp [u2, e]
  · rw [List.getElem?_eq_none (by rw [List.length_set, fldv_len]; omega), List.getElem?_eq_none (by rw [fldv_len]; omega)]
theorem fldv_setR (b base x k : Nat) {j : Nat} (hj : j < (kKd x).length) (hk : (kKd x).getD j 0 = 2) (v : Nat) : (fldv b base x gi gr k).set j (.ref (ad b base v)) = fldv b base x gi (u2 gr k j (some v)) k := by
  apply List.ext_getElem?
  intro i
  by_cases hi : i < (kKd x).length
  · by_cases e : i = j
    · subst e
      rw [List.getElem?_set_self (by rw [fldv_len]; exact hi), fldv_get _ _ _ _ hi, if_pos hk]
      simp [u2, va_rf]
    · rw [List.getElem?_set_ne (Ne.symm e), fldv_get _ _ _ _ hi, fldv_get _ _ _ _ hi]
      simp [u2, e]
  · rw [List.getElem?_eq_none (by rw [List.length_set, fldv_len]; omega), List.getElem?_eq_none (by rw [fldv_len]; omega)]
end
theorem upd_u2 (g : Nat → Nat → Int32) (q j : Nat) (v : Int32) : upd (g q) j v = u2 g q j v q := by
  funext b
  simp [upd, u2]
theorem updL_u2 (g : Nat → Nat → Int64) (q j : Nat) (v : Int64) : vp_updL (g q) j v = u2 g q j v q := by
  funext b
  simp [vp_updL, u2]
theorem va_up_u2 (g : Nat → Nat → Option Nat) (f : Nat → Nat) (q j v : Nat) : va_up (fun i => (g q i).map f) j (some (f v)) = fun i => (u2 g q j (some v) q i).map f := by
  funext b
  by_cases hb : b = j
  · subst hb
    simp [va_up, u2]
  · simp [va_up, u2, hb]
theorem cpy_cpy2 (g : Nat → Nat → Int32) (k q sp dp n : Nat) : va_cpy (g k) (g q) sp dp n = cpy2 g k q sp dp n q := by
  funext b
  simp [cpy2]
theorem def_kty : ∀ ty : FieldType, kty ty < 3 → defaultValue ty = if kty ty = 2 then va_rf none else .int 0 := by
  intro ty h
  cases ty <;> first | rfl | (simp [kty] at h)
theorem tyl0 (aC : Nat → ClassId) : (tyl aC)[0]? = some (aC 0, .int) := rfl
theorem tyl1 (aC : Nat → ClassId) : (tyl aC)[1]? = some (aC 1, .boolean) := rfl
theorem tyl2 (aC : Nat → ClassId) : (tyl aC)[2]? = some (aC 2, .long) := rfl
theorem tyl3 (aC : Nat → ClassId) {j : Nat} (hj : j < arN.length) : (tyl aC)[3 + j]? = some (aC (3 + j), .object (arN.getD j "")) := by
  unfold tyl
  have e : 3 + j = j + 1 + 1 + 1 := by omega
  rw [e, List.getElem?_cons_succ, List.getElem?_cons_succ, List.getElem?_cons_succ]
  simp [List.getElem?_map, List.getElem?_range hj]
  exact congrArg aC e
/-- after a write of one cell, whose place in the list is q -/
theorem HR.wrote {w : Wd} {sh : List (Nat × Nat)} {gi gi' : Nat → Nat → Int32} {gl gl' : Nat → Nat → Int64} {gr gr' : Nat → Nat → Option Nat} {H H1 : Heap} {q : Nat} {z : Nat × Nat} {x : va_E} (hr : HR w (sh, gi, gl, gr) H) (hz : sh[q + 1]? = some z)
    (h1 : ∀ k, k ≠ q + 1 → gi' k = gi k) (h2 : ∀ k, k ≠ q + 1 → gl' k = gl k) (h3 : ∀ k, k ≠ q + 1 → gr' k = gr k) (hx : x = cel w.aC w.b w.base gi' gl' gr' (q + 1) z) (hP : va_P w.D kCl ((wld w.aC w.b w.base sh gi gl gr).set q (w.base + q, x)) H1) : HR w (sh, gi', gl', gr') H1 := by
  obtain ⟨r0, -, r3, r4⟩ := hr
  rw [hx, wld_set hz h1 h2 h3] at hP
  refine ⟨r0, hP, r3, fun j hj => ?_⟩
  show gi' 0 j = _
  rw [h1 0 (by omega)]
  exact r4 j hj
section
variable {p : Program} {l : Launch} {e : Env} {R : Room} {s : State} {m : MethodId} {args : Array Value} {below : List Frame} {meth : Method} {c : Code} {Q : State → Prop}
variable {w : Wd} {mi sh0 sl0 pc : Nat} {lc : Lc} {st : List Value} {sh : List (Nat × Nat)} {gi : Nat → Nat → Int32} {gl : Nat → Nat → Int64} {gr : Nat → Nat → Option Nat} {sl : Nat} {H : Heap} {locs : List Loc} {ls : Array Slot} {y : Cg}
theorem W.sized {cells slots : Nat} {g : JFrame} (h : H.size ≤ s.heap.size + cells → W p l e R s m args below meth c H locs cells slots Q g) : W p l e R s m args below meth c H locs cells slots Q g := by
  intro T hT X
  have := X.heapSize
  rw [hT] at this
  exact h this T hT X
theorem W.mono {Q' : State → Prop} {cells slots : Nat} {g : JFrame} (hQ : ∀ t, Q t → Q' t) (h : W p l e R s m args below meth c H locs cells slots Q g) : W p l e R s m args below meth c H locs cells slots Q' g := by
  intro T hT X
  obtain ⟨t, a, b⟩ := h T hT X
  exact ⟨t, a, hQ t b⟩
theorem In.size (B : Bx p l R s m meth c w mi sh0 sl0) {lc : Lc} {h : Hp} (I : In w s sh0 sl0 mi lc h sl H locs ls) (hz : H.size ≤ s.heap.size + (h.1.length - sh0)) : H.size = w.base + (h.1.length - 1) := by
  obtain ⟨-, -, C, -, -, h0, hs⟩ := B
  have h1 := I.1.low (Nat.le_trans C.2.2.2.2.1 I.2.1.1)
  have h2 := I.2.2.2.1
  omega
theorem so_push {v : Value} {len : Nat} {y : Cg} (h : s_push len mi pc lc st sh gi gl gr sl v = some y) (hv : cv w.b w.base v = v) (I : In w s sh0 sl0 mi lc (sh, gi, gl, gr) sl H locs ls) (K : KK p l e R s m args below meth c w sh0 sl0 Q (mi, y)) : W p l e R s m args below meth c H locs (sh.length - sh0) (sl - sl0) Q (F0 m (pc + len) ls (v :: st.map (cv w.b w.base))) := by
  obtain rfl := go_inv h
  have := K H locs ls I
  simp only [List.map_cons, hv] at this
  exact this
theorem so_iload {k len : Nat} (h : s_iload len mi pc lc st sh gi gl gr sl k = some y) (I : In w s sh0 sl0 mi lc (sh, gi, gl, gr) sl H locs ls) (K : KK p l e R s m args below meth c w sh0 sl0 Q (mi, y)) : ∃ x, ls[k]? = some (.val (.int x)) ∧ W p l e R s m args below meth c H locs (sh.length - sh0) (sl - sl0) Q (F0 m (pc + len) ls (.int x :: st.map (cv w.b w.base))) := by
  unfold s_iload at h
  split at h
  · rename_i x hx
    obtain rfl := go_inv h
    exact ⟨x, lget_has I.2.2.1 hx, K H locs ls I⟩
  · cases h
theorem so_aload {k len : Nat} (h : s_aload len mi pc lc st sh gi gl gr sl k = some y) (I : In w s sh0 sl0 mi lc (sh, gi, gl, gr) sl H locs ls) (K : KK p l e R s m args below meth c w sh0 sl0 Q (mi, y)) : ∃ x, ls[k]? = some (.val (.ref x)) ∧ W p l e R s m args below meth c H locs (sh.length - sh0) (sl - sl0) Q (F0 m (pc + len) ls (.ref x :: st.map (cv w.b w.base))) := by
  unfold s_aload at h
  split at h
  · rename_i x hx
    obtain rfl := go_inv h
    exact ⟨ad w.b w.base x, lget_has I.2.2.1 hx, K H locs ls I⟩
  · cases h
theorem so_istore {k len : Nat} (h : s_istore len mi pc lc st sh gi gl gr sl k = some y) (I : In w s sh0 sl0 mi lc (sh, gi, gl, gr) sl H locs ls) (K : KK p l e R s m args below meth c w sh0 sl0 Q (mi, y)) : ∃ x r lc', st.map (cv w.b w.base) = .int x :: r ∧ k < mL mi ∧ (k, Value.int x) :: (cvl w lc).filter (fun q => !(q.1 == k) && !(q.1 + 1 == k && q.2.category == 2)) = lc' ∧ ∀ ls', lv_has ls' (mL mi) lc' → W p l e R s m args below meth c H locs (sh.length - sh0) (sl - sl0) Q (F0 m (pc + len) ls' r) := by
  unfold s_istore at h
  split at h
  · rename_i x r
    split at h
    · rename_i hk
      obtain rfl := go_inv h
      exact ⟨x, r.map (cv w.b w.base), _, rfl, hk, rfl, fun ls' hl => K H locs ls' ⟨I.1, I.2.1, by rw [← lput_cvl]; exact hl, I.2.2.2⟩⟩
    · cases h
  · cases h
theorem so_astore {k len : Nat} (h : s_astore len mi pc lc st sh gi gl gr sl k = some y) (I : In w s sh0 sl0 mi lc (sh, gi, gl, gr) sl H locs ls) (K : KK p l e R s m args below meth c w sh0 sl0 Q (mi, y)) : ∃ x r lc', st.map (cv w.b w.base) = .ref x :: r ∧ k < mL mi ∧ (k, Value.ref x) :: (cvl w lc).filter (fun q => !(q.1 == k) && !(q.1 + 1 == k && q.2.category == 2)) = lc' ∧ ∀ ls', lv_has ls' (mL mi) lc' → W p l e R s m args below meth c H locs (sh.length - sh0) (sl - sl0) Q (F0 m (pc + len) ls' r) := by
  unfold s_astore at h
  split at h
  · rename_i x r
    split at h
    · rename_i hk
      obtain rfl := go_inv h
      exact ⟨ad w.b w.base x, r.map (cv w.b w.base), _, rfl, hk, rfl, fun ls' hl => K H locs ls' ⟨I.1, I.2.1, by rw [← lput_cvl]; exact hl, I.2.2.2⟩⟩
    · cases h
  · cases h
theorem so_iinc {k : Nat} {n : Int} (hx : p.tables.exec = Jvm.exec) (hb : c.code = mB mi) (hdg : decode (mB mi) pc = .ok (.iinc k n, 3)) (h : s_iinc 3 mi pc lc st sh gi gl gr sl k n = some y) (I : In w s sh0 sl0 mi lc (sh, gi, gl, gr) sl H locs ls) (K : KK p l e R s m args below meth c w sh0 sl0 Q (mi, y)) : W p l e R s m args below meth c H locs (sh.length - sh0) (sl - sl0) Q (F0 m pc ls (st.map (cv w.b w.base))) := by
  unfold s_iinc at h
  split at h
  · rename_i x hg
    split at h
    · rename_i hk
      obtain rfl := go_inv h
      unfold lget at hg
      obtain ⟨q, hq, hq2⟩ := Option.map_eq_some_iff.mp hg
      have h1 := List.mem_of_find?_eq_some hq
      have h3 : q.1 = k := by simpa using List.find?_some hq
      have h4 : (k, Value.int x) ∈ cvl w lc := List.mem_map.mpr ⟨q, h1, by rw [hq2, h3]; rfl⟩
      obtain ⟨j, hj⟩ := List.getElem?_of_mem h4
      exact lv_iinc hx hb hdg I.2.2.1 hj rfl hk rfl (fun ls' hl => K H locs ls' ⟨I.1, I.2.1, by rw [← lput_cvl]; exact hl, I.2.2.2⟩)
    · cases h
  · cases h
theorem so_bin {f : Int32 → Int32 → Int32} {len : Nat} (h : s_bin len mi pc lc st sh gi gl gr sl f = some y) (I : In w s sh0 sl0 mi lc (sh, gi, gl, gr) sl H locs ls) (K : KK p l e R s m args below meth c w sh0 sl0 Q (mi, y)) : ∃ x y r, st.map (cv w.b w.base) = .int y :: .int x :: r ∧ W p l e R s m args below meth c H locs (sh.length - sh0) (sl - sl0) Q (F0 m (pc + len) ls (.int (f x y) :: r)) := by
  unfold s_bin at h
  split at h
  · rename_i y x r
    obtain rfl := go_inv h
    exact ⟨x, y, r.map (cv w.b w.base), rfl, K H locs ls I⟩
  · cases h
theorem so_div {f : Int32 → Int32 → Int32} {len : Nat} (h : s_div len mi pc lc st sh gi gl gr sl f = some y) (I : In w s sh0 sl0 mi lc (sh, gi, gl, gr) sl H locs ls) (K : KK p l e R s m args below meth c w sh0 sl0 Q (mi, y)) : ∃ x y r, st.map (cv w.b w.base) = .int y :: .int x :: r ∧ ¬ y = 0 ∧ W p l e R s m args below meth c H locs (sh.length - sh0) (sl - sl0) Q (F0 m (pc + len) ls (.int (f x y) :: r)) := by
  unfold s_div at h
  split at h
  · rename_i y x r
    split at h
    · cases h
    · rename_i hy
      obtain rfl := go_inv h
      exact ⟨x, y, r.map (cv w.b w.base), rfl, hy, K H locs ls I⟩
  · cases h
theorem so_i2l (hx : p.tables.exec = Jvm.exec) (hb : c.code = mB mi) (hdg : decode (mB mi) pc = .ok (.i2l, 1)) (h : s_i2l 1 mi pc lc st sh gi gl gr sl = some y) (I : In w s sh0 sl0 mi lc (sh, gi, gl, gr) sl H locs ls) (K : KK p l e R s m args below meth c w sh0 sl0 Q (mi, y)) : W p l e R s m args below meth c H locs (sh.length - sh0) (sl - sl0) Q (F0 m pc ls (st.map (cv w.b w.base))) := by
  unfold s_i2l at h
  split at h
  · obtain rfl := go_inv h
    exact lv_i2l hx hb hdg rfl (K H locs ls I)
  · cases h
theorem so_lcmp (hx : p.tables.exec = Jvm.exec) (hb : c.code = mB mi) (hdg : decode (mB mi) pc = .ok (.lcmp, 1)) (h : s_lcmp 1 mi pc lc st sh gi gl gr sl = some y) (I : In w s sh0 sl0 mi lc (sh, gi, gl, gr) sl H locs ls) (K : KK p l e R s m args below meth c w sh0 sl0 Q (mi, y)) : W p l e R s m args below meth c H locs (sh.length - sh0) (sl - sl0) Q (F0 m pc ls (st.map (cv w.b w.base))) := by
  unfold s_lcmp at h
  split at h
  · obtain rfl := go_inv h
    exact W.lcmp hx hb hdg (K H locs ls I)
  · cases h
theorem so_dup (hx : p.tables.exec = Jvm.exec) (hb : c.code = mB mi) (hdg : decode (mB mi) pc = .ok (.dup, 1)) (h : s_dup 1 mi pc lc st sh gi gl gr sl = some y) (I : In w s sh0 sl0 mi lc (sh, gi, gl, gr) sl H locs ls) (K : KK p l e R s m args below meth c w sh0 sl0 Q (mi, y)) : W p l e R s m args below meth c H locs (sh.length - sh0) (sl - sl0) Q (F0 m pc ls (st.map (cv w.b w.base))) := by
  unfold s_dup at h
  split at h
  · split at h
    · rename_i hc
      obtain rfl := go_inv h
      exact lv_dup hx hb hdg (by rw [cv_cat]; exact hc) (K H locs ls I)
    · cases h
  · cases h
theorem so_pop (hx : p.tables.exec = Jvm.exec) (hb : c.code = mB mi) (hdg : decode (mB mi) pc = .ok (.pop, 1)) (h : s_pop 1 mi pc lc st sh gi gl gr sl = some y) (I : In w s sh0 sl0 mi lc (sh, gi, gl, gr) sl H locs ls) (K : KK p l e R s m args below meth c w sh0 sl0 Q (mi, y)) : W p l e R s m args below meth c H locs (sh.length - sh0) (sl - sl0) Q (F0 m pc ls (st.map (cv w.b w.base))) := by
  unfold s_pop at h
  split at h
  · split at h
    · rename_i hc
      obtain rfl := go_inv h
      exact lv_pop hx hb hdg (by rw [cv_cat]; exact hc) (K H locs ls I)
    · cases h
  · cases h
theorem so_dup2 (hx : p.tables.exec = Jvm.exec) (hb : c.code = mB mi) (hdg : decode (mB mi) pc = .ok (.dup2, 1)) (h : s_dup2 1 mi pc lc st sh gi gl gr sl = some y) (I : In w s sh0 sl0 mi lc (sh, gi, gl, gr) sl H locs ls) (K : KK p l e R s m args below meth c w sh0 sl0 Q (mi, y)) : W p l e R s m args below meth c H locs (sh.length - sh0) (sl - sl0) Q (F0 m pc ls (st.map (cv w.b w.base))) := by
  unfold s_dup2 at h
  split at h
  · split at h
    · rename_i hc
      obtain rfl := go_inv h
      exact lv_dup2_11 hx hb hdg (by rw [cv_cat]; exact hc.1) (by rw [cv_cat]; exact hc.2) (K H locs ls I)
    · cases h
  · cases h
theorem so_if {cc : ClassFile.Cond} {o : Int} {a : Nat} (hx : p.tables.exec = Jvm.exec) (hb : c.code = mB mi) (hdg : decode (mB mi) pc = .ok (.ifCond cc o, 3)) (ha : (pc : Int) + o = (a : Int)) (h : s_if a mi pc lc st sh gi gl gr sl cc = some y) (I : In w s sh0 sl0 mi lc (sh, gi, gl, gr) sl H locs ls) (K : KK p l e R s m args below meth c w sh0 sl0 Q (mi, y)) : W p l e R s m args below meth c H locs (sh.length - sh0) (sl - sl0) Q (F0 m pc ls (st.map (cv w.b w.base))) := by
  unfold s_if at h
  split at h
  · rename_i x r
    cases cc <;> simp only [br] at h
    · exact lv_if_eq hx hb hdg ha (fun q => by rw [if_pos q] at h; obtain rfl := go_inv h; exact K H locs ls I) (fun q => by rw [if_neg q] at h; obtain rfl := go_inv h; exact K H locs ls I)
    · exact lv_if_ne hx hb hdg ha (fun q => by rw [if_neg q] at h; obtain rfl := go_inv h; exact K H locs ls I) (fun q => by rw [if_pos q] at h; obtain rfl := go_inv h; exact K H locs ls I)
    · exact lv_if_lt hx hb hdg ha (fun q => by rw [if_pos q] at h; obtain rfl := go_inv h; exact K H locs ls I) (fun q => by rw [if_neg q] at h; obtain rfl := go_inv h; exact K H locs ls I)
    · exact lv_if_ge hx hb hdg ha (fun q => by rw [if_pos q] at h; obtain rfl := go_inv h; exact K H locs ls I) (fun q => by rw [if_neg q] at h; obtain rfl := go_inv h; exact K H locs ls I)
    · exact lv_if_gt hx hb hdg ha (fun q => by rw [if_pos q] at h; obtain rfl := go_inv h; exact K H locs ls I) (fun q => by rw [if_neg q] at h; obtain rfl := go_inv h; exact K H locs ls I)
    · exact lv_if_le hx hb hdg ha (fun q => by rw [if_pos q] at h; obtain rfl := go_inv h; exact K H locs ls I) (fun q => by rw [if_neg q] at h; obtain rfl := go_inv h; exact K H locs ls I)
  · cases h
theorem so_icmp {cc : ClassFile.Cond} {o : Int} {a : Nat} (hx : p.tables.exec = Jvm.exec) (hb : c.code = mB mi) (hdg : decode (mB mi) pc = .ok (.if_icmp cc o, 3)) (ha : (pc : Int) + o = (a : Int)) (h : s_icmp a mi pc lc st sh gi gl gr sl cc = some y) (I : In w s sh0 sl0 mi lc (sh, gi, gl, gr) sl H locs ls) (K : KK p l e R s m args below meth c w sh0 sl0 Q (mi, y)) : W p l e R s m args below meth c H locs (sh.length - sh0) (sl - sl0) Q (F0 m pc ls (st.map (cv w.b w.base))) := by
  unfold s_icmp at h
  split at h
  · rename_i y x r
    cases cc <;> simp only [br] at h
    · exact lv_icmp_eq hx hb hdg ha (fun q => by rw [if_pos q] at h; obtain rfl := go_inv h; exact K H locs ls I) (fun q => by rw [if_neg q] at h; obtain rfl := go_inv h; exact K H locs ls I)
    · exact lv_icmp_ne hx hb hdg ha (fun q => by rw [if_neg q] at h; obtain rfl := go_inv h; exact K H locs ls I) (fun q => by rw [if_pos q] at h; obtain rfl := go_inv h; exact K H locs ls I)
    · exact lv_icmp_lt hx hb hdg ha (fun q => by rw [if_pos q] at h; obtain rfl := go_inv h; exact K H locs ls I) (fun q => by rw [if_neg q] at h; obtain rfl := go_inv h; exact K H locs ls I)
    · exact lv_icmp_ge hx hb hdg ha (fun q => by rw [if_pos q] at h; obtain rfl := go_inv h; exact K H locs ls I) (fun q => by rw [if_neg q] at h; obtain rfl := go_inv h; exact K H locs ls I)
    · exact lv_icmp_gt hx hb hdg ha (fun q => by rw [if_pos q] at h; obtain rfl := go_inv h; exact K H locs ls I) (fun q => by rw [if_neg q] at h; obtain rfl := go_inv h; exact K H locs ls I)
    · exact lv_icmp_le hx hb hdg ha (fun q => by rw [if_pos q] at h; obtain rfl := go_inv h; exact K H locs ls I) (fun q => by rw [if_neg q] at h; obtain rfl := go_inv h; exact K H locs ls I)
  · cases h
theorem so_tab {d lo hi : Int} {offs : Array Int} {len : Nat} (hx : p.tables.exec = Jvm.exec) (hb : c.code = mB mi) (hdg : decode (mB mi) pc = .ok (.tableswitch d lo hi offs, len)) (h0 : 0 ≤ (pc : Int) + d) (h1 : ∀ o ∈ offs.toList, 0 ≤ (pc : Int) + o) (h : s_tab mi pc lc st sh gi gl gr sl d lo hi offs = some y) (I : In w s sh0 sl0 mi lc (sh, gi, gl, gr) sl H locs ls) (K : KK p l e R s m args below meth c w sh0 sl0 Q (mi, y)) : W p l e R s m args below meth c H locs (sh.length - sh0) (sl - sl0) Q (F0 m pc ls (st.map (cv w.b w.base))) := by
  unfold s_tab at h
  split at h
  · rename_i x r
    split at h
    · rename_i hc
      obtain rfl := go_inv h
      exact lv_tableOut hx hb hdg hc (Int.toNat_of_nonneg h0).symm (K H locs ls I)
    · rename_i hc
      split at h
      · rename_i o ho
        obtain rfl := go_inv h
        exact lv_tableIn hx hb hdg (fun q => hc (Or.inl q)) (fun q => hc (Or.inr q)) ho (Int.toNat_of_nonneg (h1 o (by rw [← Array.getElem?_toList] at ho; exact List.mem_of_getElem? ho))).symm (K H locs ls I)
      · cases h
  · cases h
theorem lko_mem : ∀ (l : List (Int × Int)) (d x : Int), Op.lookupswitch.offset l d x = d ∨ ∃ q ∈ l, Op.lookupswitch.offset l d x = q.2
  | [], d, x => Or.inl rfl
  | q :: t, d, x => by
    unfold Op.lookupswitch.offset
    split
    · exact Or.inr ⟨q, List.mem_cons_self, rfl⟩
    · rcases lko_mem t d x with h | ⟨z, hz, h⟩
      · exact Or.inl h
      · exact Or.inr ⟨z, List.mem_cons_of_mem _ hz, h⟩
theorem so_look {d : Int} {ps : Array (Int × Int)} {len : Nat} (hx : p.tables.exec = Jvm.exec) (hb : c.code = mB mi) (hdg : decode (mB mi) pc = .ok (.lookupswitch d ps, len)) (h0 : 0 ≤ (pc : Int) + d) (h1 : ∀ o ∈ ps.toList, 0 ≤ (pc : Int) + o.2) (h2 : (ps.toList.zip (ps.toList.drop 1)).all (fun (a, next) => a.1 < next.1) = true) (h : s_look mi pc lc st sh gi gl gr sl d ps = some y) (I : In w s sh0 sl0 mi lc (sh, gi, gl, gr) sl H locs ls) (K : KK p l e R s m args below meth c w sh0 sl0 Q (mi, y)) : W p l e R s m args below meth c H locs (sh.length - sh0) (sl - sl0) Q (F0 m pc ls (st.map (cv w.b w.base))) := by
  unfold s_look at h
  split at h
  · rename_i x r
    obtain rfl := go_inv h
    refine lv_lookup hx hb hdg h2 rfl (Int.toNat_of_nonneg ?_).symm (K H locs ls I)
    rcases lko_mem ps.toList d x.toInt with q | ⟨z, hz, q⟩
    · rw [q]; exact h0
    · rw [q]; exact h1 z hz
  · cases h
end
