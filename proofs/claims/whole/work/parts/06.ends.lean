/-! ends of a method: what it returns, what it throws; a handler of its own -/
section
variable {p : Program} {l : Launch} {e : Env} {R : Room} {s : State} {m : MethodId} {args : Array Value} {below : List Frame} {meth : Method} {c : Code} {Q : State → Prop}
variable {w : Wd} {mi sh0 sl0 pc : Nat} {lc : Lc} {st : List Value} {sh : List (Nat × Nat)} {gi : Nat → Nat → Int32} {gl : Nat → Nat → Int64} {gr : Nat → Nat → Option Nat} {sl : Nat} {H : Heap} {locs : List Loc} {ls : Array Slot} {o : Out}
theorem QQ.of (B : Bx p l R s m meth c w mi sh0 sl0) (I : In w s sh0 sl0 mi lc (sh, gi, gl, gr) sl H locs ls) (hz : H.size = w.base + (sh.length - 1)) {o : Out} (ho : o.2 = ((sh, gi, gl, gr), sl)) (hk : thk o) {t : State} (hrun : t.status = .running) (hend : Ended t below (oc w o.1)) (hW : s.WarmedH t.vm) (hH : t.heap = H) {L1 : List Loc} (hL : ∀ q ∈ L1, w.base ≤ q.base)
    (hs : s.sameButNew ({ t with vm := s.vm } : State) L1 (sh.length - sh0) (sl - sl0)) : QQ w below s sh0 sl0 o t := by
  obtain ⟨o1, o2⟩ := o
  have ho' : o2 = ((sh, gi, gl, gr), sl) := ho
  subst ho'
  refine ⟨hrun, hend, hW, by rw [hH]; exact I.1, by rw [hH]; exact hz, fun a ha => ?_, I.2.2.2.1, I.2.2.2.2.1, I.2.2.2.2.2.1, I.2.2.2.2.2.2, hk, L1, hL, hs⟩
  rw [hH]
  exact I.2.1.2.1 a (Nat.lt_of_lt_of_le ha B.2.2.1.2.2.2.2.1) (Nat.not_le.mpr ha)
theorem so_fin (B : Bx p l R s m meth c w mi sh0 sl0) (I : In w s sh0 sl0 mi lc (sh, gi, gl, gr) sl H locs ls) {v : Option Value} {g : JFrame}
    (h : W p l e R s m args below meth c H locs (sh.length - sh0) (sl - sl0) (MQ below (fun _ _ o t => o = .returned (v.map (cv w.b w.base)) ∧ t.heap = H ∧ s.WarmedH t.vm) args s (sh.length - sh0) (sl - sl0) (fun q => w.base ≤ q)) g) :
    W p l e R s m args below meth c H locs (sh.length - sh0) (sl - sl0) (QQ w below s sh0 sl0 (.inl v, (sh, gi, gl, gr), sl)) g := by
  refine W.sized fun hsz => ?_
  have hz := In.size B I hsz
  refine W.mono (fun t ht => ?_) h
  obtain ⟨o, h1, h2, ⟨rfl, h4, h5⟩, L1, h6, h7⟩ := ht
  obtain ⟨-, -, h8⟩ := h6
  exact QQ.of (o := (.inl v, (sh, gi, gl, gr), sl)) B I hz rfl trivial h1 h2 h5 h4 h7 h8
theorem so_iret (B : Bx p l R s m meth c w mi sh0 sl0) (hdg : decode (mB mi) pc = .ok (.ireturn, 1)) (h : s_iret mi st sh gi gl gr sl = some o) (I : In w s sh0 sl0 mi lc (sh, gi, gl, gr) sl H locs ls) : W p l e R s m args below meth c H locs (sh.length - sh0) (sl - sl0) (QQ w below s sh0 sl0 o) (F0 m pc ls (st.map (cv w.b w.base))) := by
  have B' := B
  obtain ⟨hx, -, C, M, -, -, -⟩ := B
  unfold s_iret at h
  split at h
  · rename_i v
    split at h
    · rename_i hc
      cases h
      refine so_fin B' I ?_
      rcases hc with hc | ⟨hc, hB⟩
      · have hr : meth.sig.returnType = some .int := by
          rw [M.2.2.2.1]
          revert hc
          unfold mZ
          cases mR mi with
          | none => intro hc; cases hc
          | some t => cases t <;> intro hc <;> first | rfl | (simp at hc)
        exact W.iret hx M.2.1 hr (fun t h1 h2 => ⟨rfl, h1, h2⟩) I.2.1.2.2 hdg M.2.2.2.2.1
      · have hr : meth.sig.returnType = some .boolean := by
          rw [M.2.2.2.1]
          revert hc
          unfold mZ
          cases mR mi with
          | none => intro hc; cases hc
          | some t => cases t <;> intro hc <;> first | rfl | (simp at hc)
        exact W.zret hx M.2.1 hr (isB_nar hB) (fun t h1 h2 => ⟨rfl, h1, h2⟩) I.2.1.2.2 hdg M.2.2.2.2.1
    · cases h
  · cases h
theorem so_vret (B : Bx p l R s m meth c w mi sh0 sl0) (hdg : decode (mB mi) pc = .ok (.return_, 1)) (h : s_vret mi st sh gi gl gr sl = some o) (I : In w s sh0 sl0 mi lc (sh, gi, gl, gr) sl H locs ls) : W p l e R s m args below meth c H locs (sh.length - sh0) (sl - sl0) (QQ w below s sh0 sl0 o) (F0 m pc ls (st.map (cv w.b w.base))) := by
  have B' := B
  obtain ⟨hx, -, C, M, -, -, -⟩ := B
  unfold s_vret at h
  split at h
  · split at h
    · rename_i hc
      cases h
      refine so_fin B' I ?_
      have hr : meth.sig.returnType = none := by
        rw [M.2.2.2.1]
        revert hc
        unfold mZ
        cases mR mi with
        | none => intro hc; rfl
        | some t => cases t <;> intro hc <;> simp at hc
      exact W.vret hx M.2.1 hr (fun t h1 h2 => ⟨rfl, h1, h2⟩) I.2.1.2.2 hdg M.2.2.2.2.1
    · cases h
  · cases h
theorem so_aret (B : Bx p l R s m meth c w mi sh0 sl0) (hdg : decode (mB mi) pc = .ok (.areturn, 1)) (h : s_aret mi st sh gi gl gr sl = some o) (I : In w s sh0 sl0 mi lc (sh, gi, gl, gr) sl H locs ls) : W p l e R s m args below meth c H locs (sh.length - sh0) (sl - sl0) (QQ w below s sh0 sl0 o) (F0 m pc ls (st.map (cv w.b w.base))) := by
  have B' := B
  obtain ⟨hx, -, C, M, -, -, -⟩ := B
  unfold s_aret at h
  split at h
  · rename_i q
    split at h
    · rename_i hc
      cases h
      refine so_fin B' I ?_
      have hr : ∃ rt, meth.sig.returnType = some rt ∧ ((∃ n, rt = .object n) ∨ ∃ t, rt = .array t) := by
        rw [M.2.2.2.1]
        revert hc
        unfold mZ
        cases mR mi with
        | none => intro hc; cases hc
        | some t => cases t <;> intro hc <;> first | exact ⟨_, rfl, Or.inl ⟨_, rfl⟩⟩ | exact ⟨_, rfl, Or.inr ⟨_, rfl⟩⟩ | (simp at hc)
      obtain ⟨rt, hr, hrt⟩ := hr
      exact W.aret hx M.2.1 hr hrt (Or.inr ⟨_, rfl⟩) (fun t h1 h2 => ⟨rfl, h1, h2⟩) I.2.1.2.2 hdg M.2.2.2.2.1
    · cases h
  · cases h
end
/-- the words of one exception's name, beside those of Throwable and of the constructors -/
def xAt (X : String) : List Cond := [.instantiable X 6, .selects X Bundle.tFill0 Bundle.tFill0, .selects X Bundle.tFill Bundle.tFill,
   .lays X Bundle.tN "cause" "Ljava/lang/Throwable;", .lays X Bundle.tN "stackTrace" Bundle.steD, .lays X Bundle.tN "suppressedExceptions" Bundle.listD, .lays X Bundle.tN "detailMessage" "Ljava/lang/String;",
   .fieldLink Bundle.tN 198 Bundle.tN "backtrace" "Ljava/lang/Object;", .lays Bundle.tN Bundle.tN "backtrace" "Ljava/lang/Object;", .lays X Bundle.tN "backtrace" "Ljava/lang/Object;"]
section
variable {p : Program} {l : Launch} {e : Env} {R : Room} {s : State} {m₀ : MethodId} {args : Array Value} {below : List Frame} {meth : Method} {c : Code} {U0 : State} {locs : List Loc} {cells slots : Nat}
set_option maxHeartbeats 1000000 in
theorem thr_ctor (X : Stand p l e R s m₀ args below meth c U0 locs cells slots) (hexec : p.tables.exec = Jvm.exec) (htr : e.platform.stackTraces = false) {own cls : String} {bytes : ByteArray} {ic n : Nat}
    (hown : s.vm.findClass own = some m₀.cls) (hcls : Bundle.fit cls = true) (hT : ∀ a ∈ Bundle.throwableAtoms, a.before args s = true) (hS : ∀ a ∈ Bundle.throwableSAtoms, a.before args s = true) (hX : ∀ a ∈ xAt cls, a.before args s = true)
    (hU : (Cond.isRef (.static Bundle.tN "UNASSIGNED_STACK" Bundle.steD)).before args s = true) (hN : (Cond.isRef (.static Bundle.tN "SUPPRESSED_SENTINEL" Bundle.listD)).before args s = true)
    (hml : (Cond.methodLink own ic (Bundle.initS cls)).before args s = true) (him : (Cond.instanceMethod (Bundle.initS cls)).before args s = true) (hco : (Cond.code (Bundle.initS cls) bytes 2 none).before args s = true)
    (hch : ∀ top : MethodId, s.methodNamed? (Bundle.initS Bundle.tN) = some top → ∃ (P1 : PassC) (Ps : List PassC), Ps.length = n ∧ P1.LinksS e.platform s ∧ (∀ P, P ∈ Ps → P.LinksS e.platform s) ∧ s.methodNamed? (Bundle.initS cls) = some P1.m ∧ P1.sup = firstOf top (Ps.map (·.toPassT)) ∧ PassesOn top (Ps.map (·.toPassT)))
    (hlocs : ∀ x ∈ locs, ∀ cell, s.heap[x.base]? = some cell → cell.vm.isStatics = false)
    {a : Addr} {cX : ClassId} {kX : Class} (hfX : s.vm.findClass cls = some cX) (hkX : s.vm.classes[cX]? = some kX) (hcell : U0.heap[a]? = some (freshCell cX kX)) (hnew : s.heap.size ≤ a)
    {msg : Value} (hmsg : msg.isRef = true) {g : JFrame} (hg : g.method = m₀) (hsize : g.locals.size = c.maxLocals) (hlocked : g.locked = none) (hentered : g.entered = []) {rest : List Value} (hstack : g.stack = msg :: .ref a :: .ref a :: rest)
    (hd6 : decode c.code g.pc = .ok (.invokespecial ic, 3)) (hd9 : decode c.code (g.pc + 3) = .ok (.athrow, 1)) (hout : ∀ x ∈ c.exceptionTable.toList, covers x (g.pc + 3) = false)
    (hRf : n + 3 < R.frames) (hRl : 2 * g.monitorRoom + ((Value.ref a :: rest).map fun v => v.category).sum + (13 * (n + 1) + 42) ≤ R.locals) (hlocks : meth.locks = false) :
    ∃ (U : State) (ce : Cell), Steps p.tables e below (U0.setTop g) U ∧ U.status = .running ∧ Ended U below (.threw a) ∧ s.WarmedH U.vm ∧ s.sameButNew ({ U with vm := s.vm } : State) locs cells slots ∧
      U.heap[a]? = some ce ∧ ce.vm = .none ∧ ce.cls = cX ∧ U.heap.size = U0.heap.size ∧ ∀ q, q ≠ a → U.heap[q]? = U0.heap[q]? := by
  have howns : e.platform.frameOwnsMonitors = true := by rw [X.admits.platform]
  have hfin : e.platform.finalization = false := by rw [X.admits.platform]
  have hpl : e.platform.magicAccessors = ({} : Platform).magicAccessors := by rw [X.admits.platform]
  have a' : ∀ x, x ∈ xAt cls → x.holds args s none s [] = true := fun x hx => hX x hx
  obtain ⟨T, Z0, L, -, Y⟩ := ThrowableC.of_atoms (args := args) howns hfin hpl hT
  obtain ⟨Z, M, LZ, LM, hnZ⟩ := Init0T.ofS_atoms (args := args) hpl L Y hS
  obtain ⟨P1, Ps, hlen, L1, hL, hP1m, hlink1, hlink⟩ := hch _ hnZ
  have hfound : s.vm.findClass cls = some P1.m.cls := findClass_of_methodNamed hP1m
  cases Option.some.inj (hfX.symm.trans hfound)
  obtain ⟨c1, kX', hc1, hk, hord, -, -, hn6⟩ := Cond.instantiable_spec (a' (.instantiable cls 6) (by simp [xAt]))
  cases Option.some.inj (hc1.symm.trans hfound)
  cases Option.some.inj (hkX.symm.trans hk)
  have hsel0 : selectMethod e.platform s.vm P1.m.cls T.fill0 = .method T.fill0 := by
    obtain ⟨c2, r2, m2, q1, q2, q3, q4, -⟩ := Cond.selects_spec (a' (.selects cls Bundle.tFill0 Bundle.tFill0) (by simp [xAt]))
    cases Option.some.inj (q1.symm.trans hfound)
    cases Option.some.inj (q2.symm.trans (State.methodFound?_of_named Y.fill0 (by decide)))
    cases Option.some.inj (q3.symm.trans Y.fill0)
    rw [Launch.admits_selectMethod X.admits]; exact q4
  have hselF : selectMethod e.platform s.vm P1.m.cls T.fill = .method T.fill := by
    obtain ⟨c2, r2, m2, q1, q2, q3, q4, -⟩ := Cond.selects_spec (a' (.selects cls Bundle.tFill Bundle.tFill) (by simp [xAt]))
    cases Option.some.inj (q1.symm.trans hfound)
    cases Option.some.inj (q2.symm.trans (State.methodFound?_of_named Y.fill (by decide)))
    cases Option.some.inj (q3.symm.trans Y.fill)
    rw [Launch.admits_selectMethod X.admits]; exact q4
  obtain ⟨cellS0, hcS0, hiss⟩ := Y.statics
  obtain ⟨u0, hu0⟩ := Cond.staticRefV Y.unassigned L.unassignedStatic L.statics hcS0 hiss hU
  obtain ⟨sen, hsen⟩ := Cond.staticRefV Y.sentinel L.sentinelStatic L.statics hcS0 hiss hN
  obtain ⟨ci198, i198, fB, hk198, hg198, ha198, hsB, -, hnB, htB, hffB⟩ := Cond.ownField (t := .object "java/lang/Object") Y.found L.cls (by decide +kernel) (a' (.fieldLink Bundle.tN 198 Bundle.tN "backtrace" "Ljava/lang/Object;") (by simp [xAt])) (a' (.lays Bundle.tN Bundle.tN "backtrace" "Ljava/lang/Object;") (by simp [xAt])) e.platform hpl
  obtain ⟨cellS, hcS', heS, -, hkeep⟩ := X.same.2.2.2.2.2 T.aS cellS0 hcS0
  have hcellS : U0.heap[T.aS]? = some cellS := hcS'
  have hout' : ∀ i, (⟨T.aS, i⟩ : Loc) ∉ locs := fun i hmem => by
    have := hlocs _ hmem cellS0 hcS0
    rw [hiss] at this; cases this
  have hknownS : cellS.vm ≠ .unknown := by
    rw [heS]; intro hu
    rw [show cellS0.vm = .unknown from hu] at hiss
    cases hiss
  have hneS : T.aS ≠ a := Nat.ne_of_lt (Nat.lt_of_lt_of_le (Array.getElem?_eq_some_iff.mp hcS0).1 hnew)
  obtain ⟨iM, hffM⟩ := Y.msg
  obtain ⟨tyC, dC, hdC, hdnC⟩ := Cond.laysAt hfound hk Y.cause (a' (.lays cls Bundle.tN "cause" "Ljava/lang/Throwable;") (by simp [xAt]))
  obtain ⟨tyS, dS, hdS, hdnS⟩ := Cond.laysAt hfound hk Y.stack (a' (.lays cls Bundle.tN "stackTrace" Bundle.steD) (by simp [xAt]))
  obtain ⟨tyP, dP, hdP, hdnP⟩ := Cond.laysAt hfound hk Y.supp (a' (.lays cls Bundle.tN "suppressedExceptions" Bundle.listD) (by simp [xAt]))
  obtain ⟨tyM, dM, hdM, hdnM⟩ := Cond.laysAt hfound hk hffM (a' (.lays cls Bundle.tN "detailMessage" "Ljava/lang/String;") (by simp [xAt]))
  obtain ⟨tyB, dB, hdB, hdnB⟩ := Cond.laysAt hfound hk hffB (a' (.lays cls Bundle.tN "backtrace" "Ljava/lang/Object;") (by simp [xAt]))
  have bC := Cond.laysApart hdB hdC hdnB hdnC (by rw [hnB, Y.causeName]; decide)
  have bS := Cond.laysApart hdB hdS hdnB hdnS (by rw [hnB, Y.stackName]; decide)
  have bP := Cond.laysApart hdB hdP hdnB hdnP (by rw [hnB, Y.suppName]; decide)
  have hskip : SkipFacts T e.platform s (fun u => u) u0 ((preparedCellV T.toThrowableT (freshCell P1.m.cls kX) a u0 sen).withEntry U0.cur) :=
    ⟨{ ci198 := ci198, i198 := i198, fBack := fB }, ⟨hk198, hg198, ha198, hsB⟩, by
      have := fresh_default (c := P1.m.cls) tyB
      rw [htB] at this
      simpa [preparedCellV, Cell.setSlot, Cell.withEntry, Array.getElem?_setIfInBounds, bC, bS, bP, bC.symm, bS.symm, bP.symm, defaultValue] using this, fun _ _ => rfl⟩
  obtain ⟨tm, methC, cdC, kC, vm₁, hnC, -, -, -, -, -, -, -, hW₁, st1⟩ := Steps.initColdS (tb := p.tables) (e := e) (below := below) (s := s) (U := U0) X.here hexec X.warmed hpl hown (t := Bundle.initS cls) rfl rfl (Bundle.fit_spec hcls).2
    hml him (bytes := bytes) (maxL := 2) hco (f := g) hg (a := a) (msg := msg) (rest := .ref a :: rest) hstack hd6
  cases Option.some.inj (hnC.symm.trans hP1m)
  have X₁ := X.noted hW₁
  obtain ⟨vm₂, X₂, st2⟩ := X₁.ctorMessageOffV hexec (g := { g with stack := .ref a :: rest }) hg hsize T L Z LZ M LM (P1 :: Ps)
    (fun P hP => by rcases List.mem_cons.mp hP with rfl | hP; exact L1; exact hL P hP) ⟨hlink1, hlink⟩ (u0 := u0) (sen := sen) (self := a) hmsg (cell := freshCell P1.m.cls kX) (cellS := cellS)
    hcell (fun _ => by simp) (by simp) rfl rfl hsel0 hselF hcellS hneS hknownS (by rw [hkeep _ (hout' _)]; exact hu0) (by rw [hkeep _ (hout' _)]; exact hsen)
    (Takes.of_laid hk hord tyC (by rw [Y.causeType]; rfl)) (Takes.of_laid hk hord tyS (by rw [Y.stackType]; exact fits_refV_array _ u0)) (Takes.of_laid hk hord tyP (by rw [Y.suppType]; exact fits_refV_object _ sen))
    (Takes.of_laid hk hord tyM (by rw [Y.msgType]; exact fits_refV_object _ ⟨msg, hmsg⟩)) Y.objLocals hskip htr [] hd6
    (by simp only [List.length_cons, hlen]; omega) (by simp only [List.length_cons, hlen]; exact hRl)
  obtain ⟨hwalk, hrun, hended, hWU, hsame⟩ := X₂.athrowLeaves hexec (g := { g with stack := .ref a :: rest, pc := g.pc + 3 }) hg hlocked hentered hout (a := a) (rest := rest) rfl hd9 hlocks
  have hlt : a < ((U0.setVm vm₁).setVm vm₂).heap.size := (Array.getElem?_eq_some_iff.mp hcell).1
  have hUc := heapAt_setCell_self (s := (U0.setVm vm₁).setVm vm₂) (plainBareV T.toThrowableT (freshCell P1.m.cls kX) a u0 sen msg) hlt
  refine ⟨_, _, st1 _ (fun acts => ?_), hrun, hended, hWU, hsame.weaken (fun y hy hlt' => ?_) (Nat.le_refl _) (Nat.le_refl _), hUc, rfl, rfl, size_setCell _ _ _, fun q hq => ?_⟩
  · rw [doInvoke_state]
    exact st2 _ hwalk
  · rcases List.mem_append.mp hy with h1 | h1
    · exact h1
    · exfalso
      have hb : y.base = a := by
        simp only [List.mem_cons, List.not_mem_nil, or_false] at h1
        rcases h1 with rfl | rfl | rfl | rfl | rfl <;> rfl
      rw [hb] at hlt'
      exact Nat.not_lt.mpr hnew hlt'
  · exact State.heap_setCell_other hq.symm
end
/-- how an entry of the table stands to what is thrown -/
def ctP (pl : Platform) (s₀ : State) (d thr : ClassId) (q : ExceptionTableEntry) (yes : Bool) : Prop := q.catchType ≠ 0 ∧ ∃ x, s₀.vm.ClassLinks pl d q.catchType x ∧ s₀.vm.assignable thr x = yes
def ctF (pl : Platform) (s₀ : State) (d thr : ClassId) (pc pc' : Nat) : List ExceptionTableEntry → Prop
  | [] => False
  | q :: t => (covers q pc = false ∧ ctF pl s₀ d thr pc pc' t) ∨ (covers q pc = true ∧ ctP pl s₀ d thr q true ∧ q.handlerPc = pc') ∨ (covers q pc = true ∧ ctP pl s₀ d thr q false ∧ ctF pl s₀ d thr pc pc' t)
theorem ct_one {Q : Handler → Pre} {E : CtlPost} {e : Env} {d : Bool} {acts : List Action} {s : State} {f : JFrame} {a : Addr} {x : ExceptionTableEntry} {t : List ExceptionTableEntry} {cT : ClassId} {cell : Cell} {yes : Bool} (hx : covers x f.pc = true) (h0 : x.catchType ≠ 0)
    (hl : s.vm.ClassLinks e.platform f.method.cls x.catchType cT) (hcell : s.heap[a]? = some cell) (hobj : ∀ k, cell.vm ≠ .statics k) (hk : ∃ k, s.vm.classes[cell.cls]? = some k) (hc : ∃ k, s.vm.classes[cT]? = some k) (hfit : s.vm.assignable cell.cls cT = yes) :
    wp (findHandler.go f a (x :: t)) Q E e d acts s ↔ (if yes = true then Q (.found x.handlerPc) d acts (s.setVm (s.vm.noted f.method.cls x.catchType (.cls cT))) else wp (findHandler.go f a t) Q E e d acts (s.setVm (s.vm.noted f.method.cls x.catchType (.cls cT)))) := by
  simp only [covers] at hx
  obtain ⟨ha, ht⟩ := (resolveClass_links e.toSetting hl).op (op := VmOp.resolveClass f.method.cls x.catchType) rfl
  have hal : s.vm.Alike (s.vm.noted f.method.cls x.catchType (.cls cT)) := (Vm.Alike.refl s.vm).noted _ _ _
  obtain ⟨k1, hk1⟩ := hk
  obtain ⟨k2, hk2⟩ := hc
  obtain ⟨k1', hk1', -⟩ := hal.2.2 _ _ hk1
  obtain ⟨k2', hk2', -⟩ := hal.2.2 _ _ hk2
  have hfit' : (s.vm.noted f.method.cls x.catchType (.cls cT)).assignable cell.cls cT = yes := by rw [hal.assignable]; exact hfit
  cases yes <;> simp [findHandler.go, hx, h0, ha, ht, hcell, hobj, hk1', hk2', hfit', VmOp.dirties, VmOp.acts]
theorem ct_find {e : Env} {s₀ : State} {f : JFrame} {a : Addr} {cell : Cell} {pc' : Nat} (hobj : ∀ k, cell.vm ≠ .statics k) (hk0 : ∃ k, s₀.vm.classes[cell.cls]? = some k) : ∀ (tb : List ExceptionTableEntry) (S : State), s₀.WarmedH S.vm → S.heap[a]? = some cell → ctF e.platform s₀ f.method.cls cell.cls f.pc pc' tb →
    ∃ vm', s₀.WarmedH vm' ∧ ∀ (Q : Handler → Pre) (E : CtlPost) (d : Bool) (acts : List Action), wp (findHandler.go f a tb) Q E e d acts S ↔ Q (.found pc') d acts (S.setVm vm') := by
  obtain ⟨k0, hk0⟩ := hk0
  intro tb
  induction tb with
  | nil => intro S _ _ h; exact h.elim
  | cons x t ih =>
    intro S hW hcell h
    obtain ⟨k0', hk0', -⟩ := hW.alike.2.2 _ _ hk0
    rcases h with ⟨hx, h⟩ | ⟨hx, ⟨h0, cT, hl, hfit⟩, rfl⟩ | ⟨hx, ⟨h0, cT, hl, hfit⟩, h⟩
    · obtain ⟨vm', hW', hq⟩ := ih S hW hcell h
      exact ⟨vm', hW', fun Q E d acts => by rw [Jvm.W.findHandler_go_skip hx]; exact hq Q E d acts⟩
    · obtain ⟨dk, _, _, kt, hd, _, _, _, _, hkt, _, hopen⟩ := hl.here
      obtain ⟨kt', hkt', -⟩ := hW.alike.2.2 _ _ hkt
      exact ⟨_, hW.noted hd hopen (State.rightAt_cls hl), fun Q E d acts => by
        rw [ct_one (yes := true) hx h0 (hW.classLinks hl) hcell hobj ⟨k0', hk0'⟩ ⟨kt', hkt'⟩ (by rw [hW.alike.assignable]; exact hfit), if_pos rfl]⟩
    · obtain ⟨dk, _, _, kt, hd, _, _, _, _, hkt, _, hopen⟩ := hl.here
      obtain ⟨kt', hkt', -⟩ := hW.alike.2.2 _ _ hkt
      obtain ⟨vm', hW', hq⟩ := ih (S.setVm (S.vm.noted f.method.cls x.catchType (.cls cT))) (hW.noted hd hopen (State.rightAt_cls hl)) hcell h
      exact ⟨vm', hW', fun Q E d acts => by
        rw [ct_one (yes := false) hx h0 (hW.classLinks hl) hcell hobj ⟨k0', hk0'⟩ ⟨kt', hkt'⟩ (by rw [hW.alike.assignable]; exact hfit), if_neg (by decide)]
        exact hq Q E d acts⟩
section
variable {p : Program} {l : Launch} {e : Env} {R : Room} {s : State} {m : MethodId} {args : Array Value} {below : List Frame} {meth : Method} {c : Code} {T : State} {locs : List Loc} {cells slots : Nat}
theorem ct_caught (X : Stand p l e R s m args below meth c T locs cells slots) (a : Addr) {g : JFrame} (hg : g.method = m) {cell : Cell} {pc' : Nat} (hcell : T.heap[a]? = some cell) (hobj : cell.vm = .none) (hk0 : ∃ k, s.vm.classes[cell.cls]? = some k)
    (hf : ctF e.platform s m.cls cell.cls g.pc pc' c.exceptionTable.toList) :
    ∃ vm', Stand p l e R s m args below meth c (T.setVm vm') locs cells slots ∧ ∀ target, Steps p.tables e below ((T.setVm vm').setTop { g with pc := pc', stack := [.ref a] }) target → Steps p.tables e below ((T.setTop g).pushFrame (.throwing a)) target := by
  subst hg
  obtain ⟨vm', hW', hq⟩ := ct_find (e := e) (s₀ := s) (f := g) (a := a) (cell := cell) (pc' := pc') (fun k => by rw [hobj]; simp) hk0 c.exceptionTable.toList ((T.setTop g).pushFrame (.throwing a)) X.warmed hcell hf
  have hF : ∀ (Q : Handler → Pre) (E : CtlPost) (d : Bool) (acts : List Action), wp (findHandler g a) Q E e d acts ((T.setTop g).pushFrame (.throwing a)) ↔ Q (.found pc') d acts (((T.setTop g).pushFrame (.throwing a)).setVm vm') := fun Q E d acts => by
    rw [Jvm.W.findHandler_eq (s := (T.setTop g).pushFrame (.throwing a)) (f := g) (meth := meth) (code := c) X.method' X.code]
    exact hq Q E d acts
  refine ⟨vm', X.noted hW', fun target hrest => ?_⟩
  obtain ⟨hgo, hw⟩ := X.here.throwing a
  refine Steps.head hgo hw ?_
  have hst : (stepThrowing e ((T.setTop g).pushFrame (.throwing a)) a (.java g :: T.frames.tail)).1 = (((T.setTop g).pushFrame (.throwing a)).setVm vm').setFrames (.java { g with pc := pc', stack := [.ref a] } :: T.frames.tail) := by
    simp only [stepThrowing, searchFrame, vmDo]
    generalize hr : Sem.go _ e false [] ((T.setTop g).pushFrame (.throwing a)) = res
    obtain ⟨as, rfl, ha⟩ := Sem.eq_ok_of hr (a := Handler.found pc') (s' := ((T.setTop g).pushFrame (.throwing a)).setVm vm') (acts' := []) (by simp [hF _ _ _ _])
    rfl
  rw [stepThread_throwing (frames_entered X.here.top _), hst]
  obtain ⟨g₀, hg⟩ := Option.isSome_iff_exists.mp X.here.top
  obtain ⟨r, hr⟩ := State.topJava?_eq_some.mp hg
  have hr' : (T.setVm vm').frames = .java g₀ :: r := hr
  rw [State.setTop_of_frames _ hr'] at hrest
  rw [State.pushFrame, State.setTop_of_frames _ hr, hr]
  have e1 : ∀ (u : State) (F G : List Frame), ((u.setFrames F).setVm vm').setFrames G = (u.setVm vm').setFrames G := by
    intro u F G
    have h1 : (u.setFrames F).setVm vm' = (u.setVm vm').setFrames F := rfl
    rw [h1, State.setFrames_setFrames]
  rw [State.setFrames_setFrames, e1]
  exact hrest
end
