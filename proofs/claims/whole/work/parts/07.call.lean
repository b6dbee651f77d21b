/-! throws, calls, handlers -/
def exI (E : Nat) : Nat := if E = 2 then 13 else 7
def exB (E : Nat) : ByteArray := if E = 2 then ⟨#[0x2a, 0x2b, 0xb7, 0x00, 0x0d, 0xb1]⟩ else Bundle.six
def noSt (z : Cond) : Bool := match z with
  | .laysStatic .. => false
  | _ => true
def rtN : String := "java/lang/RuntimeException"
def excN : String := "java/lang/Exception"
def exWs (E : Nat) : List Cond := .initialized (exN E) :: (xAt (exN E) ++ (Bundle.passSAtoms (exN E) rtN (exI E) (exB E) ++ (Bundle.chainSAtoms rtN [excN] ++ (Bundle.throwableSAtoms ++ Bundle.throwableAtoms.filter noSt))))
theorem thr_st : ∀ a ∈ Bundle.throwableAtoms, noSt a = true ∨ a = .laysStatic Bundle.tN "UNASSIGNED_STACK" Bundle.steD ∨ a = .laysStatic Bundle.tN "SUPPRESSED_SENTINEL" Bundle.listD := by decide +kernel
theorem ex_fit : ∀ E, E < 3 → Bundle.fit (exN E) = true := by decide +kernel
theorem ex_d0 : ∀ E, E < 3 → decode (exB E) 0 = .ok (.aload_n 0, 1) := by decide +kernel
theorem ex_d1 : ∀ E, E < 3 → decode (exB E) 1 = .ok (.aload_n 1, 1) := by decide +kernel
theorem ex_d2 : ∀ E, E < 3 → decode (exB E) 2 = .ok (.invokespecial (exI E), 3) := by decide +kernel
theorem ex_d5 : ∀ E, E < 3 → decode (exB E) 5 = .ok (.return_, 1) := by decide +kernel
theorem ex_kCl : ∀ E, E < 3 → kCl[10 + E]? = some (exN E, kFE, 0) := by
  intro E hE
  obtain rfl | rfl | rfl : E = 0 ∨ E = 1 ∨ E = 2 := by omega
  · rfl
  · rfl
  · rfl
theorem e900 (E : Nat) : 900 + E - 900 = E := Nat.add_sub_cancel_left 900 E
theorem e890 (E : Nat) : 900 + E - 890 = 10 + E := by omega
def ldI' (d i : Nat) : Instr := if d = 0 then .ldc i else .ldc_w i
def okTd (d mi pc ix a b k p : Nat) : Bool := decide (900 ≤ a) && decide (a < 903) && wAt p (.classLink (mY mi).cls ix (exN (a - 900))) && decide (hX mi = []) && decide (6 ≤ nF mi) && decide (91 ≤ nW mi) && decide (decode (mB mi) (pc + 3) = .ok (.dup, 1)) && decide (decode (mB mi) (pc + 6 + d + 3) = .ok (.athrow, 1)) &&
  (match lw_tbl[b]? with
    | some (.stringRef o i _) => decide (o = (mY mi).cls) && decide (decode (mB mi) (pc + 4) = .ok (ldI' d i, 2 + d))
    | _ => false) &&
  (match lw_tbl[k]? with
    | some (.methodLink o i z) => decide (o = (mY mi).cls) && decide (z = Bundle.initS (exN (a - 900))) && decide (decode (mB mi) (pc + 6 + d) = .ok (.invokespecial i, 3))
    | _ => false)
def okT (mi pc ix a b k p : Nat) : Bool := okTd 0 mi pc ix a b k p || okTd 1 mi pc ix a b k p
theorem ldc_any {p : Program} {l : Launch} {e : Env} {R : Room} {s : State} {m : MethodId} {args : Array Value} {below : List Frame} {meth : Method} {c : Code} {T : State} {locs : List Loc} {cells slots : Nat} (X : Stand p l e R s m args below meth c T locs cells slots) (hexec : p.tables.exec = Jvm.exec) {own text : String} {index d : Nat} {a : Addr} (hd : d = 0 ∨ d = 1) (hown : s.vm.findClass own = some m.cls)
    (hconst : (Cond.stringRef own index text).before args s = true) (hev : (Term.string own index).eval args s none [] s = some (.ref a)) {g : JFrame} (hg : g.method = m) (hdg : decode c.code g.pc = .ok (ldI' d index, 2 + d)) :
    ∀ target, Steps p.tables e below (T.setTop { g with pc := g.pc + 2 + d, stack := .ref a :: g.stack }) target → Steps p.tables e below (T.setTop g) target := by
  rcases hd with rfl | rfl
  · exact X.ldcString hexec hown hconst hev hg hdg
  · obtain ⟨k, cf, i, a', hk, hcf, hcp, -, hr, hev'⟩ := Cond.stringRef_spec hown hconst
    cases hev.symm.trans hev'
    obtain ⟨k', hk', he⟩ := X.warmed.alike.2.2 _ _ hk
    have hr' : k'.resolved[index]? = some (some (.string a)) := by
      rcases X.warmed.entry hk hk' index with h | ⟨h, -⟩
      · rw [h]; exact hr
      · rw [hr] at h; cases h
    have hdg' : decode c.code g.pc = .ok (.ldc_w index, 3) := hdg
    intro target hrest
    subst hg
    jvm_step X.here [hexec, hdg', ldc_w.wp_string (e := e) (s := T) (f := g) X.here.top hk' (by rw [he]; exact hcf) hcp hr']
    exact hrest
section
variable {p : Program} {l : Launch} {e : Env} {R : Room} {s : State} {m : MethodId} {args : Array Value} {below : List Frame} {meth : Method} {c : Code} {Q : State → Prop}
variable {w : Wd} {mi sh0 sl0 pc : Nat} {lc : Lc} {st : List Value} {sh : List (Nat × Nat)} {gi : Nat → Nat → Int32} {gl : Nat → Nat → Int64} {gr : Nat → Nat → Option Nat} {sl : Nat} {H : Heap} {locs : List Loc} {ls : Array Slot} {o : Out}
theorem so_throwD {d ix a b k z : Nat} (hd01 : d = 0 ∨ d = 1) (hEx : ∀ E, E < 3 → ∀ v ∈ exWs E, v ∈ lw_tbl ∧ okw v = true) (B : Bx p l R s m meth c w mi sh0 sl0) (hdg : decode (mB mi) pc = .ok (.new ix, 3)) (ho : okTd d mi pc ix a b k z = true) (h : s_thr a st sh gi gl gr sl = some o) (I : In w s sh0 sl0 mi lc (sh, gi, gl, gr) sl H locs ls) :
    W p l e R s m args below meth c H locs (sh.length - sh0) (sl - sl0) (QQ w below s sh0 sl0 o) (F0 m pc ls (st.map (cv w.b w.base))) := by
  refine W.sized fun hsz => ?_
  have hz := In.size B I hsz
  have B' := B
  obtain ⟨hx, hl, C, M, Rm, -, -⟩ := B
  unfold okTd at ho
  simp only [Bool.and_eq_true, decide_eq_true_eq] at ho
  obtain ⟨⟨⟨⟨⟨⟨⟨⟨⟨o1, o2⟩, o3⟩, o4⟩, o5⟩, o6⟩, o7⟩, o8⟩, o9⟩, o10⟩ := ho
  obtain ⟨E, rfl⟩ : ∃ E, a = 900 + E := ⟨a - 900, by omega⟩
  have e900 := e900 E
  have e890 := e890 E
  unfold s_thr at h
  rw [e900] at o3 h
  rw [e890] at h
  simp only [e900] at o10
  split at o9
  · rename_i own1 is tx hstr
    simp only [Bool.and_eq_true, decide_eq_true_eq] at o9
    obtain ⟨rfl, o9⟩ := o9
    split at o10
    · rename_i own2 ic iy hml
      simp only [Bool.and_eq_true, decide_eq_true_eq] at o10
      obtain ⟨⟨rfl, rfl⟩, o10⟩ := o10
      split at h
      · cases h
      · rename_i hcs
        cases h
        have hE : E < 3 := by omega
        have wds : ∀ v ∈ exWs E, v.before args s = true := fun v hv => C.1 v (hEx E hE v hv).1 (hEx E hE v hv).2 args
        have r0 : 0 < sh.length := I.1.1
        have b1 : sh0 ≤ sh.length := I.2.2.2.1
        have b3 : sl0 ≤ sl := I.2.2.2.2.2.1
        have hcs1 : sh.length ≤ mxC := by omega
        have hcs2 : sl + 6 ≤ mxS := by omega
        have hcs3 : wsum st ≤ 8 := by omega
        intro T hT X
        have htr : e.platform.stackTraces = false := (show e.platform.stackTraces = l.stackTraces by rw [X.admits.platform]).trans hl
        have hpl : e.platform.magicAccessors = ({} : Platform).magicAccessors := by rw [X.admits.platform]
        obtain ⟨vm₁, cX, kX, hfX, hkX, -, -, X₁, st1⟩ := X.newCold hx (own := (mY mi).cls) (C := exN E) (index := ix) (n := 6) M.1 (C.wd o3 rfl args) (wds _ (by simp [exWs, xAt])) (wds _ (by simp [exWs]))
          (g := F0 m pc ls (st.map (cv w.b w.base))) rfl (by rw [M.2.1]; exact hdg) (by have := Rm.2.2.1; omega) (by have := Rm.2.2.2; omega)
        generalize hT1 : (T.setVm vm₁).pushCell { cls := cX, slots := kX.instanceTypes.map defaultValue, vm := .none } = T1 at X₁ st1
        have hTs : T.heap.size = w.base + (sh.length - 1) := by rw [hT]; exact hz
        have hcell : T1.heap[T.heap.size]? = some (freshCell cX kX) := by rw [← hT1]; exact State.heap_pushCell_size _ _
        have hsz1 : T1.heap.size = T.heap.size + 1 := by rw [← hT1]; exact size_pushCell _ _
        have hold : ∀ q, q < T.heap.size → T1.heap[q]? = T.heap[q]? := fun q hq => by
          rw [← hT1]
          show ((T.setVm vm₁).heap.push _)[q]? = _
          rw [Array.getElem?_push, if_neg (by show ¬ q = T.heap.size; omega)]
          rfl
        have hcat : (Value.ref T.heap.size).category = 1 := rfl
        have hsum := cv_sum w.b w.base st
        have d3' : decode c.code (pc + 3) = .ok (.dup, 1) := by rw [M.2.1]; exact o7
        have d4' : decode c.code (pc + 4) = .ok (ldI' d is, 2 + d) := by rw [M.2.1]; exact o9
        have hsw : (Cond.stringRef (mY mi).cls is tx).before args s = true := C.1 _ (List.mem_of_getElem? hstr) rfl args
        obtain ⟨_, _, _, sa, -, -, -, -, -, hev⟩ := Cond.stringRef_spec M.1 hsw
        have htab : c.exceptionTable.toList = [] := by
          have h9 := M.2.2.2.2.2.2
          rw [o4] at h9
          exact List.map_eq_nil_iff.mp h9
        have hfr : 6 ≤ R.frames := Nat.le_trans o5 Rm.1
        have hlo : 91 ≤ R.locals := Nat.le_trans o6 Rm.2.1
        obtain ⟨U, ce, hsteps, hrun, hend, hW, hsame, hce, hcv, hcc, hUs, hUo⟩ := thr_ctor X₁ hx htr (own := (mY mi).cls) (cls := exN E) (bytes := exB E) (ic := ic) (n := 2) M.1 (ex_fit E hE)
          (fun v hv => by
            rcases thr_st v hv with h9 | h9 | h9
            · exact wds v (by simp [exWs, hv, h9])
            · rw [h9]; exact C.2.2.2.2.2.2.1.lay
            · rw [h9]; exact C.2.2.2.2.2.2.2.1.lay)
          (fun v hv => wds v (by simp [exWs, hv])) (fun v hv => wds v (by simp [exWs, hv])) C.2.2.2.2.2.2.1.ref C.2.2.2.2.2.2.2.1.ref
          (C.1 _ (List.mem_of_getElem? hml) rfl args) (wds _ (by simp [exWs, Bundle.passSAtoms])) (wds _ (by simp [exWs, Bundle.passSAtoms]))
          (fun top htop => by
            obtain ⟨P, L, hm, hs⟩ := PassC.ofS_atoms (args := args) (s := s) hpl (X := exN E) (Y := rtN) (Bundle.fit_spec (ex_fit E hE)).1 (by decide) (ex_d0 E hE) (ex_d1 E hE) (ex_d2 E hE) (ex_d5 E hE) (fun v hv => wds v (by simp [exWs, hv]))
            obtain ⟨P', Ps, hlen, L', hL, hm', hsup, hpass⟩ := Bundle.chainS (args := args) hpl htop [excN] rtN (by decide) (by decide) (fun v hv => wds v (by simp [exWs, hv]))
            refine ⟨P, P' :: Ps, by simp [hlen], L, ?_, hm, Option.some.inj (hs.symm.trans hm'), hsup, hpass⟩
            intro q hq
            rcases List.mem_cons.mp hq with rfl | hq
            · exact L'
            · exact hL q hq)
          (fun q hq cell hc9 => by rw [C.2.2.2.2.2.1 _ cell (I.2.1.2.2 q hq) hc9]; rfl) hfX hkX hcell (by rw [hT]; exact I.2.1.1) (msg := .ref sa) rfl
          (g := { method := m, pc := pc + 6 + d, locals := ls, stack := .ref sa :: .ref T.heap.size :: .ref T.heap.size :: st.map (cv w.b w.base), locked := none }) rfl (by rw [M.2.2.1]; exact I.2.2.1.1) rfl rfl rfl
          (by rw [M.2.1]; exact o10) (by rw [M.2.1]; exact o8) (fun q hq => by rw [htab] at hq; cases hq) (by omega)
          (by show 2 * 0 + _ + _ ≤ _; simp only [List.map_cons, List.sum_cons, hcat]; omega) M.2.2.2.2.1
        have hlt : ∀ q, q < H.size → U.heap[q]? = H[q]? := fun q hq => by
          rw [← hT] at hq ⊢
          rw [hUo q (Nat.ne_of_lt hq), hold q hq]
        have I' : In w s sh0 sl0 mi lc (sh ++ [(10 + E, 0)], gi, gl, gr) (sl + 6) U.heap locs ls := by
          refine I.grew hz (by rw [hUs, hsz1, hT]) hlt (fun _ _ => rfl) (fun _ _ => rfl) (fun _ _ => rfl) ?_ hcs1 hcs2
          rw [cel_o (by omega)]
          refine ⟨_, ex_kCl E hE, ce, ?_, ?_, hcv, fun j hj => absurd hj (Nat.not_lt_zero j)⟩
          · show U.heap[w.base + (sh.length - 1)]? = some ce
            rw [← hTs]; exact hce
          · rw [hcc]
            exact Option.some.inj (hfX.symm.trans (C.2.1.1 (10 + E) _ (ex_kCl E hE)).2.1)
        refine ⟨U, ?_, ?_⟩
        · refine st1 _ ?_
          show Steps p.tables e below (T1.setTop { method := m, pc := pc + 3, locals := ls, stack := .ref T.heap.size :: st.map (cv w.b w.base), locked := none }) _
          jvm_step X₁.here [X₁.here.top, hx, d3', Value.category]
          exact ldc_any X₁ hx (own := (mY mi).cls) (text := tx) (index := is) (a := sa) hd01 M.1 hsw hev
            (g := { method := m, pc := pc + 4, locals := ls, stack := .ref T.heap.size :: .ref T.heap.size :: st.map (cv w.b w.base), locked := none }) rfl d4' _ hsteps
        · refine QQ.of B' I' (by rw [hUs, hsz1, hTs]; simp; omega) rfl ?_ hrun ?_ hW rfl (L1 := locs) I.2.1.2.2 ?_
          · refine ⟨?_, by show sh.length ≠ 0; omega, hE⟩
            show (sh ++ [(10 + E, 0)])[sh.length]? = some (10 + E, 0)
            simp
          · show Ended U below (.threw (ad w.b w.base sh.length))
            rw [ad_pos r0, ← hTs]
            exact hend
          · have e1 : (sh ++ [(10 + E, 0)]).length - sh0 = sh.length - sh0 + 1 := by simp; omega
            have e2 : sl + 6 - sl0 = sl - sl0 + 6 := by omega
            rw [e1, e2]
            exact hsame
    · cases o10
  · cases o9
theorem so_throw {ix a b k z : Nat} (hEx : ∀ E, E < 3 → ∀ v ∈ exWs E, v ∈ lw_tbl ∧ okw v = true) (B : Bx p l R s m meth c w mi sh0 sl0) (hdg : decode (mB mi) pc = .ok (.new ix, 3)) (ho : okT mi pc ix a b k z = true) (h : s_thr a st sh gi gl gr sl = some o) (I : In w s sh0 sl0 mi lc (sh, gi, gl, gr) sl H locs ls) :
    W p l e R s m args below meth c H locs (sh.length - sh0) (sl - sl0) (QQ w below s sh0 sl0 o) (F0 m pc ls (st.map (cv w.b w.base))) := by
  unfold okT at ho
  rw [Bool.or_eq_true] at ho
  rcases ho with ho | ho
  · exact so_throwD (Or.inl rfl) hEx B hdg ho h I
  · exact so_throwD (Or.inr rfl) hEx B hdg ho h I
end
theorem wsum_rev (l : List Value) : wsum l.reverse = wsum l := by
  unfold wsum
  rw [List.map_reverse, List.sum_reverse_nat]
theorem steps_wk {tb : Tables} {e : Env} {f : Frame} {below : List Frame} {s s' : State} (h : Steps tb e (f :: below) s s') : Steps tb e below s s' := by
  obtain ⟨n, h1, h2⟩ := h
  exact ⟨n, h1, fun k hk => Within.weaken (mid := [f]) (h2 k hk)⟩
theorem cvl_args (w : Wd) : ∀ (as : List Value) (i : Nat), cvl w (lv_args i as) = lv_args i (as.map (cv w.b w.base))
  | [], _ => rfl
  | v :: t, i => by
    show (i, cv w.b w.base v) :: cvl w (lv_args (if v.category = 2 then i + 2 else i + 1) t) = (i, cv w.b w.base v) :: lv_args (if (cv w.b w.base v).category = 2 then i + 2 else i + 1) (t.map (cv w.b w.base))
    rw [cv_cat, cvl_args w t]
theorem sl_len (vs : List Value) : (lg_sl vs).length = (vs.map fun v => v.category).sum := by
  induction vs with
  | nil => rfl
  | cons v t ih =>
    have e1 : lg_sl (v :: t) = (if v.category = 2 then [.val v, .second] else [.val v]) ++ lg_sl t := by simp [lg_sl]
    rw [e1, List.length_append, ih, List.map_cons, List.sum_cons]
    rcases lv_cat v with h | h <;> simp [h]
def cdOk (p : Nat) (y : MethodName) (bs : ByteArray) (n : Nat) (r : Option FieldType) (h : List (Nat × Nat × Nat × Nat)) : Bool := match h with
  | [] => wAt p (.code y bs n r)
  | h => wAt p (.codeWith y bs n r h)
def mS (i : Nat) : Nat := mSl.getD i 9
def mA (i : Nat) : Nat := mAl.getD i 0
def mP (i : Nat) : Nat × Nat × Nat × Nat := mPl.getD i (0, 0, 0, 0)
def mhN : String := "java/lang/invoke/MethodHandle"
def vhN : String := "java/lang/invoke/VarHandle"
def okM (a : Nat) : Bool := cdOk (mP a).1 (mY a) (mB a) (mL a) (mR a) (hX a) && plainName (mY a).cls && decide ((mY a).cls ≠ mhN) && decide ((mY a).cls ≠ vhN) && decide ((parseMethodDescriptor (mY a).desc).map (fun d => d.parameters.length) = some (mA a)) &&
  (hXl.getD a []).all (fun q => decide (q.2.2.2.1 ≠ 0) && decide (q.2.2.2.2.1 < 3) && wAt q.2.2.2.2.2 (.classLink (mY a).cls q.2.2.2.1 (exN q.2.2.2.2.1))) &&
  (match mS a with
    | 0 => wAt (mP a).2.1 (.static (mY a)) && wAt (mP a).2.2.2 (.initialized (mY a).cls)
    | 1 => wAt (mP a).2.1 (.instanceMethod (mY a)) && wAt (mP a).2.2.1 (.selects (mY a).cls (mY a) (mY a)) && decide (mK a < 10) && decide ((kCl[mK a]?).map (fun q => q.1) = some (mY a).cls)
    | 2 => wAt (mP a).2.1 (.instanceMethod (mY a)) && decide ((mY a).name = "<init>") && decide (hX a = []) && decide (mR a = none) && decide (mK a < 10)
    | _ => false)
def okL (p ix : Nat) (own : String) (y : MethodName) : Bool := match lw_tbl[p]? with
  | some (.methodLink o i z) => decide (o = own) && decide (i = ix) && decide (z = y)
  | some (.methodLinkNest o i z _) => decide (o = own) && decide (i = ix) && decide (z = y)
  | _ => false
def okC (mi ix a b k p : Nat) : Bool := okL p ix (mY mi).cls (mY a) && decide (mS a = k) && decide (b = mA a) && decide (nF a + 1 ≤ nF mi) && decide (8 + (mL a + 11) + nW a ≤ nW mi) && decide (a < mYl.length) && decide (0 < a)
theorem okM_facts {w : Wd} {s : State} {a : Nat} (C : Cx w s) (h : okM a = true) : ∃ (mk : MethodId) (methk : Method) (ck : Code), s.methodNamed? (mY a) = some mk ∧ s.vm.method? mk = some methk ∧ methk.code = some ck ∧ ck.code = mB a ∧ ck.maxLocals = mL a ∧ ck.exceptionTable.toList.map (fun h => (h.startPc, h.endPc, h.handlerPc, h.catchType)) = hX a ∧ methk.sig.returnType = mR a ∧ methk.locks = false ∧ parseMethodDescriptor (mY a).desc = some methk.sig := by
  unfold okM at h
  simp only [Bool.and_eq_true] at h
  have h1 := h.1.1.1.1.1.1
  unfold cdOk at h1
  have key : (Cond.codeWith (mY a) (mB a) (mL a) (mR a) (hX a)).before #[] s = true := by
    split at h1
    · rename_i e9
      rw [e9]
      have h2 : (Cond.code (mY a) (mB a) (mL a) (mR a)).before #[] s = true := C.wd h1 rfl #[]
      unfold Cond.before Cond.holds at h2 ⊢
      rw [← Cond.code_iff_codeWith_nil]
      exact h2
    · exact C.wd h1 rfl #[]
  exact Cond.codeWith_spec key
section
variable {p : Program} {l : Launch} {e : Env} {R : Room} {s : State} {m : MethodId} {args : Array Value} {below : List Frame} {meth : Method} {c : Code} {Q : State → Prop}
variable {w : Wd} {mi sh0 sl0 pc : Nat} {lc : Lc} {st : List Value} {h0 : Hp} {sl : Nat} {H : Heap} {locs : List Loc} {ls : Array Slot}
/-- what the callee's run gives, whatever its start -/
abbrev IHc (p : Program) (l : Launch) (e : Env) (w : Wd) (mj : Nat) (as : List Value) (h0 : Hp) (sl : Nat) (r : Out) : Prop :=
  ∀ (R' : Room) (s' : State) (m' : MethodId) (args' : Array Value) (below' : List Frame) (meth' : Method) (c' : Code) (H' : Heap) (locs' : List Loc) (ls' : Array Slot), Bx p l R' s' m' meth' c' w mj h0.1.length sl → In w s' h0.1.length sl mj (lv_args 0 as) h0 sl H' locs' ls' →
    W p l e R' s' m' args' below' meth' c' H' locs' (h0.1.length - h0.1.length) (sl - sl) (QQ w below' s' h0.1.length sl r) (F0 m' 0 ls' [])
/-- the callee has thrown: its note lies over the caller's frame -/
abbrev KT (p : Program) (l : Launch) (e : Env) (R : Room) (s : State) (m : MethodId) (args : Array Value) (below : List Frame) (meth : Method) (c : Code) (w : Wd) (sh0 sl0 : Nat) (Q : State → Prop) (mi pc : Nat) (lc : Lc) (ls : Array Slot) (rest : List Value) (q : Nat × Nat) (hs : Hp × Nat) : Prop :=
  ∀ (T : State) (locs : List Loc), In w s sh0 sl0 mi lc hs.1 hs.2 T.heap locs ls → T.heap.size = w.base + (hs.1.1.length - 1) → Stand p l e R s m args below meth c T locs (hs.1.1.length - sh0) (hs.2 - sl0) → ∃ t, Steps p.tables e below ((T.setTop (F0 m pc ls rest)).pushFrame (.throwing (ad w.b w.base q.1))) t ∧ Q t
theorem call_core {T₁ : State} {mk : MethodId} {methk : Method} {ck : Code} {mj : Nat} {as : List Value} {rest : List Value} {r : Out} {ig : Instr} (B : Bx p l R s m meth c w mi sh0 sl0) (I : In w s sh0 sl0 mi lc h0 sl H locs ls) (hT : T₁.heap = H) (hz : H.size = w.base + (h0.1.length - 1)) (X : Stand p l e R s m args below meth c T₁ locs (h0.1.length - sh0) (sl - sl0)) (hdg : decode (mB mi) pc = .ok (ig, 3))
    (hn : s.methodNamed? (mY mj) = some mk) (hm : s.vm.method? mk = some methk) (hc : methk.code = some ck) (c1 : ck.code = mB mj) (c2 : ck.maxLocals = mL mj) (c3 : ck.exceptionTable.toList.map (fun h => (h.startPc, h.endPc, h.handlerPc, h.catchType)) = hX mj) (c4 : methk.sig.returnType = mR mj) (c5 : methk.locks = false)
    (hpn : plainName (mY mj).cls = true) (hf : nF mj + 1 ≤ nF mi) (hl : 8 + (mL mj + 11) + nW mj ≤ nW mi) (hw1 : wsum rest ≤ 8) (hw2 : wsum as ≤ mL mj) (IH : IHc p l e w mj as h0 sl r)
    (Kr : ∀ v, r.1 = .inl v → KK p l e R s m args below meth c w sh0 sl0 Q (mi, pc + 3, lc, v.toList ++ rest, r.2)) (Kt : ∀ q, r.1 = .inr q → r.2.1.1[q.1]? = some (10 + q.2, 0) → q.1 ≠ 0 → q.2 < 3 → KT p l e R s m args below meth c w sh0 sl0 Q mi pc lc ls (rest.map (cv w.b w.base)) q r.2) :
    ∃ t, (∀ acts, Steps p.tables e below (doInvoke e (T₁.setTop (F0 m pc ls (rest.map (cv w.b w.base)))) acts mk (as.map (cv w.b w.base)).toArray).1 t) ∧ Q t := by
  have B' := B
  obtain ⟨hx, htr, C, M, Rm, hsh0, hs0⟩ := B
  have b1 := I.2.2.2.1
  have b2 := I.2.2.2.2.1
  have b3 := I.2.2.2.2.2.1
  have b4 := I.2.2.2.2.2.2
  have hsum := cv_sum w.b w.base rest
  have hal := X.warmed.alike
  have hmk : T₁.vm.method? mk = some methk := by rw [hal.method?]; exact hm
  have hpk : T₁.plainMethod mk := State.plainMethod.of_name (fun k hk => by
    obtain ⟨k', hk', hnm⟩ := className_of_methodNamed hn
    obtain ⟨k2, hk2, he⟩ := hal.2.2 _ _ hk'
    cases hk.symm.trans hk2
    rw [he]
    show plainName k'.name = true
    rw [hnm]
    exact hpn)
  obtain ⟨Y, hin⟩ := X.into (g := F0 m pc ls (rest.map (cv w.b w.base))) rfl (by rw [M.2.2.1]; exact I.2.2.1.1) (ig := ig) (len := 3) (by rw [M.2.1]; exact hdg) (as.map (cv w.b w.base)).toArray (R' := { frames := nF mj, locals := nW mj, cells := mxC + 1 - h0.1.length, slots := mxS - sl }) hmk hc c5 hpk
    (Nat.le_trans hf Rm.1) (by
      show 2 * 0 + ((rest.map (cv w.b w.base)).map fun v => v.category).sum + (ck.maxLocals + 11) + nW mj ≤ R.locals
      rw [c2]
      have := Rm.2.1
      omega) (by show _ + (mxC + 1 - h0.1.length) ≤ _; have := Rm.2.2.1; omega) (by show _ + (mxS - sl) ≤ _; have := Rm.2.2.2; omega)
  have hhe : (T₁.calling (F0 m pc ls (rest.map (cv w.b w.base))) mk (as.map (cv w.b w.base)).toArray).heap = H := hT
  have hbelow : ∀ a, a < w.base → H[a]? = s.heap[a]? := fun a ha => I.2.1.2.1 a (Nat.lt_of_lt_of_le ha C.2.2.2.2.1) (Nat.not_le.mpr ha)
  have Bk : Bx p l { frames := nF mj, locals := nW mj, cells := mxC + 1 - h0.1.length, slots := mxS - sl } (T₁.calling (F0 m pc ls (rest.map (cv w.b w.base))) mk (as.map (cv w.b w.base)).toArray) mk methk ck w mj h0.1.length sl := by
    refine ⟨hx, htr, C.moved (h := h0) X.warmed (by rw [hhe]; exact I.1) (by rw [hhe]; exact hz) (fun a ha => by rw [hhe]; exact hbelow a ha), ⟨?_, c1, c2, c4, c5, (name_of_methodNamed hn hm).1, c3⟩, ⟨Nat.le_refl _, Nat.le_refl _, ?_, ?_⟩, I.1.1, by rw [hhe]; exact hz⟩
    · show T₁.vm.findClass (mY mj).cls = some mk.cls
      rw [hal.findClass]
      exact findClass_of_methodNamed hn
    · show mxC + 1 - h0.1.length + h0.1.length = mxC + 1
      omega
    · show mxS - sl + sl = mxS
      omega
  have hent := lg_entry_eq mk (as.map (cv w.b w.base)) ck.maxLocals
  have hlv := lv_entry (as.map (cv w.b w.base)) (n := ck.maxLocals) (by rw [sl_len, cv_sum, c2]; exact hw2)
  rw [hent] at hin Y
  generalize hls : ((lg_sl (as.map (cv w.b w.base)) ++ List.replicate (ck.maxLocals - (lg_sl (as.map (cv w.b w.base))).length) Slot.unset).toArray) = lsk at hin Y hlv
  have Ik : In w (T₁.calling (F0 m pc ls (rest.map (cv w.b w.base))) mk (as.map (cv w.b w.base)).toArray) h0.1.length sl mj (lv_args 0 as) h0 sl H [] lsk := ⟨I.1, by rw [hhe]; exact va_S.rf, by rw [cvl_args, ← c2]; exact hlv, Nat.le_refl _, b2, Nat.le_refl _, b4⟩
  have hk := IH _ _ mk (as.map (cv w.b w.base)).toArray (.java (F0 m pc ls (rest.map (cv w.b w.base))) :: below) methk ck H [] lsk Bk Ik
  rw [Nat.sub_self, Nat.sub_self] at hk
  obtain ⟨t, hsteps, hrun, hend, hW, hr, hrz, hrb, q1, q2, q3, q4, hth, L1, hL1, hsame⟩ := hk ((T₁.setTop (F0 m pc ls (rest.map (cv w.b w.base)))).pushFrame (.java (F0 mk 0 lsk []))) hT Y
  have hback : Steps p.tables e below (((T₁.setTop (F0 m pc ls (rest.map (cv w.b w.base)))).pushFrame (.java (F0 mk 0 lsk []))).setTop (F0 mk 0 lsk [])) t := steps_wk hsteps
  have hI : ∀ T' : State, T'.heap = t.heap → In w s sh0 sl0 mi lc r.2.1 r.2.2 T'.heap (locs ++ L1) ls := fun T' hT' => by
    refine ⟨by rw [hT']; exact hr, ⟨by rw [hT', hrz, hs0]; omega, fun a ha hA => ?_, fun q hq => ?_⟩, I.2.2.1, by omega, q2, by omega, q4⟩
    · rw [hT', hrb a (Nat.not_le.mp hA), hhe]
      exact hbelow a (Nat.not_le.mp hA)
    · rcases List.mem_append.mp hq with h9 | h9
      · exact I.2.1.2.2 q h9
      · exact hL1 q h9
  have e1 : h0.1.length - sh0 + (r.2.1.1.length - h0.1.length) = r.2.1.1.length - sh0 := by omega
  have e2 : sl - sl0 + (r.2.2 - sl) = r.2.2 - sl0 := by omega
  cases hr1 : r.1 with
  | inl v =>
    rw [hr1] at hend
    obtain ⟨T', X', -, -, ht⟩ := X.outOf (g := F0 m pc ls (rest.map (cv w.b w.base))) rfl (ig := ig) (len := 3) (by rw [M.2.1]; exact hdg) hend hW hsame
    rw [e1, e2] at X'
    have hTh : T'.heap = t.heap := by rw [ht]; rfl
    obtain ⟨t2, s2, hq2⟩ := Kr v hr1 T'.heap (locs ++ L1) ls (hI T' hTh) T' rfl X'
    refine ⟨t2, fun acts => ?_, hq2⟩
    rw [hin acts]
    refine hback.trans ?_
    rw [ht]
    have e3 : (v.map (cv w.b w.base)).toList ++ rest.map (cv w.b w.base) = (v.toList ++ rest).map (cv w.b w.base) := by cases v <;> rfl
    show Steps p.tables e below (T'.setTop (F0 m (pc + 3) ls ((v.map (cv w.b w.base)).toList ++ rest.map (cv w.b w.base)))) t2
    rw [e3]
    exact s2
  | inr q =>
    rw [hr1] at hend
    unfold thk at hth
    rw [hr1] at hth
    obtain ⟨T', X', -, -, ht⟩ := X.outOfThrown (g := F0 m pc ls (rest.map (cv w.b w.base))) rfl hend hW hsame
    rw [e1, e2] at X'
    have hTh : T'.heap = t.heap := by rw [ht]; exact (Stand.throwing_heap _ _ _).symm
    obtain ⟨t2, s2, hq2⟩ := Kt q hr1 hth.1 hth.2.1 hth.2.2 T' (locs ++ L1) (hI T' hTh) (by rw [hTh]; exact hrz) X'
    refine ⟨t2, fun acts => ?_, hq2⟩
    rw [hin acts]
    refine hback.trans ?_
    rw [ht]
    exact s2
end
section
variable {p : Program} {l : Launch} {e : Env} {R : Room} {s : State} {m : MethodId} {args : Array Value} {below : List Frame} {meth : Method} {c : Code} {Q : State → Prop}
variable {w : Wd} {mi sh0 sl0 pc : Nat} {lc : Lc} {st : List Value} {sh : List (Nat × Nat)} {gi : Nat → Nat → Int32} {gl : Nat → Nat → Int64} {gr : Nat → Nat → Option Nat} {sl : Nat} {H : Heap} {locs : List Loc} {ls : Array Slot} {y : Cg}
theorem okM_desc {a b : Nat} (h : okM a = true) (hb : b = mA a) {sig : MethodDescriptor} (hs : parseMethodDescriptor (mY a).desc = some sig) : b = sig.parameters.length := by
  unfold okM at h
  simp only [Bool.and_eq_true, decide_eq_true_eq] at h
  have h1 := h.1.1.2
  rw [hs] at h1
  rw [hb]
  exact (Option.some.inj h1).symm
theorem so_callS {ix a b z : Nat} {as : List Value} {mj : Nat} {r : Out} (B : Bx p l R s m meth c w mi sh0 sl0) (I : In w s sh0 sl0 mi lc (sh, gi, gl, gr) sl H locs ls) (hdg : decode (mB mi) pc = .ok (.invokestatic ix, 3)) (ho : okC mi ix a b 0 z = true) (hM : okM a = true) (h : s_call a b pc lc st sh gi gl gr sl 0 = some (mj, as, y))
    (IH : IHc p l e w mj as (sh, gi, gl, gr) sl r) (Kr : ∀ v, r.1 = .inl v → KK p l e R s m args below meth c w sh0 sl0 Q (mi, y.1 + 3, y.2.1, v.toList ++ y.2.2.1, r.2))
    (Kt : ∀ q, r.1 = .inr q → r.2.1.1[q.1]? = some (10 + q.2, 0) → q.1 ≠ 0 → q.2 < 3 → KT p l e R s m args below meth c w sh0 sl0 Q mi y.1 y.2.1 ls (y.2.2.1.map (cv w.b w.base)) q r.2) (ha : a < 9000) :
    W p l e R s m args below meth c H locs (sh.length - sh0) (sl - sl0) Q (F0 m pc ls (st.map (cv w.b w.base))) := by
  refine W.sized fun hsz => ?_
  have hz := In.size B I hsz
  have B' := B
  obtain ⟨hx, htr, C, M, Rm, hsh0, hs0⟩ := B
  unfold s_call at h
  rw [if_neg (by omega), if_pos rfl] at h
  split at h
  · rename_i hcs
    obtain ⟨hb, hw1, hw2⟩ := hcs
    cases h
    unfold okC okL at ho
    simp only [Bool.and_eq_true, decide_eq_true_eq] at ho
    obtain ⟨⟨⟨⟨⟨⟨o1, o2⟩, o3⟩, o4⟩, o5⟩, -⟩, -⟩ := ho
    obtain ⟨mk, methk, ck, hn, hm, hc, c1, c2, c3, c4, c5, c6⟩ := okM_facts C hM
    have hM' := hM
    unfold okM at hM'
    rw [o2] at hM'
    simp only [Bool.and_eq_true, decide_eq_true_eq] at hM'
    obtain ⟨⟨⟨⟨⟨⟨-, m2⟩, m3⟩, m4⟩, -⟩, -⟩, m7, m8⟩ := hM'
    have hstat := Cond.static_spec hn hm (C.wd m7 rfl args)
    obtain ⟨kP, hkP, -⟩ := className_of_methodNamed hn
    have hini : kP.init = .initialized := Cond.initialized_spec (findClass_of_methodNamed hn) hkP (C.wd m8 rfl args)
    have hlen : ((st.take b).reverse.map (cv w.b w.base)).length = methk.sig.parameters.length := by
      rw [← okM_desc hM o3 c6]
      simp [hb]
    have hstk : (F0 m pc ls (st.map (cv w.b w.base))).stack = ((st.take b).reverse.map (cv w.b w.base)).reverse ++ (st.drop b).map (cv w.b w.base) := by
      show st.map (cv w.b w.base) = _
      rw [List.map_reverse, List.reverse_reverse, ← List.map_append, List.take_append_drop]
    have hw2' : wsum (st.take b).reverse ≤ mL a := by
      rw [wsum_rev]
      exact hw2
    intro T hT X
    have fin : ∀ vm₁, Stand p l e R s m args below meth c (T.setVm vm₁) locs (sh.length - sh0) (sl - sl0) → ∃ t, (∀ acts, Steps p.tables e below (doInvoke e ((T.setVm vm₁).setTop (F0 m pc ls ((st.drop b).map (cv w.b w.base)))) acts mk ((st.take b).reverse.map (cv w.b w.base)).toArray).1 t) ∧ Q t := fun vm₁ X₁ =>
      call_core (h0 := (sh, gi, gl, gr)) (mj := a) (as := (st.take b).reverse) (rest := st.drop b) (r := r) (ig := .invokestatic ix) B' I hT hz X₁ hdg hn hm hc c1 c2 c3 c4 c5 m2 o4 o5 hw1 hw2' IH Kr Kt
    split at o1
    · rename_i o9 i9 y9 hlk
      simp only [Bool.and_eq_true, decide_eq_true_eq] at o1
      obtain ⟨⟨rfl, rfl⟩, rfl⟩ := o1
      obtain ⟨vm₁, X₁, st1⟩ := X.invokestatic hx M.1 (C.1 _ (List.mem_of_getElem? hlk) rfl args) hn hm hstat hkP hini ⟨m3, m4⟩ (g := F0 m pc ls (st.map (cv w.b w.base))) rfl hlen hstk (by rw [M.2.1]; exact hdg)
      obtain ⟨t, h1, h2⟩ := fin vm₁ X₁
      exact ⟨t, st1 t h1, h2⟩
    · rename_i o9 i9 y9 host9 hlk
      simp only [Bool.and_eq_true, decide_eq_true_eq] at o1
      obtain ⟨⟨rfl, rfl⟩, rfl⟩ := o1
      obtain ⟨vm₁, X₁, st1⟩ := X.invokestaticNest hx M.1 (C.1 _ (List.mem_of_getElem? hlk) rfl args) hn hm hstat hkP hini ⟨m3, m4⟩ (g := F0 m pc ls (st.map (cv w.b w.base))) rfl hlen hstk (by rw [M.2.1]; exact hdg)
      obtain ⟨t, h1, h2⟩ := fin vm₁ X₁
      exact ⟨t, st1 t h1, h2⟩
    · cases o1
  · cases h
theorem drop_head {b q : Nat} {st : List Value} (h : (st.drop b).head? = some (.ref q)) : st.drop b = .ref q :: st.drop (b + 1) := by
  cases hd : st.drop b with
  | nil => rw [hd] at h; cases h
  | cons v t =>
    rw [hd] at h
    have h1 : v = .ref q := Option.some.inj h
    rw [h1, ← List.drop_drop, hd]
    rfl
theorem so_callV {ix a b z : Nat} {as : List Value} {mj : Nat} {r : Out} (B : Bx p l R s m meth c w mi sh0 sl0) (I : In w s sh0 sl0 mi lc (sh, gi, gl, gr) sl H locs ls) (hdg : decode (mB mi) pc = .ok (.invokevirtual ix, 3)) (ho : okC mi ix a b 1 z = true) (hM : okM a = true) (h : s_call a b pc lc st sh gi gl gr sl 1 = some (mj, as, y))
    (IH : IHc p l e w mj as (sh, gi, gl, gr) sl r) (Kr : ∀ v, r.1 = .inl v → KK p l e R s m args below meth c w sh0 sl0 Q (mi, y.1 + 3, y.2.1, v.toList ++ y.2.2.1, r.2))
    (Kt : ∀ q, r.1 = .inr q → r.2.1.1[q.1]? = some (10 + q.2, 0) → q.1 ≠ 0 → q.2 < 3 → KT p l e R s m args below meth c w sh0 sl0 Q mi y.1 y.2.1 ls (y.2.2.1.map (cv w.b w.base)) q r.2) (ha : a < 9000) :
    W p l e R s m args below meth c H locs (sh.length - sh0) (sl - sl0) Q (F0 m pc ls (st.map (cv w.b w.base))) := by
  refine W.sized fun hsz => ?_
  have hz := In.size B I hsz
  have B' := B
  obtain ⟨hx, htr, C, M, Rm, hsh0, hs0⟩ := B
  unfold s_call at h
  rw [if_neg (by omega), if_neg (by decide)] at h
  split at h
  · rename_i q hhd
    split at h
    · rename_i x n9 hq
      split at h
      · rename_i hcs
        obtain ⟨rfl, hb, hw1, hw2⟩ := hcs
        cases h
        unfold okC okL at ho
        simp only [Bool.and_eq_true, decide_eq_true_eq] at ho
        obtain ⟨⟨⟨⟨⟨⟨o1, o2⟩, o3⟩, o4⟩, o5⟩, -⟩, -⟩ := ho
        obtain ⟨mk, methk, ck, hn, hm, hc, c1, c2, c3, c4, c5, c6⟩ := okM_facts C hM
        have hM' := hM
        unfold okM at hM'
        rw [o2] at hM'
        simp only [Bool.and_eq_true, decide_eq_true_eq] at hM'
        obtain ⟨⟨⟨⟨⟨⟨-, m2⟩, m3⟩, m4⟩, -⟩, -⟩, ⟨⟨m7, m8⟩, m9⟩, m10⟩ := hM'
        obtain ⟨mk', methk', hn', hm', hst', hab'⟩ := Cond.instanceMethod_spec (C.wd m7 rfl args)
        cases hn.symm.trans hn'
        cases hm.symm.trans hm'
        obtain ⟨q, rfl⟩ := ne0 I.1 hq (by omega)
        obtain ⟨rc, hrc, hrn⟩ := Option.map_eq_some_iff.mp m10
        have hwq := wo (gi := gi) (gl := gl) (gr := gr) (b := w.b) (base := w.base) (aC := w.aC) (show mK a < 100 by omega) hq
        obtain ⟨cell, g1, g2, g3⟩ := va_recv C.2.1 I.1.2.1 hrc hwq
        rw [hrn] at g3
        obtain ⟨s1, s2, s3, q1, q2, q3, q4, kP, hkP, hkPi⟩ := Cond.selects_spec (C.wd m8 rfl args)
        cases g3.symm.trans q1
        cases (State.methodFound?_of_named hn ⟨m3, m4⟩).symm.trans q2
        cases hn.symm.trans q3
        have hlen : ((st.take b).reverse.map (cv w.b w.base)).length = methk.sig.parameters.length := by
          rw [← okM_desc hM o3 c6]
          simp [hb]
        have hstk : (F0 m pc ls (st.map (cv w.b w.base))).stack = ((st.take b).reverse.map (cv w.b w.base)).reverse ++ .ref (w.base + q) :: (st.drop (b + 1)).map (cv w.b w.base) := by
          show st.map (cv w.b w.base) = _
          have e9 : Value.ref (w.base + q) :: (st.drop (b + 1)).map (cv w.b w.base) = (st.drop b).map (cv w.b w.base) := by rw [drop_head hhd]; rfl
          rw [e9, List.map_reverse, List.reverse_reverse, ← List.map_append, List.take_append_drop]
        have hw2' : wsum (.ref (q + 1) :: (st.take b).reverse) ≤ mL a := by
          have e9 : wsum (.ref (q + 1) :: (st.take b).reverse) = 1 + wsum (st.take b).reverse := by
            unfold wsum
            rw [List.map_cons, List.sum_cons]
            rfl
          rw [wsum_rev] at e9
          omega
        intro T hT X
        have hselP : selectMethod e.platform s.vm cell.cls mk = .method mk := by rw [Launch.admits_selectMethod X.admits]; exact q4
        have fin : ∀ vm₁, Stand p l e R s m args below meth c (T.setVm vm₁) locs (sh.length - sh0) (sl - sl0) → ∃ t, (∀ acts, Steps p.tables e below (doInvoke e ((T.setVm vm₁).setTop (F0 m pc ls ((st.drop (b + 1)).map (cv w.b w.base)))) acts mk (.ref (w.base + q) :: (st.take b).reverse.map (cv w.b w.base)).toArray).1 t) ∧ Q t := fun vm₁ X₁ =>
          call_core (h0 := (sh, gi, gl, gr)) (mj := a) (as := .ref (q + 1) :: (st.take b).reverse) (rest := st.drop (b + 1)) (r := r) (ig := .invokevirtual ix) B' I hT hz X₁ hdg hn hm hc c1 c2 c3 c4 c5 m2 o4 o5 hw1 hw2' IH Kr Kt
        split at o1
        · rename_i o9 i9 y9 hlk
          simp only [Bool.and_eq_true, decide_eq_true_eq] at o1
          obtain ⟨⟨rfl, rfl⟩, rfl⟩ := o1
          obtain ⟨vm₁, X₁, st1⟩ := X.invokevirtual hx M.1 (C.1 _ (List.mem_of_getElem? hlk) rfl args) hn hm hst' hkP hkPi ⟨m3, m4⟩ (a := w.base + q) (cell := cell) (by rw [hT]; exact g1) (fun z h9 => by rw [h9] at g2; cases g2) hselP hm hab' hkP hkPi (g := F0 m pc ls (st.map (cv w.b w.base))) rfl hlen hstk (by rw [M.2.1]; exact hdg)
          obtain ⟨t, h1, h2⟩ := fin vm₁ X₁
          exact ⟨t, st1 t h1, h2⟩
        · rename_i o9 i9 y9 host9 hlk
          simp only [Bool.and_eq_true, decide_eq_true_eq] at o1
          obtain ⟨⟨rfl, rfl⟩, rfl⟩ := o1
          obtain ⟨vm₁, X₁, st1⟩ := X.invokevirtualNest hx M.1 (C.1 _ (List.mem_of_getElem? hlk) rfl args) hn hm hst' hkP hkPi ⟨m3, m4⟩ (a := w.base + q) (cell := cell) (by rw [hT]; exact g1) (fun z h9 => by rw [h9] at g2; cases g2) hselP hm hab' hkP hkPi (g := F0 m pc ls (st.map (cv w.b w.base))) rfl hlen hstk (by rw [M.2.1]; exact hdg)
          obtain ⟨t, h1, h2⟩ := fin vm₁ X₁
          exact ⟨t, st1 t h1, h2⟩
        · cases o1
      · cases h
    · cases h
  · cases h
theorem so_callI {ix a b z : Nat} {as : List Value} {mj : Nat} {r : Out} (B : Bx p l R s m meth c w mi sh0 sl0) (I : In w s sh0 sl0 mi lc (sh, gi, gl, gr) sl H locs ls) (hdg : decode (mB mi) pc = .ok (.invokespecial ix, 3)) (ho : okC mi ix a b 2 z = true) (hM : okM a = true) (h : s_call a b pc lc st sh gi gl gr sl 2 = some (mj, as, y))
    (IH : IHc p l e w mj as (sh, gi, gl, gr) sl r) (Kr : ∀ v, r.1 = .inl v → KK p l e R s m args below meth c w sh0 sl0 Q (mi, y.1 + 3, y.2.1, v.toList ++ y.2.2.1, r.2))
    (Kt : ∀ q, r.1 = .inr q → r.2.1.1[q.1]? = some (10 + q.2, 0) → q.1 ≠ 0 → q.2 < 3 → KT p l e R s m args below meth c w sh0 sl0 Q mi y.1 y.2.1 ls (y.2.2.1.map (cv w.b w.base)) q r.2) (ha : a < 9000) :
    W p l e R s m args below meth c H locs (sh.length - sh0) (sl - sl0) Q (F0 m pc ls (st.map (cv w.b w.base))) := by
  refine W.sized fun hsz => ?_
  have hz := In.size B I hsz
  have B' := B
  obtain ⟨hx, htr, C, M, Rm, hsh0, hs0⟩ := B
  unfold s_call at h
  rw [if_neg (by omega), if_neg (by decide)] at h
  split at h
  · rename_i q hhd
    split at h
    · rename_i x n9 hq
      split at h
      · rename_i hcs
        obtain ⟨rfl, hb, hw1, hw2⟩ := hcs
        cases h
        unfold okC okL at ho
        simp only [Bool.and_eq_true, decide_eq_true_eq] at ho
        obtain ⟨⟨⟨⟨⟨⟨o1, o2⟩, o3⟩, o4⟩, o5⟩, -⟩, -⟩ := ho
        obtain ⟨mk, methk, ck, hn, hm, hc, c1, c2, c3, c4, c5, c6⟩ := okM_facts C hM
        have hM' := hM
        unfold okM at hM'
        rw [o2] at hM'
        simp only [Bool.and_eq_true, decide_eq_true_eq] at hM'
        obtain ⟨⟨⟨⟨⟨⟨m1, m2⟩, m3⟩, m4⟩, -⟩, -⟩, ⟨⟨⟨m7, m8⟩, m9⟩, m10⟩, m11⟩ := hM'
        obtain ⟨q, rfl⟩ := ne0 I.1 hq (by omega)
        have hcode : (Cond.code (mY a) (mB a) (mL a) none).before args s = true := by
          unfold cdOk at m1
          rw [m9, m10] at m1
          exact C.wd m1 rfl args
        have hlen : ∀ sig, parseMethodDescriptor (mY a).desc = some sig → ((st.take b).reverse.map (cv w.b w.base)).length = sig.parameters.length := fun sig hs => by
          rw [← okM_desc hM o3 hs]
          simp [hb]
        have hstk : (F0 m pc ls (st.map (cv w.b w.base))).stack = ((st.take b).reverse.map (cv w.b w.base)).reverse ++ .ref (w.base + q) :: (st.drop (b + 1)).map (cv w.b w.base) := by
          show st.map (cv w.b w.base) = _
          have e9 : Value.ref (w.base + q) :: (st.drop (b + 1)).map (cv w.b w.base) = (st.drop b).map (cv w.b w.base) := by rw [drop_head hhd]; rfl
          rw [e9, List.map_reverse, List.reverse_reverse, ← List.map_append, List.take_append_drop]
        have hw2' : wsum (.ref (q + 1) :: (st.take b).reverse) ≤ mL a := by
          have e9 : wsum (.ref (q + 1) :: (st.take b).reverse) = 1 + wsum (st.take b).reverse := by
            unfold wsum
            rw [List.map_cons, List.sum_cons]
            rfl
          rw [wsum_rev] at e9
          omega
        intro T hT X
        have hpl : e.platform.magicAccessors = ({} : Platform).magicAccessors := by rw [X.admits.platform]
        have fin : ∀ vm₁, s.WarmedH vm₁ → ∃ t, (∀ acts, Steps p.tables e below (doInvoke e ((T.setVm vm₁).setTop (F0 m pc ls ((st.drop (b + 1)).map (cv w.b w.base)))) acts mk (.ref (w.base + q) :: (st.take b).reverse.map (cv w.b w.base)).toArray).1 t) ∧ Q t := fun vm₁ hW₁ =>
          call_core (h0 := (sh, gi, gl, gr)) (mj := a) (as := .ref (q + 1) :: (st.take b).reverse) (rest := st.drop (b + 1)) (r := r) (ig := .invokespecial ix) B' I hT hz (X.noted hW₁) hdg hn hm hc c1 c2 c3 c4 c5 m2 o4 o5 hw1 hw2' IH Kr Kt
        split at o1
        · rename_i o9 i9 y9 hlk
          simp only [Bool.and_eq_true, decide_eq_true_eq] at o1
          obtain ⟨⟨rfl, rfl⟩, rfl⟩ := o1
          obtain ⟨mk', methM, cM, kP, vm₁, hnamed, -, -, -, -, -, -, -, hW₁, st1⟩ := Steps.initColdArgs (e := e) X.here hx X.warmed hpl M.1 m8 ⟨m3, m4⟩ (C.1 _ (List.mem_of_getElem? hlk) rfl args) (C.wd m7 rfl args) hcode (f := F0 m pc ls (st.map (cv w.b w.base))) rfl hlen hstk (by rw [M.2.1]; exact hdg)
          cases hn.symm.trans hnamed
          obtain ⟨t, h1, h2⟩ := fin vm₁ hW₁
          exact ⟨t, st1 t h1, h2⟩
        · rename_i o9 i9 y9 host9 hlk
          simp only [Bool.and_eq_true, decide_eq_true_eq] at o1
          obtain ⟨⟨rfl, rfl⟩, rfl⟩ := o1
          obtain ⟨mk', methM, cM, kP, vm₁, hnamed, -, -, -, -, -, -, -, hW₁, st1⟩ := Steps.initColdArgsNest (e := e) X.here hx X.warmed hpl M.1 m8 ⟨m3, m4⟩ (C.1 _ (List.mem_of_getElem? hlk) rfl args) (C.wd m7 rfl args) hcode (f := F0 m pc ls (st.map (cv w.b w.base))) rfl hlen hstk (by rw [M.2.1]; exact hdg)
          cases hn.symm.trans hnamed
          obtain ⟨t, h1, h2⟩ := fin vm₁ hW₁
          exact ⟨t, st1 t h1, h2⟩
        · cases o1
      · cases h
    · cases h
  · cases h
/-- not caught: it goes on to the caller -/
theorem so_leave {rest : List Value} {q : Nat × Nat} {hs : Hp × Nat} (B : Bx p l R s m meth c w mi sh0 sl0) (hh : hnd mi pc q.2 = some none) (hTe : hT mi = (hXl.getD mi []).map (fun z => (z.1, z.2.1, z.2.2.1, z.2.2.2.2.1))) (h1 : hs.1.1[q.1]? = some (10 + q.2, 0)) (h2 : q.1 ≠ 0) (h3 : q.2 < 3) : KT p l e R s m args below meth c w sh0 sl0 (QQ w below s sh0 sl0 (.inr q, hs)) mi pc lc ls rest q hs := by
  intro T locs I hz X
  have B' := B
  obtain ⟨hx, -, C, M, -, -, -⟩ := B
  have hout : ∀ x ∈ c.exceptionTable.toList, covers x (F0 m pc ls rest).pc = false := by
    intro x hx9
    have h9 : (x.startPc, x.endPc, x.handlerPc, x.catchType) ∈ hX mi := by
      rw [← M.2.2.2.2.2.2]
      exact List.mem_map.mpr ⟨x, hx9, rfl⟩
    obtain ⟨z, hz9, he⟩ := List.mem_map.mp h9
    unfold hnd at hh
    split at hh
    · cases hf : (hT mi).find? (fun q' => cvr pc q' && q'.2.2.2 == q.2) with
      | none => rw [hf] at hh; cases hh
      | some y => rw [hf] at hh; cases hh
    · rename_i hany
      have hz8 : (z.1, z.2.1, z.2.2.1, z.2.2.2.2.1) ∈ hT mi := by rw [hTe]; exact List.mem_map.mpr ⟨z, hz9, rfl⟩
      have h8 : cvr pc (z.1, z.2.1, z.2.2.1, z.2.2.2.2.1) = false := by
        cases h7 : cvr pc (z.1, z.2.1, z.2.2.1, z.2.2.2.2.1)
        · rfl
        · exact absurd (List.any_eq_true.mpr ⟨_, hz8, h7⟩) hany
      have e1 : z.1 = x.startPc := congrArg (fun q => q.1) he
      have e2 : z.2.1 = x.endPc := congrArg (fun q => q.2.1) he
      simp only [cvr, e1, e2] at h8
      exact h8
  obtain ⟨st1, hrun, hend, hW, hsame⟩ := X.leaveThrown (ad w.b w.base q.1) (g := F0 m pc ls rest) rfl rfl rfl hout M.2.2.2.2.1
  obtain ⟨⟨sh, gi, gl, gr⟩, sl⟩ := hs
  refine ⟨_, st1, QQ.of (o := (.inr q, (sh, gi, gl, gr), sl)) B' I hz rfl ⟨h1, h2, h3⟩ hrun hend hW rfl I.2.1.2.2 hsame⟩
theorem ct_of {pl : Platform} (hpl : pl.magicAccessors = ({} : Platform).magicAccessors) {d : ClassId} {own : String} (C : Cx w s) (hown : s.vm.findClass own = some d) {E : Nat} (hE : E < 3) {pc' : Nat} : ∀ (hs : List (Nat × Nat × Nat × Nat × Nat × Nat)) (tb : List ExceptionTableEntry), tb.map (fun h => (h.startPc, h.endPc, h.handlerPc, h.catchType)) = hs.map (fun q => (q.1, q.2.1, q.2.2.1, q.2.2.2.1)) →
    (∀ q ∈ hs, q.2.2.2.1 ≠ 0 ∧ q.2.2.2.2.1 < 3 ∧ wAt q.2.2.2.2.2 (.classLink own q.2.2.2.1 (exN q.2.2.2.2.1)) = true) → ((hs.map (fun z => (z.1, z.2.1, z.2.2.1, z.2.2.2.2.1))).find? (fun q => cvr pc q && q.2.2.2 == E)).map (fun q => q.2.2.1) = some pc' → ctF pl s d (w.D.1 (10 + E)) pc pc' tb
  | [], tb, _, _, hf => by cases hf
  | z :: t, [], he, _, _ => by cases he
  | z :: t, x :: tb, he, hok, hf => by
    obtain ⟨h1, h2, h3⟩ := hok z List.mem_cons_self
    simp only [List.map_cons, List.cons.injEq] at he
    obtain ⟨he1, he2⟩ := he
    have e1 : x.startPc = z.1 := congrArg (fun q => q.1) he1
    have e2 : x.endPc = z.2.1 := congrArg (fun q => q.2.1) he1
    have e3 : x.handlerPc = z.2.2.1 := congrArg (fun q => q.2.2.1) he1
    have e4 : x.catchType = z.2.2.2.1 := congrArg (fun q => q.2.2.2) he1
    have hcv : covers x pc = cvr pc (z.1, z.2.1, z.2.2.1, z.2.2.2.2.1) := by
      simp only [covers, cvr, e1, e2]
    have ih := ct_of hpl C hown hE t tb he2 (fun q hq => hok q (List.mem_cons_of_mem _ hq)) (pc' := pc')
    obtain ⟨cT, hcT, hlk⟩ := Cond.classLink_spec hown (C.wd h3 rfl #[]) pl hpl
    have hown9 : ∀ i, i < 3 → s.vm.findClass (exN i) = some (w.D.1 (10 + i)) := fun i hi => (C.2.1.1 (10 + i) _ (ex_kCl i hi)).2.1
    rw [List.map_cons, List.find?_cons] at hf
    by_cases hc : cvr pc (z.1, z.2.1, z.2.2.1, z.2.2.2.2.1) = true
    · by_cases hEE : z.2.2.2.2.1 = E
      · have hp : (cvr pc (z.1, z.2.1, z.2.2.1, z.2.2.2.2.1) && (z.1, z.2.1, z.2.2.1, z.2.2.2.2.1).2.2.2 == E) = true := by rw [hc]; simp [hEE]
        rw [hp] at hf
        have hpc : z.2.2.1 = pc' := Option.some.inj hf
        refine Or.inr (Or.inl ⟨by rw [hcv]; exact hc, ⟨by rw [e4]; exact h1, cT, by rw [e4]; exact hlk, ?_⟩, by rw [e3]; exact hpc⟩)
        rw [hEE] at hcT
        cases Option.some.inj (hcT.symm.trans (hown9 E hE))
        exact va_assign (C.2.1.1 (10 + E) _ (ex_kCl E hE)).2
      · have hp : (cvr pc (z.1, z.2.1, z.2.2.1, z.2.2.2.2.1) && (z.1, z.2.1, z.2.2.1, z.2.2.2.2.1).2.2.2 == E) = false := by rw [hc]; simp [hEE]
        rw [hp] at hf
        refine Or.inr (Or.inr ⟨by rw [hcv]; exact hc, ⟨by rw [e4]; exact h1, cT, by rw [e4]; exact hlk, ?_⟩, ih hf⟩)
        obtain ⟨u1, u2, g1, g2, g3⟩ := C.2.2.2.2.2.2.2.2 E hE _ h2 (fun q => hEE q.symm)
        cases Option.some.inj (g1.symm.trans (hown9 E hE))
        cases Option.some.inj (g2.symm.trans hcT)
        exact g3
    · have hp : (cvr pc (z.1, z.2.1, z.2.2.1, z.2.2.2.2.1) && (z.1, z.2.1, z.2.2.1, z.2.2.2.2.1).2.2.2 == E) = false := by
        cases h9 : cvr pc (z.1, z.2.1, z.2.2.1, z.2.2.2.2.1)
        · rfl
        · exact absurd h9 hc
      rw [hp] at hf
      exact Or.inl ⟨by rw [hcv]; simpa using hc, ih hf⟩
theorem so_caught {rest : List Value} {q : Nat × Nat} {hs : Hp × Nat} {pc' : Nat} (B : Bx p l R s m meth c w mi sh0 sl0) (hh : hnd mi pc q.2 = some (some pc')) (hTe : hT mi = (hXl.getD mi []).map (fun z => (z.1, z.2.1, z.2.2.1, z.2.2.2.2.1)))
    (hok : ∀ z ∈ hXl.getD mi [], z.2.2.2.1 ≠ 0 ∧ z.2.2.2.2.1 < 3 ∧ wAt z.2.2.2.2.2 (.classLink (mY mi).cls z.2.2.2.1 (exN z.2.2.2.2.1)) = true) (h1 : hs.1.1[q.1]? = some (10 + q.2, 0)) (h2 : q.1 ≠ 0) (h3 : q.2 < 3)
    (K : KK p l e R s m args below meth c w sh0 sl0 Q (mi, pc', lc, [.ref q.1], hs)) : KT p l e R s m args below meth c w sh0 sl0 Q mi pc lc ls rest q hs := by
  intro T locs I hz X
  obtain ⟨hx, -, C, M, -, -, -⟩ := B
  have hpl : e.platform.magicAccessors = ({} : Platform).magicAccessors := by rw [X.admits.platform]
  have hf : ((hT mi).find? (fun z => cvr pc z && z.2.2.2 == q.2)).map (fun z => z.2.2.1) = some pc' := by
    unfold hnd at hh
    split at hh
    · cases hf : (hT mi).find? (fun z => cvr pc z && z.2.2.2 == q.2) with
      | none => rw [hf] at hh; cases hh
      | some y =>
        rw [hf] at hh
        exact congrArg _ (Option.some.inj (Option.some.inj hh))
    · cases hh
  rw [hTe] at hf
  obtain ⟨k, hk⟩ : ∃ k, q.1 = k + 1 := ⟨q.1 - 1, by omega⟩
  have h1' := h1
  rw [hk] at h1'
  have hw := wo (gi := hs.1.2.1) (gl := hs.1.2.2.1) (gr := hs.1.2.2.2) (b := w.b) (base := w.base) (aC := w.aC) (show 10 + q.2 < 100 by omega) h1'
  obtain ⟨rc, hrc, cell, g1, g2, g3, -⟩ := I.1.2.1 k _ hw
  have hka : ad w.b w.base q.1 = w.base + k := by rw [hk]; rfl
  have g2' : cell.cls = w.D.1 (10 + q.2) := g2
  obtain ⟨vm', X', st1⟩ := ct_caught X (ad w.b w.base q.1) (g := F0 m pc ls rest) rfl (cell := cell) (pc' := pc') (by rw [hka]; exact g1) g3 (by
    rw [g2']
    obtain ⟨-, kC, hkC, -⟩ := (C.2.1.1 (10 + q.2) _ (ex_kCl q.2 h3)).2
    exact ⟨kC, hkC⟩) (by
    rw [g2']
    exact ct_of hpl C M.1 h3 (hXl.getD mi []) c.exceptionTable.toList M.2.2.2.2.2.2 hok hf)
  obtain ⟨t, s1, hq⟩ := K T.heap locs ls I (T.setVm vm') rfl X'
  exact ⟨t, st1 t s1, hq⟩
end
