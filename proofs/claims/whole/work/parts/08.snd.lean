/-! the tables' check of one entry, and the soundness of the small machine -/
def ntOk (t : ArrayType) (a : Nat) : Bool := decide (a < 3) && decide (newarray.typeOf t = (match a with | 0 => FieldType.int | 1 => .boolean | _ => .long))
def okE (mi pc : Nat) (q : En) : Bool := match q with
  | (i, len, a, b, c, p) => match i with
    | .iconst _ => len == 1
    | .bipush _ => len == 2
    | .sipush _ => len == 3
    | .lconst _ => len == 1
    | .iload _ => len == 2
    | .iload_n _ => len == 1
    | .aload _ => len == 2
    | .aload_n _ => len == 1
    | .istore _ => len == 2
    | .istore_n _ => len == 1
    | .astore _ => len == 2
    | .astore_n _ => len == 1
    | .iinc _ _ => len == 3
    | .iadd => len == 1
    | .isub => len == 1
    | .imul => len == 1
    | .iand => len == 1
    | .ior => len == 1
    | .ixor => len == 1
    | .ishl => len == 1
    | .ishr => len == 1
    | .idiv => len == 1
    | .irem => len == 1
    | .i2l => len == 1
    | .lcmp => len == 1
    | .dup => len == 1
    | .dup2 => len == 1
    | .pop => len == 1
    | .goto o => len == 3 && decide ((pc : Int) + o = (a : Int))
    | .ifCond _ o => len == 3 && decide ((pc : Int) + o = (a : Int))
    | .if_icmp _ o => len == 3 && decide ((pc : Int) + o = (a : Int))
    | .tableswitch d _ _ offs => decide (0 ≤ (pc : Int) + d) && offs.toList.all (fun o => decide (0 ≤ (pc : Int) + o))
    | .lookupswitch d ps => decide (0 ≤ (pc : Int) + d) && ps.toList.all (fun o => decide (0 ≤ (pc : Int) + o.2)) && (ps.toList.zip (ps.toList.drop 1)).all (fun (a, next) => a.1 < next.1)
    | .getfield ix => len == 3 && okF mi ix a b c p
    | .putfield ix => len == 3 && okF mi ix a b c p && okP mi a b
    | .iaload => len == 1
    | .baload => len == 1
    | .laload => len == 1
    | .aaload => len == 1
    | .iastore => len == 1
    | .bastore => len == 1
    | .lastore => len == 1
    | .aastore => len == 1
    | .arraylength => len == 1
    | .newarray t => len == 2 && ntOk t a
    | .anewarray ix => len == 3 && decide (3 ≤ a) && decide (a < 6) && wAt p (.classLink (mY mi).cls ix (arN.getD (a - 3) "")) && wAt b (.arrayOver (.object (arN.getD (a - 3) "")))
    | .new ix => len == 3 && (if 900 ≤ a then okT mi pc ix a b c p else okN mi ix a b p)
    | .invokestatic ix => len == 3 && (if a = 9002 then wAt p (.methodLink (mY mi).cls ix Lib.Math.min.name) && decide (1 ≤ nF mi) && decide (21 ≤ nW mi) else if a = 9003 then wAt p (.methodLink (mY mi).cls ix arraycopyName) && decide (1 ≤ nF mi) && decide (8 + (nativeFrameWords "java/lang/System" "arraycopy" 5 + 11) ≤ nW mi) else okC mi ix a b 0 p)
    | .invokevirtual ix => len == 3 && okC mi ix a b 1 p
    | .invokespecial ix => len == 3 && (if a = 9001 then wAt p (.methodLink (mY mi).cls ix Lib.objectInit) && decide (1 ≤ nF mi) && decide (20 ≤ nW mi) else if 9000 ≤ a then true else okC mi ix a b 2 p)
    | .ireturn => len == 1
    | .areturn => len == 1
    | .return_ => len == 1
    | _ => true
def okQ (k : Nat) (z : Nat × En) : Bool := decide (decode (mB k) z.1 = .ok (z.2.1, z.2.2.1)) && okE k z.1 z.2
def okB : Bool := wAt (bP.getD 0 0) (.instanceMethod Lib.objectInit) && wAt (bP.getD 1 0) (.code Lib.objectInit ⟨#[0xb1]⟩ 1 none) && wAt (bP.getD 2 0) (.static Lib.Math.min.name) && wAt (bP.getD 3 0) (.initialized "java/lang/Math") && wAt (bP.getD 4 0) (.code Lib.Math.min.name Lib.Math.min.code 2 (some .int)) &&
  wAt (bP.getD 5 0) (.native arraycopyName) && wAt (bP.getD 6 0) (.static arraycopyName) && wAt (bP.getD 7 0) (.initialized "java/lang/System")
/-- all that the tables owe -/
def TB : Prop := (∀ k, k < mYl.length → ∀ z ∈ cds.getD k [], okQ k z = true) ∧ (∀ x, x < 10 → okK x = true) ∧ (∀ E, E < 3 → ∀ v ∈ exWs E, v ∈ lw_tbl ∧ okw v = true) ∧ okB = true ∧ (∀ x, x ∈ [FieldType.int, .boolean, .long] → Cond.arrayClass x ∈ lw_tbl) ∧
  (∀ j, j < arN.length → elc (103 + j) < 10 ∧ ∃ r, kCl[elc (103 + j)]? = some r ∧ r.1 = arN.getD j "") ∧ (∀ a, a < mYl.length → 0 < a → okM a = true) ∧ (∀ a, hT a = (hXl.getD a []).map (fun z => (z.1, z.2.1, z.2.2.1, z.2.2.2.2.1))) ∧ hXl.getD 0 [] = [] ∧ cds.length = mYl.length
theorem cd_ok (tb : TB) {mi pc : Nat} {q : En} (h : cd mi pc = some q) : decode (mB mi) pc = .ok (q.1, q.2.1) ∧ okE mi pc q = true := by
  unfold cd at h
  split at h
  · rename_i li hl
    obtain ⟨z, hz, rfl⟩ := Option.map_eq_some_iff.mp h
    have h1 := List.mem_of_find?_eq_some hz
    have h2 : z.1 = pc := by simpa using List.find?_some hz
    have hlt := (List.getElem?_eq_some_iff.mp hl).1
    rw [tb.2.2.2.2.2.2.2.2.2] at hlt
    have h3 := tb.1 mi hlt z (by rw [List.getD_eq_getElem?_getD, hl]; exact h1)
    unfold okQ at h3
    rw [Bool.and_eq_true, decide_eq_true_eq] at h3
    rw [← h2]
    exact h3
  · cases h
theorem hX_ok (tb : TB) (mi : Nat) (hm : mi < mYl.length) : ∀ z ∈ hXl.getD mi [], z.2.2.2.1 ≠ 0 ∧ z.2.2.2.2.1 < 3 ∧ wAt z.2.2.2.2.2 (.classLink (mY mi).cls z.2.2.2.1 (exN z.2.2.2.2.1)) = true := by
  by_cases h0 : mi = 0
  · subst h0
    rw [tb.2.2.2.2.2.2.2.2.1]
    intro z hz
    cases hz
  · have h1 := tb.2.2.2.2.2.2.1 mi hm (by omega)
    unfold okM at h1
    simp only [Bool.and_eq_true, List.all_eq_true, decide_eq_true_eq] at h1
    intro z hz
    have h2 := h1.1.2 z hz
    exact ⟨h2.1.1, h2.1.2, h2.2⟩
section
variable {p : Program} {l : Launch} {e : Env} {R : Room} {s : State} {m : MethodId} {args : Array Value} {below : List Frame} {meth : Method} {c : Code} {Q : State → Prop}
variable {w : Wd} {mi sh0 sl0 pc : Nat} {lc : Lc} {st : List Value} {sh : List (Nat × Nat)} {gi : Nat → Nat → Int32} {gl : Nat → Nat → Int64} {gr : Nat → Nat → Option Nat} {sl : Nat} {H : Heap} {locs : List Loc} {ls : Array Slot}
set_option maxHeartbeats 4000000 in
theorem so_step (tb : TB) {y : Cg} {i : Instr} {len a b k z : Nat} (B : Bx p l R s m meth c w mi sh0 sl0) (hcd : cd mi pc = some (i, len, a, b, k, z)) (h : stI i len a b k mi pc lc st sh gi gl gr sl = some y) (I : In w s sh0 sl0 mi lc (sh, gi, gl, gr) sl H locs ls) (K : KK p l e R s m args below meth c w sh0 sl0 Q (mi, y)) :
    W p l e R s m args below meth c H locs (sh.length - sh0) (sl - sl0) Q (F0 m pc ls (st.map (cv w.b w.base))) := by
  obtain ⟨hdg, hok⟩ := cd_ok tb hcd
  simp only at hdg
  have hx := B.1
  have hb := B.2.2.2.1.2.1
  have bb := tb.2.2.2.1
  unfold okB at bb
  simp only [Bool.and_eq_true] at bb
  obtain ⟨⟨⟨⟨⟨⟨⟨b0, b1⟩, b2⟩, b3⟩, b4⟩, b5⟩, b6⟩, b7⟩ := bb
  unfold stI at h
  split at h
  · obtain rfl : len = 1 := by simpa [okE] using hok
    exact lv_iconst hx hb hdg rfl (so_push h rfl I K)
  · obtain rfl : len = 2 := by simpa [okE] using hok
    exact lv_bipush hx hb hdg rfl (so_push h rfl I K)
  · obtain rfl : len = 3 := by simpa [okE] using hok
    exact lv_sipush hx hb hdg rfl (so_push h rfl I K)
  · obtain rfl : len = 1 := by simpa [okE] using hok
    exact lv_lconst hx hb hdg rfl (so_push h rfl I K)
  · obtain rfl : len = 2 := by simpa [okE] using hok
    obtain ⟨x, h1, h2⟩ := so_iload h I K
    exact lv_iload hx hb hdg h1 h2
  · obtain rfl : len = 1 := by simpa [okE] using hok
    obtain ⟨x, h1, h2⟩ := so_iload h I K
    exact lv_iload_n hx hb hdg rfl h1 h2
  · obtain rfl : len = 2 := by simpa [okE] using hok
    obtain ⟨x, h1, h2⟩ := so_aload h I K
    exact lv_aload hx hb hdg h1 h2
  · obtain rfl : len = 1 := by simpa [okE] using hok
    obtain ⟨x, h1, h2⟩ := so_aload h I K
    exact lv_aload_n hx hb hdg rfl h1 h2
  · obtain rfl : len = 2 := by simpa [okE] using hok
    obtain ⟨x, r, lc', e1, e2, e3, e4⟩ := so_istore h I K
    rw [e1]
    exact lv_istore hx hb hdg I.2.2.1 e2 e3 e4
  · obtain rfl : len = 1 := by simpa [okE] using hok
    obtain ⟨x, r, lc', e1, e2, e3, e4⟩ := so_istore h I K
    rw [e1]
    exact lv_istore_n hx hb hdg rfl I.2.2.1 e2 e3 e4
  · obtain rfl : len = 2 := by simpa [okE] using hok
    obtain ⟨x, r, lc', e1, e2, e3, e4⟩ := so_astore h I K
    rw [e1]
    exact lv_astore hx hb hdg I.2.2.1 e2 e3 e4
  · obtain rfl : len = 1 := by simpa [okE] using hok
    obtain ⟨x, r, lc', e1, e2, e3, e4⟩ := so_astore h I K
    rw [e1]
    exact lv_astore_n hx hb hdg rfl I.2.2.1 e2 e3 e4
  · obtain rfl : len = 3 := by simpa [okE] using hok
    exact so_iinc hx hb hdg h I K
  · obtain rfl : len = 1 := by simpa [okE] using hok
    obtain ⟨x, y, r, e1, e2⟩ := so_bin h I K
    rw [e1]
    exact lv_iadd hx hb hdg e2
  · obtain rfl : len = 1 := by simpa [okE] using hok
    obtain ⟨x, y, r, e1, e2⟩ := so_bin h I K
    rw [e1]
    exact lv_isub hx hb hdg e2
  · obtain rfl : len = 1 := by simpa [okE] using hok
    obtain ⟨x, y, r, e1, e2⟩ := so_bin h I K
    rw [e1]
    exact lv_imul hx hb hdg e2
  · obtain rfl : len = 1 := by simpa [okE] using hok
    obtain ⟨x, y, r, e1, e2⟩ := so_bin h I K
    rw [e1]
    exact lv_iand hx hb hdg e2
  · obtain rfl : len = 1 := by simpa [okE] using hok
    obtain ⟨x, y, r, e1, e2⟩ := so_bin h I K
    rw [e1]
    exact lv_ior hx hb hdg e2
  · obtain rfl : len = 1 := by simpa [okE] using hok
    obtain ⟨x, y, r, e1, e2⟩ := so_bin h I K
    rw [e1]
    exact lv_ixor hx hb hdg e2
  · obtain rfl : len = 1 := by simpa [okE] using hok
    obtain ⟨x, y, r, e1, e2⟩ := so_bin h I K
    rw [e1]
    exact lv_ishl hx hb hdg e2
  · obtain rfl : len = 1 := by simpa [okE] using hok
    obtain ⟨x, y, r, e1, e2⟩ := so_bin h I K
    rw [e1]
    exact lv_ishr hx hb hdg e2
  · obtain rfl : len = 1 := by simpa [okE] using hok
    obtain ⟨x, y, r, e1, e2, e3⟩ := so_div h I K
    rw [e1]
    exact lv_idiv hx hb hdg e2 e3
  · obtain rfl : len = 1 := by simpa [okE] using hok
    obtain ⟨x, y, r, e1, e2, e3⟩ := so_div h I K
    rw [e1]
    exact lv_irem hx hb hdg e2 e3
  · obtain rfl : len = 1 := by simpa [okE] using hok
    exact so_i2l hx hb hdg h I K
  · obtain rfl : len = 1 := by simpa [okE] using hok
    exact so_lcmp hx hb hdg h I K
  · obtain rfl : len = 1 := by simpa [okE] using hok
    exact so_dup hx hb hdg h I K
  · obtain rfl : len = 1 := by simpa [okE] using hok
    exact so_dup2 hx hb hdg h I K
  · obtain rfl : len = 1 := by simpa [okE] using hok
    exact so_pop hx hb hdg h I K
  · obtain ⟨rfl, ha⟩ : len = 3 ∧ _ := by simpa [okE] using hok
    obtain rfl := go_inv h
    exact lv_goto hx hb hdg ha (K H locs ls I)
  · obtain ⟨rfl, ha⟩ : len = 3 ∧ _ := by simpa [okE] using hok
    exact so_if hx hb hdg ha h I K
  · obtain ⟨rfl, ha⟩ : len = 3 ∧ _ := by simpa [okE] using hok
    exact so_icmp hx hb hdg ha h I K
  · simp only [okE, Bool.and_eq_true, decide_eq_true_eq, List.all_eq_true] at hok
    exact so_tab hx hb hdg hok.1 hok.2 h I K
  · simp only [okE, Bool.and_eq_true, decide_eq_true_eq] at hok
    exact so_look hx hb hdg hok.1.1 (fun o ho => by simpa using List.all_eq_true.mp hok.1.2 o ho) hok.2 h I K
  · simp only [okE, Bool.and_eq_true, beq_iff_eq] at hok
    obtain ⟨rfl, ho⟩ := hok
    exact so_get tb.2.1 B hdg ho h I K
  · simp only [okE, Bool.and_eq_true, beq_iff_eq] at hok
    obtain ⟨⟨rfl, ho⟩, hp⟩ := hok
    exact so_put tb.2.1 B hdg ho hp h I K
  · obtain rfl : len = 1 := by simpa [okE] using hok
    exact so_iald B hdg h I K
  · obtain rfl : len = 1 := by simpa [okE] using hok
    exact so_zald B hdg h I K
  · obtain rfl : len = 1 := by simpa [okE] using hok
    exact so_lald B hdg h I K
  · obtain rfl : len = 1 := by simpa [okE] using hok
    exact so_aald B hdg h I K
  · obtain rfl : len = 1 := by simpa [okE] using hok
    exact so_iast B hdg h I K
  · obtain rfl : len = 1 := by simpa [okE] using hok
    exact so_zast B hdg h I K
  · obtain rfl : len = 1 := by simpa [okE] using hok
    exact so_last B hdg h I K
  · obtain rfl : len = 1 := by simpa [okE] using hok
    exact so_aast tb.2.2.2.2.2.1 B hdg h I K
  · obtain rfl : len = 1 := by simpa [okE] using hok
    exact so_len B hdg h I K
  · simp only [okE, ntOk, Bool.and_eq_true, beq_iff_eq, decide_eq_true_eq] at hok
    obtain ⟨rfl, h1, h2⟩ := hok
    exact so_newa h2 h1 tb.2.2.2.2.1 B hdg h I K
  · simp only [okE, Bool.and_eq_true, beq_iff_eq, decide_eq_true_eq] at hok
    obtain ⟨⟨⟨⟨rfl, h1⟩, h2⟩, h3⟩, h4⟩ := hok
    obtain ⟨j, rfl⟩ : ∃ j, a = 3 + j := ⟨a - 3, by omega⟩
    rw [show 3 + j - 3 = j by omega] at h3 h4
    exact so_anew (show j < 3 by omega) h3 h4 B hdg h I K
  · split at h
    · cases h
    · rename_i ha
      simp only [okE, Bool.and_eq_true, beq_iff_eq] at hok
      obtain ⟨rfl, ho⟩ := hok
      rw [if_neg ha] at ho
      exact so_new tb.2.1 B hdg ho h I K
  · simp only [okE, Bool.and_eq_true, beq_iff_eq] at hok
    obtain ⟨rfl, ho⟩ := hok
    split at h
    · rename_i ha
      rw [if_pos ha] at ho
      simp only [Bool.and_eq_true, decide_eq_true_eq] at ho
      exact so_min ho.1.1 b2 b3 b4 ho.1.2 ho.2 B hdg h I K
    · rename_i ha
      rw [if_neg ha] at ho
      split at h
      · rename_i ha2
        rw [if_pos ha2] at ho
        simp only [Bool.and_eq_true, decide_eq_true_eq] at ho
        exact so_copy ho.1.1 b5 b6 b7 ho.1.2 ho.2 B hdg h I K
      · cases h
  · simp only [okE, Bool.and_eq_true, beq_iff_eq] at hok
    obtain ⟨rfl, ho⟩ := hok
    split at h
    · rename_i ha
      rw [if_pos ha] at ho
      simp only [Bool.and_eq_true, decide_eq_true_eq] at ho
      exact so_obj ho.1.1 b0 b1 ho.1.2 ho.2 B hdg h I K
    · cases h
  · cases h
theorem so_end (tb : TB) {i : Instr} {len a b k z : Nat} {o : Out} (B : Bx p l R s m meth c w mi sh0 sl0) (hcd : cd mi pc = some (i, len, a, b, k, z)) (h : enI i a mi st sh gi gl gr sl = some o) (I : In w s sh0 sl0 mi lc (sh, gi, gl, gr) sl H locs ls) :
    W p l e R s m args below meth c H locs (sh.length - sh0) (sl - sl0) (QQ w below s sh0 sl0 o) (F0 m pc ls (st.map (cv w.b w.base))) := by
  obtain ⟨hdg, hok⟩ := cd_ok tb hcd
  simp only at hdg
  unfold enI at h
  split at h
  · obtain rfl : len = 1 := by simpa [okE] using hok
    exact so_iret B hdg h I
  · obtain rfl : len = 1 := by simpa [okE] using hok
    exact so_aret B hdg h I
  · obtain rfl : len = 1 := by simpa [okE] using hok
    exact so_vret B hdg h I
  · split at h
    · rename_i ha
      simp only [okE, Bool.and_eq_true, beq_iff_eq] at hok
      obtain ⟨rfl, ho⟩ := hok
      rw [if_pos ha] at ho
      exact so_throw tb.2.2.1 B hdg ho h I
    · cases h
  · cases h
theorem call_lt {a b k : Nat} {q : Nat × List Value × Cg} (h : s_call a b pc lc st sh gi gl gr sl k = some q) : a < 9000 := by
  unfold s_call at h
  split at h
  · cases h
  · omega
theorem so_call (tb : TB) {y : Cg} {as : List Value} {mj : Nat} {r : Out} {i : Instr} {len a b k z : Nat} (B : Bx p l R s m meth c w mi sh0 sl0) (hcd : cd mi pc = some (i, len, a, b, k, z)) (h : caI i a b pc lc st sh gi gl gr sl = some (mj, as, y)) (I : In w s sh0 sl0 mi lc (sh, gi, gl, gr) sl H locs ls)
    (IH : IHc p l e w mj as (sh, gi, gl, gr) sl r) (Kr : ∀ v, r.1 = .inl v → KK p l e R s m args below meth c w sh0 sl0 Q (mi, y.1 + 3, y.2.1, v.toList ++ y.2.2.1, r.2))
    (Kt : ∀ q, r.1 = .inr q → r.2.1.1[q.1]? = some (10 + q.2, 0) → q.1 ≠ 0 → q.2 < 3 → KT p l e R s m args below meth c w sh0 sl0 Q mi y.1 y.2.1 ls (y.2.2.1.map (cv w.b w.base)) q r.2) :
    W p l e R s m args below meth c H locs (sh.length - sh0) (sl - sl0) Q (F0 m pc ls (st.map (cv w.b w.base))) := by
  obtain ⟨hdg, hok⟩ := cd_ok tb hcd
  simp only at hdg
  have okc : ∀ {ix n : Nat}, okC mi ix a b n z = true → okM a = true := fun {ix n} ho => by
    unfold okC at ho
    simp only [Bool.and_eq_true, decide_eq_true_eq] at ho
    exact tb.2.2.2.2.2.2.1 a ho.1.2 ho.2
  unfold caI at h
  split at h
  · simp only [okE, Bool.and_eq_true, beq_iff_eq] at hok
    obtain ⟨rfl, ho⟩ := hok
    have ha := call_lt h
    rw [if_neg (by omega), if_neg (by omega)] at ho
    exact so_callS B I hdg ho (okc ho) h IH Kr Kt ha
  · simp only [okE, Bool.and_eq_true, beq_iff_eq] at hok
    obtain ⟨rfl, ho⟩ := hok
    exact so_callV B I hdg ho (okc ho) h IH Kr Kt (call_lt h)
  · simp only [okE, Bool.and_eq_true, beq_iff_eq] at hok
    obtain ⟨rfl, ho⟩ := hok
    have ha := call_lt h
    rw [if_neg (by omega), if_neg (by omega)] at ho
    exact so_callI B I hdg ho (okc ho) h IH Kr Kt ha
  · cases h
end
theorem call_as {i : Instr} {a b pc sl : Nat} {lc : Lc} {st : List Value} {sh : List (Nat × Nat)} {gi : Nat → Nat → Int32} {gl : Nat → Nat → Int64} {gr : Nat → Nat → Option Nat} {q : Nat × List Value × Cg} (h : caI i a b pc lc st sh gi gl gr sl = some q) : q.2.2.2.2.2 = ((sh, gi, gl, gr), sl) := by
  have key : ∀ k, s_call a b pc lc st sh gi gl gr sl k = some q → q.2.2.2.2.2 = ((sh, gi, gl, gr), sl) := by
    intro k h
    unfold s_call at h
    split at h
    · cases h
    · split at h
      · split at h
        · cases h; rfl
        · cases h
      · split at h
        · split at h
          · split at h
            · cases h; rfl
            · cases h
          · cases h
        · cases h
  unfold caI at h
  split at h
  · exact key _ h
  · exact key _ h
  · exact key _ h
  · cases h
theorem cd_lt (tb : TB) {mi pc : Nat} {q : En} (h : cd mi pc = some q) : mi < mYl.length := by
  unfold cd at h
  split at h
  · rename_i li hl
    have := (List.getElem?_eq_some_iff.mp hl).1
    rw [tb.2.2.2.2.2.2.2.2.2] at this
    exact this
  · cases h
theorem snd (tb : TB) {p : Program} {l : Launch} {e : Env} {w : Wd} : ∀ (n : Nat) (x : Cf) (r : Out), exe n x = some r → ∀ (R : Room) (s : State) (m : MethodId) (args : Array Value) (below : List Frame) (meth : Method) (c : Code) (sh0 sl0 : Nat), Bx p l R s m meth c w x.1 sh0 sl0 → KK p l e R s m args below meth c w sh0 sl0 (QQ w below s sh0 sl0 r) x := by
  intro n
  induction n with
  | zero => intro x r h; cases h
  | succ n ih =>
    intro x r h R s m args below meth c sh0 sl0 B H locs ls I
    obtain ⟨mi, pc, lc, st, ⟨sh, gi, gl, gr⟩, sl⟩ := x
    rw [exe] at h
    unfold sx at h
    simp only at h
    cases hcd : cd mi pc with
    | none => rw [hcd] at h; cases h
    | some q =>
      obtain ⟨i, len, a, b, k, z⟩ := q
      rw [hcd] at h
      simp only at h
      cases hst : stI i len a b k mi pc lc st sh gi gl gr sl with
      | some y =>
        rw [hst] at h
        simp only at h
        exact so_step tb B hcd hst I (ih _ _ h R s m args below meth c sh0 sl0 B)
      | none =>
        rw [hst] at h
        simp only at h
        cases hen : enI i a mi st sh gi gl gr sl with
        | some o =>
          rw [hen] at h
          simp only at h
          cases h
          exact so_end tb B hcd hen I
        | none =>
          rw [hen] at h
          simp only at h
          cases hca : caI i a b pc lc st sh gi gl gr sl with
          | none => rw [hca] at h; cases h
          | some q =>
            obtain ⟨mj, as, y⟩ := q
            rw [hca] at h
            simp only [Option.map_some] at h
            have hy : y.2.2.2 = ((sh, gi, gl, gr), sl) := call_as hca
            rw [hy] at h
            cases hr : exe n (mj, 0, lv_args 0 as, [], (sh, gi, gl, gr), sl) with
            | none => rw [hr] at h; cases h
            | some r2 =>
              rw [hr] at h
              have IH : IHc p l e w mj as (sh, gi, gl, gr) sl r2 := fun R' s' m' args' below' meth' c' H' locs' ls' B' I' => ih _ _ hr R' s' m' args' below' meth' c' sh.length sl B' H' locs' ls' I'
              obtain ⟨v | ⟨k9, E⟩, hs⟩ := r2
              · simp only at h
                refine so_call tb B hcd hca I IH (fun v' hv => ?_) (fun q hq => by cases hq)
                cases hv
                exact ih _ _ h R s m args below meth c sh0 sl0 B
              · simp only at h
                refine so_call tb B hcd hca I IH (fun v' hv => by cases hv) (fun q hq h1 h2 h3 => ?_)
                cases hq
                cases hh : hnd mi y.1 E with
                | none => rw [hh] at h; cases h
                | some z9 =>
                  rw [hh] at h
                  cases z9 with
                  | none =>
                    simp only at h
                    cases h
                    exact so_leave B hh (tb.2.2.2.2.2.2.2.1 mi) h1 h2 h3
                  | some pc' =>
                    simp only at h
                    exact so_caught B hh (tb.2.2.2.2.2.2.2.1 mi) (hX_ok tb mi (cd_lt tb hcd)) h1 h2 h3 (ih _ _ h R s m args below meth c sh0 sl0 B)
