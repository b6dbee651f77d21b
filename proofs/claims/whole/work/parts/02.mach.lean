/-! the small machine: a heap is shapes (code, length), ints, longs, references; cell 0 is the script; cell k + 1 lies at base + k. Codes 0..9: an object; 10..12: an exception; 100 int[], 101 boolean[], 102 long[], 103.. arrays of references. -/
abbrev Hp : Type := List (Nat × Nat) × (Nat → Nat → Int32) × (Nat → Nat → Int64) × (Nat → Nat → Option Nat)
abbrev Lc : Type := List (Nat × Value)
/-- method, pc, locals, stack, heap, slots made -/
abbrev Cf : Type := Nat × Nat × Lc × List Value × Hp × Nat
/-- an end: what is returned, or (cell, number) of what is thrown; the heap, slots made -/
abbrev Out : Type := (Option Value ⊕ Nat × Nat) × Hp × Nat
/-- a place within a method: pc, locals, stack, heap, slots made -/
abbrev Cg : Type := Nat × Lc × List Value × Hp × Nat
/-- a step: on to a place; a call (callee, arguments, the place with them off the stack, pc at the call); an end -/
abbrev Rs : Type := Cg ⊕ (Nat × List Value × Cg) ⊕ Out
def u2 {α : Type} (g : Nat → Nat → α) (k j : Nat) (v : α) : Nat → Nat → α := fun a b => if a = k then (if b = j then v else g a b) else g a b
def rw0 {α : Type} (g : Nat → Nat → α) (k : Nat) (v : α) : Nat → Nat → α := fun a b => if a = k then v else g a b
def cpy2 (g : Nat → Nat → Int32) (k k' sp dp n : Nat) : Nat → Nat → Int32 := fun a b => if a = k' then va_cpy (g k) (g k') sp dp n b else g a b
def lget (ls : Lc) (i : Nat) : Option Value := (ls.find? (fun q => q.1 == i)).map (fun q => q.2)
def lput (ls : Lc) (i : Nat) (v : Value) : Lc := (i, v) :: ls.filter (fun q => !(q.1 == i) && !(q.1 + 1 == i && q.2.category == 2))
def wsum (st : List Value) : Nat := (st.map fun v => v.category).sum
def isB (v : Int32) : Bool := v == 0 || v == 1
def mxC : Nat := 601024
def mxS : Nat := 7293034
section
variable (mi pc : Nat) (ls : Lc) (sh : List (Nat × Nat)) (gi : Nat → Nat → Int32) (gl : Nat → Nat → Int64) (gr : Nat → Nat → Option Nat) (sl : Nat)
def go (_ : Nat) (ls : Lc) (sh : List (Nat × Nat)) (gi : Nat → Nat → Int32) (gl : Nat → Nat → Int64) (gr : Nat → Nat → Option Nat) (sl : Nat) (pc' : Nat) (st : List Value) : Option Cg := some (pc', ls, st, (sh, gi, gl, gr), sl)
/-- an int at place j of cell q, of an array of code x -/
def ldI (x q : Nat) (i : Int32) (k : Nat → Option Cg) : Option Cg := match sh[q]? with
  | some (y, n) => if y = x then (if i < 0 ∨ n ≤ i.toNatClampNeg then none else k i.toNatClampNeg) else none
  | none => none
end
def br (c : ClassFile.Cond) (x y : Int32) (A B : Option Cg) : Option Cg := match c with
  | .eq => if x = y then A else B
  | .ne => if x = y then B else A
  | .lt => if x < y then A else B
  | .ge => if y ≤ x then A else B
  | .gt => if y < x then A else B
  | .le => if x ≤ y then A else B
section
variable (len a b c : Nat) (mi pc : Nat) (ls : Lc) (st : List Value) (sh : List (Nat × Nat)) (gi : Nat → Nat → Int32) (gl : Nat → Nat → Int64) (gr : Nat → Nat → Option Nat) (sl : Nat)
def s_push (v : Value) : Option Cg := go mi ls sh gi gl gr sl (pc + len) (v :: st)
def s_iload (k : Nat) : Option Cg := match lget ls k with
  | some (.int x) => go mi ls sh gi gl gr sl (pc + len) (.int x :: st)
  | _ => none
def s_aload (k : Nat) : Option Cg := match lget ls k with
  | some (.ref x) => go mi ls sh gi gl gr sl (pc + len) (.ref x :: st)
  | _ => none
def s_istore (k : Nat) : Option Cg := match st with
  | .int x :: r => if k < mL mi then go mi (lput ls k (.int x)) sh gi gl gr sl (pc + len) r else none
  | _ => none
def s_astore (k : Nat) : Option Cg := match st with
  | .ref x :: r => if k < mL mi then go mi (lput ls k (.ref x)) sh gi gl gr sl (pc + len) r else none
  | _ => none
def s_iinc (k : Nat) (n : Int) : Option Cg := match lget ls k with
  | some (.int x) => if k < mL mi then go mi (lput ls k (.int (x + Int32.ofInt n))) sh gi gl gr sl (pc + len) st else none
  | _ => none
def s_bin (f : Int32 → Int32 → Int32) : Option Cg := match st with
  | .int y :: .int x :: r => go mi ls sh gi gl gr sl (pc + len) (.int (f x y) :: r)
  | _ => none
def s_div (f : Int32 → Int32 → Int32) : Option Cg := match st with
  | .int y :: .int x :: r => if y = 0 then none else go mi ls sh gi gl gr sl (pc + len) (.int (f x y) :: r)
  | _ => none
def s_i2l : Option Cg := match st with
  | .int x :: r => go mi ls sh gi gl gr sl (pc + len) (.long x.toInt64 :: r)
  | _ => none
def s_lcmp : Option Cg := match st with
  | .long y :: .long x :: r => go mi ls sh gi gl gr sl (pc + len) (.int (lg_cmp x y) :: r)
  | _ => none
def s_dup : Option Cg := match st with
  | v :: r => if v.category = 1 then go mi ls sh gi gl gr sl (pc + len) (v :: v :: r) else none
  | _ => none
def s_dup2 : Option Cg := match st with
  | w :: v :: r => if w.category = 1 ∧ v.category = 1 then go mi ls sh gi gl gr sl (pc + len) (w :: v :: w :: v :: r) else none
  | _ => none
def s_pop : Option Cg := match st with
  | v :: r => if v.category = 1 then go mi ls sh gi gl gr sl (pc + len) r else none
  | _ => none
def s_if (cc : ClassFile.Cond) : Option Cg := match st with
  | .int x :: r => br cc x 0 (go mi ls sh gi gl gr sl a r) (go mi ls sh gi gl gr sl (pc + 3) r)
  | _ => none
def s_icmp (cc : ClassFile.Cond) : Option Cg := match st with
  | .int y :: .int x :: r => br cc x y (go mi ls sh gi gl gr sl a r) (go mi ls sh gi gl gr sl (pc + 3) r)
  | _ => none
def s_tab (d lo hi : Int) (offs : Array Int) : Option Cg := match st with
  | .int x :: r => if x.toInt < lo ∨ hi < x.toInt then go mi ls sh gi gl gr sl ((pc : Int) + d).toNat r else match offs[(x.toInt - lo).toNat]? with
    | some o => go mi ls sh gi gl gr sl ((pc : Int) + o).toNat r
    | none => none
  | _ => none
def s_look (d : Int) (ps : Array (Int × Int)) : Option Cg := match st with
  | .int x :: r => go mi ls sh gi gl gr sl ((pc : Int) + Op.lookupswitch.offset ps.toList d x.toInt).toNat r
  | _ => none
def s_get : Option Cg := match st with
  | .ref q :: r => match sh[q]? with
    | some (x, _) => if x = a then go mi ls sh gi gl gr sl (pc + 3) ((if c = 2 then va_rf (gr q b) else .int (gi q b)) :: r) else none
    | none => none
  | _ => none
def s_put : Option Cg := match st with
  | .int w :: .ref q :: r => match sh[q]? with
    | some (x, _) => if x = a ∧ (c = 0 ∨ (c = 1 ∧ isB w = true)) then go mi ls sh (u2 gi q b w) gl gr sl (pc + 3) r else none
    | none => none
  | .ref w :: .ref q :: r => match sh[q]? with
    | some (x, _) => if x = a ∧ c = 2 then go mi ls sh gi gl (u2 gr q b (some w)) sl (pc + 3) r else none
    | none => none
  | _ => none
def s_iald (x : Nat) : Option Cg := match st with
  | .int i :: .ref q :: r => ldI sh x q i (fun j => go mi ls sh gi gl gr sl (pc + 1) (.int (gi q j) :: r))
  | _ => none
def s_lald : Option Cg := match st with
  | .int i :: .ref q :: r => ldI sh 102 q i (fun j => go mi ls sh gi gl gr sl (pc + 1) (.long (gl q j) :: r))
  | _ => none
def s_aald : Option Cg := match st with
  | .int i :: .ref q :: r => match sh[q]? with
    | some (y, _) => if 103 ≤ y ∧ y < 106 then ldI sh y q i (fun j => go mi ls sh gi gl gr sl (pc + 1) (va_rf (gr q j) :: r)) else none
    | none => none
  | _ => none
def s_iast (x : Nat) : Option Cg := match st with
  | .int v :: .int i :: .ref q :: r => if q = 0 ∨ (x = 101 ∧ isB v = false) then none else ldI sh x q i (fun j => go mi ls sh (u2 gi q j v) gl gr sl (pc + 1) r)
  | _ => none
def s_last : Option Cg := match st with
  | .long v :: .int i :: .ref q :: r => if q = 0 then none else ldI sh 102 q i (fun j => go mi ls sh gi (u2 gl q j v) gr sl (pc + 1) r)
  | _ => none
def s_aast : Option Cg := match st with
  | .ref v :: .int i :: .ref q :: r => match sh[q]?, sh[v]? with
    | some (y, _), some (z, _) => if 103 ≤ y ∧ y < 106 ∧ z = elc y then ldI sh y q i (fun j => go mi ls sh gi gl (u2 gr q j (some v)) sl (pc + 1) r) else none
    | _, _ => none
  | _ => none
def s_len : Option Cg := match st with
  | .ref q :: r => match sh[q]? with
    | some (y, n) => if 100 ≤ y ∧ y < 106 then go mi ls sh gi gl gr sl (pc + 1) (.int (Int32.ofNat n) :: r) else none
    | none => none
  | _ => none
def s_newa : Option Cg := match st with
  | .int n :: r => if n < 0 ∨ mxC < sh.length ∨ mxS < sl + n.toNatClampNeg ∨ 2000 < n.toNatClampNeg then none else
      go mi ls (sh ++ [(100 + a, n.toNatClampNeg)]) (rw0 gi sh.length 0) (rw0 gl sh.length 0) (rw0 gr sh.length none) (sl + n.toNatClampNeg) (pc + len) (.ref sh.length :: r)
  | _ => none
def s_new : Option Cg := if mxC < sh.length ∨ mxS < sl + b then none else
    go mi ls (sh ++ [(a, b)]) (rw0 gi sh.length 0) (rw0 gl sh.length 0) (rw0 gr sh.length none) (sl + b) (pc + 3) (.ref sh.length :: st)
def s_thr : Option Out := if mxC < sh.length ∨ mxS < sl + 6 ∨ 8 < wsum st then none else some (.inr (sh.length, a - 900), (sh ++ [(a - 890, 0)], gi, gl, gr), sl + 6)
def s_min : Option Cg := match st with
  | .int y :: .int x :: r => if 8 < wsum r then none else go mi ls sh gi gl gr sl (pc + 3) (.int (if y < x then y else x) :: r)
  | _ => none
def s_copy : Option Cg := match st with
  | .int n :: .int dp :: .ref q' :: .int sp :: .ref q :: r => match sh[q]?, sh[q']? with
    | some (y, m), some (y', m') => if y = 100 ∧ y' = 100 ∧ q ≠ 0 ∧ q' ≠ 0 ∧ ¬ n < 0 ∧ ¬ dp < 0 ∧ ¬ sp < 0 ∧ sp.toNatClampNeg + n.toNatClampNeg ≤ m ∧ dp.toNatClampNeg + n.toNatClampNeg ≤ m' ∧ wsum r ≤ 8 then
        go mi ls sh (cpy2 gi q q' sp.toNatClampNeg dp.toNatClampNeg n.toNatClampNeg) gl gr sl (pc + 3) r else none
    | _, _ => none
  | _ => none
def s_obj : Option Cg := match st with
  | .ref _ :: r => if 8 < wsum r then none else go mi ls sh gi gl gr sl (pc + 3) r
  | _ => none
def s_call (kind : Nat) : Option (Nat × List Value × Cg) := if 9000 ≤ a then none
  else if kind = 0 then (if b ≤ st.length ∧ wsum (st.drop b) ≤ 8 ∧ wsum (st.take b) ≤ mL a then some (a, (st.take b).reverse, (pc, ls, st.drop b, (sh, gi, gl, gr), sl)) else none)
  else match (st.drop b).head? with
    | some (.ref q) => match sh[q]? with
      | some (x, _) => if x = mK a ∧ b ≤ st.length ∧ wsum (st.drop (b + 1)) ≤ 8 ∧ wsum (st.take b) + 1 ≤ mL a then some (a, .ref q :: (st.take b).reverse, (pc, ls, st.drop (b + 1), (sh, gi, gl, gr), sl)) else none
      | none => none
    | _ => none
def s_iret : Option Out := match st with
  | [.int v] => if mZ mi = 1 ∨ (mZ mi = 2 ∧ isB v = true) then some (.inl (some (.int v)), (sh, gi, gl, gr), sl) else none
  | _ => none
def s_aret : Option Out := match st with
  | [.ref q] => if mZ mi = 3 then some (.inl (some (.ref q)), (sh, gi, gl, gr), sl) else none
  | _ => none
def s_vret : Option Out := match st with
  | [] => if mZ mi = 0 then some (.inl none, (sh, gi, gl, gr), sl) else none
  | _ => none
end
def stI (i : Instr) (len a b c : Nat) (mi pc : Nat) (ls : Lc) (st : List Value) (sh : List (Nat × Nat)) (gi : Nat → Nat → Int32) (gl : Nat → Nat → Int64) (gr : Nat → Nat → Option Nat) (sl : Nat) : Option Cg := match i with
  | .iconst n => s_push len mi pc ls st sh gi gl gr sl (.int (Int32.ofInt n))
  | .bipush n => s_push len mi pc ls st sh gi gl gr sl (.int (Int8.ofInt n).toInt32)
  | .sipush n => s_push len mi pc ls st sh gi gl gr sl (.int (Int16.ofInt n).toInt32)
  | .lconst n => s_push len mi pc ls st sh gi gl gr sl (.long (Int64.ofNat (n : Nat)))
  | .iload k => s_iload len mi pc ls st sh gi gl gr sl k
  | .iload_n k => s_iload len mi pc ls st sh gi gl gr sl k.val
  | .aload k => s_aload len mi pc ls st sh gi gl gr sl k
  | .aload_n k => s_aload len mi pc ls st sh gi gl gr sl k.val
  | .istore k => s_istore len mi pc ls st sh gi gl gr sl k
  | .istore_n k => s_istore len mi pc ls st sh gi gl gr sl k.val
  | .astore k => s_astore len mi pc ls st sh gi gl gr sl k
  | .astore_n k => s_astore len mi pc ls st sh gi gl gr sl k.val
  | .iinc k n => s_iinc len mi pc ls st sh gi gl gr sl k n
  | .iadd => s_bin len mi pc ls st sh gi gl gr sl (fun x y => x + y)
  | .isub => s_bin len mi pc ls st sh gi gl gr sl (fun x y => x - y)
  | .imul => s_bin len mi pc ls st sh gi gl gr sl (fun x y => x * y)
  | .iand => s_bin len mi pc ls st sh gi gl gr sl (fun x y => x &&& y)
  | .ior => s_bin len mi pc ls st sh gi gl gr sl (fun x y => x ||| y)
  | .ixor => s_bin len mi pc ls st sh gi gl gr sl (fun x y => x ^^^ y)
  | .ishl => s_bin len mi pc ls st sh gi gl gr sl (fun x y => x <<< (y &&& 31))
  | .ishr => s_bin len mi pc ls st sh gi gl gr sl (fun x y => x >>> (y &&& 31))
  | .idiv => s_div len mi pc ls st sh gi gl gr sl (fun x y => x / y)
  | .irem => s_div len mi pc ls st sh gi gl gr sl (fun x y => x - x / y * y)
  | .i2l => s_i2l len mi pc ls st sh gi gl gr sl
  | .lcmp => s_lcmp len mi pc ls st sh gi gl gr sl
  | .dup => s_dup len mi pc ls st sh gi gl gr sl
  | .dup2 => s_dup2 len mi pc ls st sh gi gl gr sl
  | .pop => s_pop len mi pc ls st sh gi gl gr sl
  | .goto _ => go mi ls sh gi gl gr sl a st
  | .ifCond cc _ => s_if a mi pc ls st sh gi gl gr sl cc
  | .if_icmp cc _ => s_icmp a mi pc ls st sh gi gl gr sl cc
  | .tableswitch d lo hi offs => s_tab mi pc ls st sh gi gl gr sl d lo hi offs
  | .lookupswitch d ps => s_look mi pc ls st sh gi gl gr sl d ps
  | .getfield _ => s_get a b c mi pc ls st sh gi gl gr sl
  | .putfield _ => s_put a b c mi pc ls st sh gi gl gr sl
  | .iaload => s_iald mi pc ls st sh gi gl gr sl 100
  | .baload => s_iald mi pc ls st sh gi gl gr sl 101
  | .laload => s_lald mi pc ls st sh gi gl gr sl
  | .aaload => s_aald mi pc ls st sh gi gl gr sl
  | .iastore => s_iast mi pc ls st sh gi gl gr sl 100
  | .bastore => s_iast mi pc ls st sh gi gl gr sl 101
  | .lastore => s_last mi pc ls st sh gi gl gr sl
  | .aastore => s_aast mi pc ls st sh gi gl gr sl
  | .arraylength => s_len mi pc ls st sh gi gl gr sl
  | .newarray _ => s_newa len a mi pc ls st sh gi gl gr sl
  | .anewarray _ => s_newa len a mi pc ls st sh gi gl gr sl
  | .new _ => if 900 ≤ a then none else s_new a b mi pc ls st sh gi gl gr sl
  | .invokestatic _ => if a = 9002 then s_min mi pc ls st sh gi gl gr sl else if a = 9003 then s_copy mi pc ls st sh gi gl gr sl else none
  | .invokespecial _ => if a = 9001 then s_obj mi pc ls st sh gi gl gr sl else none
  | _ => none
def enI (i : Instr) (a : Nat) (mi : Nat) (st : List Value) (sh : List (Nat × Nat)) (gi : Nat → Nat → Int32) (gl : Nat → Nat → Int64) (gr : Nat → Nat → Option Nat) (sl : Nat) : Option Out := match i with
  | .ireturn => s_iret mi st sh gi gl gr sl
  | .areturn => s_aret mi st sh gi gl gr sl
  | .return_ => s_vret mi st sh gi gl gr sl
  | .new _ => if 900 ≤ a then s_thr a st sh gi gl gr sl else none
  | _ => none
def caI (i : Instr) (a b : Nat) (pc : Nat) (ls : Lc) (st : List Value) (sh : List (Nat × Nat)) (gi : Nat → Nat → Int32) (gl : Nat → Nat → Int64) (gr : Nat → Nat → Option Nat) (sl : Nat) : Option (Nat × List Value × Cg) := match i with
  | .invokestatic _ => s_call a b pc ls st sh gi gl gr sl 0
  | .invokevirtual _ => s_call a b pc ls st sh gi gl gr sl 1
  | .invokespecial _ => s_call a b pc ls st sh gi gl gr sl 2
  | _ => none
def sx (x : Cf) : Option Rs := match x with
  | (mi, pc, ls, st, (sh, gi, gl, gr), sl) => match cd mi pc with
    | some (i, len, a, b, c, _) => match stI i len a b c mi pc ls st sh gi gl gr sl with
      | some y => some (.inl y)
      | none => match enI i a mi st sh gi gl gr sl with
        | some o => some (.inr (.inr o))
        | none => (caI i a b pc ls st sh gi gl gr sl).map (fun q => .inr (.inl q))
    | none => none
def cvr (pc : Nat) (q : Nat × Nat × Nat × Nat) : Bool := decide (q.1 ≤ pc) && decide (pc < q.2.1)
/-- none: stuck; some none: it goes on to the caller; some (some pc'): a handler -/
def hnd (mi pc E : Nat) : Option (Option Nat) := if (hT mi).any (cvr pc) then ((hT mi).find? (fun q => cvr pc q && q.2.2.2 == E)).map (fun q => some q.2.2.1) else some none
def exe : Nat → Cf → Option Out
  | 0, _ => none
  | n + 1, x => match sx x with
    | none => none
    | some (.inl y) => exe n (x.1, y)
    | some (.inr (.inr o)) => some o
    | some (.inr (.inl (mj, as, y))) => match exe n (mj, 0, lv_args 0 as, [], y.2.2.2) with
      | none => none
      | some (.inl v, hs) => exe n (x.1, y.1 + 3, y.2.1, v.toList ++ y.2.2.1, hs)
      | some (.inr (k, E), hs) => match hnd x.1 y.1 E with
        | none => none
        | some none => some (.inr (k, E), hs)
        | some (some pc') => exe n (x.1, pc', y.2.1, [.ref k], hs)
def Ev (x : Cf) (r : Out) : Prop := ∃ n, exe n x = some r
theorem exe_mono : ∀ (n : Nat) (x : Cf) (r : Out), exe n x = some r → exe (n + 1) x = some r := by
  intro n
  induction n with
  | zero => intro x r h; simp [exe] at h
  | succ n ih =>
    intro x r h
    rw [exe] at h ⊢
    cases hs : sx x with
    | none => simp [hs] at h
    | some z =>
      rcases z with y | ⟨mj, as, y⟩ | o
      · simp only [hs] at h ⊢
        exact ih _ _ h
      · simp only [hs] at h ⊢
        cases he : exe n (mj, 0, lv_args 0 as, [], y.2.2.2) with
        | none => simp [he] at h
        | some q =>
          rw [ih _ _ he]
          simp only [he] at h
          rcases q with ⟨v | ⟨k, E⟩, hs'⟩
          · simp only at h ⊢
            exact ih _ _ h
          · simp only at h ⊢
            cases hh : hnd x.1 y.1 E with
            | none => simp [hh] at h
            | some z =>
              cases z with
              | none => simp only [hh] at h ⊢; exact h
              | some pc' => simp only [hh] at h ⊢; exact ih _ _ h
      · simp only [hs] at h ⊢
        exact h
theorem exe_le {n m : Nat} {x : Cf} {r : Out} (h : exe n x = some r) (hm : n ≤ m) : exe m x = some r := by
  induction hm with
  | refl => exact h
  | step _ ih => exact exe_mono _ _ _ ih
theorem Ev.det {x : Cf} {r r' : Out} (h : Ev x r) (h' : Ev x r') : r = r' := by
  obtain ⟨n, h⟩ := h
  obtain ⟨m, h'⟩ := h'
  have h1 := exe_le h (Nat.le_max_left n m)
  have h2 := exe_le h' (Nat.le_max_right n m)
  rw [h1] at h2
  exact Option.some.inj h2
theorem Ev.step {x : Cf} {y : Cg} {r : Out} (h : sx x = some (.inl y)) : Ev x r ↔ Ev (x.1, y) r := by
  constructor
  · rintro ⟨n, hn⟩
    cases n with
    | zero => simp [exe] at hn
    | succ n => rw [exe, h] at hn; exact ⟨n, hn⟩
  · rintro ⟨n, hn⟩
    exact ⟨n + 1, by rw [exe, h]; exact hn⟩
theorem Ev.fin {x : Cf} {r o : Out} (h : sx x = some (.inr (.inr o))) : Ev x r ↔ r = o := by
  constructor
  · rintro ⟨n, hn⟩
    cases n with
    | zero => simp [exe] at hn
    | succ n => rw [exe, h] at hn; exact (Option.some.inj hn).symm
  · rintro rfl
    exact ⟨1, by rw [exe, h]⟩
theorem Ev.call {x : Cf} {y : Cg} {r : Out} {mj : Nat} {as : List Value} {v : Option Value} {hs : Hp × Nat} (h : sx x = some (.inr (.inl (mj, as, y)))) (hc : Ev (mj, 0, lv_args 0 as, [], y.2.2.2) (.inl v, hs)) : Ev x r ↔ Ev (x.1, y.1 + 3, y.2.1, v.toList ++ y.2.2.1, hs) r := by
  obtain ⟨k, hk⟩ := hc
  constructor
  · rintro ⟨n, hn⟩
    have hn' := exe_le hn (Nat.le_max_left n (k + 1))
    have hkM : k + 1 ≤ max n (k + 1) := Nat.le_max_right _ _
    generalize max n (k + 1) = M at hn' hkM
    cases M with
    | zero => omega
    | succ M => rw [exe, h] at hn'; simp only at hn'; rw [exe_le hk (by omega)] at hn'; exact ⟨M, hn'⟩
  · rintro ⟨n, hn⟩
    refine ⟨max n k + 1, ?_⟩
    rw [exe, h]
    simp only
    rw [exe_le hk (Nat.le_max_right _ _)]
    exact exe_le hn (Nat.le_max_left _ _)
theorem Ev.throw {x : Cf} {y : Cg} {mj : Nat} {as : List Value} {k E : Nat} {hs : Hp × Nat} (h : sx x = some (.inr (.inl (mj, as, y)))) (hc : Ev (mj, 0, lv_args 0 as, [], y.2.2.2) (.inr (k, E), hs)) (hh : hnd x.1 y.1 E = some none) : Ev x (.inr (k, E), hs) := by
  obtain ⟨n, hn⟩ := hc
  exact ⟨n + 1, by rw [exe, h]; simp only; rw [hn]; simp only [hh]⟩
theorem Ev.caught {x : Cf} {y : Cg} {r : Out} {mj : Nat} {as : List Value} {k E pc' : Nat} {hs : Hp × Nat} (h : sx x = some (.inr (.inl (mj, as, y)))) (hc : Ev (mj, 0, lv_args 0 as, [], y.2.2.2) (.inr (k, E), hs)) (hh : hnd x.1 y.1 E = some (some pc')) (hr : Ev (x.1, pc', y.2.1, [.ref k], hs) r) : Ev x r := by
  obtain ⟨n, hn⟩ := hc
  obtain ⟨n', hn'⟩ := hr
  refine ⟨max n n' + 1, ?_⟩
  rw [exe, h]
  simp only
  rw [exe_le hn (Nat.le_max_left _ _)]
  simp only [hh]
  exact exe_le hn' (Nat.le_max_right _ _)
