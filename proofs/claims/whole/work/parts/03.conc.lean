/-! from the small heap to the machine's: addresses, values, the world as a list; what holds at an activation's start -/
def ad (b base : Nat) : Nat → Nat
  | 0 => b
  | k + 1 => base + k
def cv (b base : Nat) (v : Value) : Value := match v with
  | .ref k => .ref (ad b base k)
  | v => v
theorem cv_cat (b base : Nat) (v : Value) : (cv b base v).category = v.category := by cases v <;> rfl
theorem cv_sum (b base : Nat) (st : List Value) : ((st.map (cv b base)).map fun v => v.category).sum = wsum st := by
  simp only [wsum, List.map_map]
  congr 1
  apply List.map_congr_left
  intro v _
  exact cv_cat b base v
theorem cv_rf (b base : Nat) (o : Option Nat) : cv b base (va_rf o) = va_rf (o.map (ad b base)) := by cases o <;> rfl
def kKd (x : Nat) : List Nat := kKl.getD x []
def fldv (b base : Nat) (x : Nat) (gi : Nat → Nat → Int32) (gr : Nat → Nat → Option Nat) (k : Nat) : List Value :=
  (List.range (kKd x).length).map (fun j => if (kKd x).getD j 0 = 2 then va_rf ((gr k j).map (ad b base)) else .int (gi k j))
def cel (aC : Nat → ClassId) (b base : Nat) (gi : Nat → Nat → Int32) (gl : Nat → Nat → Int64) (gr : Nat → Nat → Option Nat) (k : Nat) (z : Nat × Nat) : va_E :=
  if z.1 < 100 then .inr (z.1, fldv b base z.1 gi gr k)
  else .inl (aC (z.1 - 100), z.2, if z.1 = 102 then .inr (.inl (gl k)) else if 103 ≤ z.1 then .inr (.inr (.inr (.inr (fun j => (gr k j).map (ad b base))))) else .inl (gi k))
theorem cel_congr {aC : Nat → ClassId} {b base : Nat} {gi gi' : Nat → Nat → Int32} {gl gl' : Nat → Nat → Int64} {gr gr' : Nat → Nat → Option Nat} {k : Nat} (h1 : gi' k = gi k) (h2 : gl' k = gl k) (h3 : gr' k = gr k) (z : Nat × Nat) : cel aC b base gi' gl' gr' k z = cel aC b base gi gl gr k z := by
  simp only [cel, fldv, h1, h2, h3]
def wld (aC : Nat → ClassId) (b base : Nat) (sh : List (Nat × Nat)) (gi : Nat → Nat → Int32) (gl : Nat → Nat → Int64) (gr : Nat → Nat → Option Nat) : va_W :=
  (List.range (sh.length - 1)).map (fun i => (base + i, cel aC b base gi gl gr (i + 1) (sh.getD (i + 1) (0, 0))))
section
variable {aC : Nat → ClassId} {b base : Nat} {sh : List (Nat × Nat)} {gi gi' : Nat → Nat → Int32} {gl gl' : Nat → Nat → Int64} {gr gr' : Nat → Nat → Option Nat}
theorem wld_len : (wld aC b base sh gi gl gr).length = sh.length - 1 := by simp [wld]
theorem wld_get {q : Nat} (h : q < sh.length - 1) : (wld aC b base sh gi gl gr)[q]? = some (base + q, cel aC b base gi gl gr (q + 1) (sh.getD (q + 1) (0, 0))) := by
  simp [wld, List.getElem?_map, List.getElem?_range h]
theorem wld_at {q : Nat} {z : Nat × Nat} (h : sh[q + 1]? = some z) : (wld aC b base sh gi gl gr)[q]? = some (base + q, cel aC b base gi gl gr (q + 1) z) := by
  have hl := (List.getElem?_eq_some_iff.mp h).1
  rw [wld_get (by omega)]
  simp [List.getD_eq_getElem?_getD, h]
theorem wld_inv {q : Nat} {y : Nat × va_E} (h : (wld aC b base sh gi gl gr)[q]? = some y) : q < sh.length - 1 ∧ y = (base + q, cel aC b base gi gl gr (q + 1) (sh.getD (q + 1) (0, 0))) := by
  have hl := (List.getElem?_eq_some_iff.mp h).1
  rw [wld_len] at hl
  rw [wld_get hl] at h
  exact ⟨hl, (Option.some.inj h).symm⟩
theorem wld_set {q : Nat} {z : Nat × Nat} (hz : sh[q + 1]? = some z) (h1 : ∀ k, k ≠ q + 1 → gi' k = gi k) (h2 : ∀ k, k ≠ q + 1 → gl' k = gl k) (h3 : ∀ k, k ≠ q + 1 → gr' k = gr k) : (wld aC b base sh gi gl gr).set q (base + q, cel aC b base gi' gl' gr' (q + 1) z) = wld aC b base sh gi' gl' gr' := by
  have hl := (List.getElem?_eq_some_iff.mp hz).1
  apply List.ext_getElem?
  intro i
  by_cases hi : i < sh.length - 1
  · by_cases hq : i = q
    · subst hq
      rw [List.getElem?_set_self (by rw [wld_len]; exact hi), wld_at hz]
    · rw [List.getElem?_set_ne (Ne.symm hq), wld_get hi, wld_get hi, cel_congr (h1 _ (by omega)) (h2 _ (by omega)) (h3 _ (by omega))]
  · rw [List.getElem?_eq_none (by rw [List.length_set, wld_len]; omega), List.getElem?_eq_none (by rw [wld_len]; omega)]
theorem wld_app {z : Nat × Nat} (h0 : 0 < sh.length) (h1 : ∀ k, k ≠ sh.length → gi' k = gi k) (h2 : ∀ k, k ≠ sh.length → gl' k = gl k) (h3 : ∀ k, k ≠ sh.length → gr' k = gr k) : wld aC b base (sh ++ [z]) gi' gl' gr' = wld aC b base sh gi gl gr ++ [(base + (sh.length - 1), cel aC b base gi' gl' gr' sh.length z)] := by
  apply List.ext_getElem?
  intro i
  by_cases hi : i < sh.length - 1
  · rw [List.getElem?_append_left (by rw [wld_len]; exact hi), wld_get hi, wld_get (by simp; omega), cel_congr (h1 _ (by omega)) (h2 _ (by omega)) (h3 _ (by omega))]
    simp only [List.getD_eq_getElem?_getD]
    rw [List.getElem?_append_left (by omega)]
  · by_cases hq : i = sh.length - 1
    · subst hq
      have e1 : sh.length - 1 + 1 = sh.length := by omega
      rw [List.getElem?_append_right (by rw [wld_len]; exact Nat.le_refl _), wld_len, Nat.sub_self, wld_get (by simp; omega), e1]
      simp
    · rw [List.getElem?_eq_none (by rw [wld_len]; simp; omega), List.getElem?_eq_none (by simp [wld_len]; omega)]
theorem wld_D : va_D (fun q => base ≤ q) (wld aC b base sh gi gl gr) := by
  refine ⟨fun i j x y hi hj hxy => ?_, fun k q hk => ?_⟩
  · rw [(wld_inv hi).2, (wld_inv hj).2] at hxy
    have : base + i = base + j := hxy
    omega
  · rw [(wld_inv hk).2]
    exact Nat.le_add_right _ _
end
theorem u2_ne {α : Type} (g : Nat → Nat → α) {q : Nat} (j : Nat) (v : α) : ∀ k, k ≠ q → u2 g q j v k = g k := by
  intro k h
  funext b
  simp [u2, h]
theorem rw0_ne {α : Type} (g : Nat → Nat → α) {q : Nat} (v : α) : ∀ k, k ≠ q → rw0 g q v k = g k := by
  intro k h
  funext b
  simp [rw0, h]
theorem rw0_eq {α : Type} (g : Nat → Nat → α) (q : Nat) (v : α) : rw0 g q v q = fun _ => v := by
  funext b
  simp [rw0]
theorem cpy2_ne (g : Nat → Nat → Int32) (k : Nat) {q : Nat} (sp dp n : Nat) : ∀ a, a ≠ q → cpy2 g k q sp dp n a = g a := by
  intro a h
  funext b
  simp [cpy2, h]
/-- D, array numbers, script's address, base, script's length, script -/
abbrev Wd : Type := va_G × (Nat → ClassId) × Nat × Nat × Nat × (Nat → Int32)
abbrev Wd.D (w : Wd) : va_G := w.1
abbrev Wd.aC (w : Wd) : Nat → ClassId := w.2.1
abbrev Wd.b (w : Wd) : Nat := w.2.2.1
abbrev Wd.base (w : Wd) : Nat := w.2.2.2.1
abbrev Wd.L (w : Wd) : Nat := w.2.2.2.2.1
abbrev Wd.xs (w : Wd) : Nat → Int32 := w.2.2.2.2.2
/-- the small heap and the machine's -/
def HR (w : Wd) (h : Hp) (H : Heap) : Prop := 0 < h.1.length ∧ va_P w.D kCl (wld w.aC w.b w.base h.1 h.2.1 h.2.2.1 h.2.2.2) H ∧ h.1[0]? = some (100, w.L) ∧ ∀ j, j < w.L → h.2.1 0 j = w.xs j
theorem HR.low {w : Wd} {h : Hp} {H : Heap} (hr : HR w h H) (hb : w.base ≤ H.size) : w.base + (h.1.length - 1) ≤ H.size := by
  obtain ⟨h0, h2, -, -⟩ := hr
  by_cases h1 : h.1.length = 1
  · omega
  · have h3 := (h2 (h.1.length - 2) _ (wld_get (by omega))).lt
    have h4 : w.base + (h.1.length - 2) < H.size := h3
    omega
theorem at_plain {D : va_G} {cl : List vw_C} {q : Nat} {z : va_E} {H : Heap} {cell : Cell} (h : va_at D cl (q, z) H) (hc : H[q]? = some cell) : cell.vm = .none := by
  rcases z with ⟨cA, n, f | f | f | f | f⟩ | ⟨o, fs⟩
  · have e2 : H[q]? = some (vp_cell cA (n, .inl f)) := h
    rw [hc] at e2
    rw [Option.some.inj e2]
    rfl
  · have e2 : H[q]? = some (vp_cell cA (n, .inr (.inl f))) := h
    rw [hc] at e2
    rw [Option.some.inj e2]
    rfl
  · have e2 : H[q]? = some (vp_cell cA (n, .inr (.inr (.inl f)))) := h
    rw [hc] at e2
    rw [Option.some.inj e2]
    rfl
  · have e2 : H[q]? = some (vp_cell cA (n, .inr (.inr (.inr (.inl f))))) := h
    rw [hc] at e2
    rw [Option.some.inj e2]
    rfl
  · have e2 : H[q]? = some (vp_cell cA (n, .inr (.inr (.inr (.inr f))))) := h
    rw [hc] at e2
    rw [Option.some.inj e2]
    rfl
  · obtain ⟨r, -, cell', g1, -, g3, -⟩ := h
    have g1' : H[q]? = some cell' := g1
    rw [hc] at g1'
    rw [Option.some.inj g1']
    exact g3
theorem HR.plain {w : Wd} {h : Hp} {H : Heap} (hr : HR w h H) (h1 : H.size = w.base + (h.1.length - 1)) : ∀ (q : Nat) (cell : Cell), w.base ≤ q → H[q]? = some cell → cell.vm = .none := by
  intro q cell hq hc
  have hl := (Array.getElem?_eq_some_iff.mp hc).1
  have h3 := hr.2.1 (q - w.base) _ (wld_get (by omega))
  have e : w.base + (q - w.base) = q := by omega
  rw [e] at h3
  exact at_plain h3 hc
/-- a word that stays true while the tables grow warmer, whatever the arguments and the heap -/
def okw (w : Cond) : Bool := match w with
  | .methodLinkNest .. => true
  | .castable .. => true
  | .declares _ => true
  | .arrayOver (.object _) => true
  | .stringRef .. => true
  | w => goodWord w
theorem okw_at {w : Cond} {s U : State} {a a' : Array Value} (hW : s.WarmedH U.vm) (hk : okw w = true) (h : w.before a s = true) : w.before a' U = true := by
  unfold okw at hk
  split at hk
  · exact va_Nw.use rfl (va_Nw.warmM hW (va_Nw.of rfl h))
  · exact va_Nw.use rfl (va_Nw.warmC hW (va_Nw.of rfl h))
  · exact va_Nw.use rfl (va_Nw.warmD hW (va_Nw.of rfl h))
  · exact va_AO.use (va_AO.moved hW.alike (va_AO.of h))
  · have h1 := Cond.stringRef_warmed hW h
    simp only [Cond.before, Cond.holds, Cond.value, State.names, State.poolOf?, State.resolvedAt?, State.vm_setVm] at h1 ⊢
    exact h1
  · exact word_at hW (good_of_word hk) h
/-- a static field that holds a reference or null, its cell below base -/
def ZL (C n d : String) (base : Nat) (U : State) (H : Heap) : Prop := ∃ (c : ClassId) (k : Class) (i : Nat) (f : Field) (a : Nat) (cell : Cell) (v : Value), U.vm.findClass C = some c ∧ U.fieldFound? C n d = some (c, k, i, f) ∧ f.isStatic = true ∧ k.statics = some a ∧ H[a]? = some cell ∧ cell.vm.isStatics = true ∧ cell.cls = c ∧ f.slot < cell.slots.size ∧ k.staticTypes[f.slot]? = some f.type ∧ cell.slots[f.slot]? = some v ∧ v.isRef = true ∧ a < base
theorem ZL.moved {C n d : String} {base : Nat} {u U : State} {H H' : Heap} (hvm : u.vm.Alike U.vm) (hq : ∀ a, a < base → H'[a]? = H[a]?) (h : ZL C n d base u H) : ZL C n d base U H' := by
  obtain ⟨c, k, i, f, a, cell, v, h1, h2, h3, h4, h5, h6, h7, h8, h9, h10, h11, h12⟩ := h
  obtain ⟨k', hi', he⟩ := State.fieldFound?_setVm hvm h2
  exact ⟨c, k', i, f, a, cell, v, by rw [hvm.findClass]; exact h1, hi', h3, by rw [he]; exact h4, by rw [hq a h12]; exact h5, h6, h7, h8, by rw [he]; exact h9, h10, h11, h12⟩
theorem ZL.lay {C n d : String} {base : Nat} {U : State} {args : Array Value} (h : ZL C n d base U U.heap) : (Cond.laysStatic C n d).before args U = true := by
  obtain ⟨c, k, i, f, a, cell, v, h1, h2, h3, h4, h5, h6, h7, h8, h9, h10, h11, h12⟩ := h
  exact Cond.laysStatic_of h1 h2 h3 h4 h5 h6 h7 h8 h9
theorem ZL.ref {C n d : String} {base : Nat} {U : State} {args : Array Value} (h : ZL C n d base U U.heap) : (Cond.isRef (.static C n d)).before args U = true := by
  obtain ⟨c, k, i, f, a, cell, v, h1, h2, h3, h4, h5, h6, h7, h8, h9, h10, h11, h12⟩ := h
  have he : (Term.static C n d).eval args U none [] U = some v := by
    simp [Term.eval, State.fieldNamed?, h2, h3, h4, h5, h6, h10]
  simp only [Cond.before, Cond.holds, Cond.value, he]
  cases v <;> simp_all [Value.isRef]
theorem ZL.of {C n d : String} {base : Nat} {s : State} {args : Array Value} (hb : s.heap.size ≤ base) (hl : (Cond.laysStatic C n d).before args s = true) (hr : (Cond.isRef (.static C n d)).before args s = true) : ZL C n d base s s.heap := by
  obtain ⟨c, k, i, f, a, cell, h1, h2, h3, h4, h5, h6, h7, h8, h9⟩ := Cond.laysStatic_spec hl
  have hlt : a < s.heap.size := (Array.getElem?_eq_some_iff.mp h5).1
  have hv : cell.slots[f.slot]? = some cell.slots[f.slot] := Array.getElem?_eq_getElem h8
  have he : (Term.static C n d).eval args s none [] s = some cell.slots[f.slot] := by
    simp [Term.eval, State.fieldNamed?, h2, h3, h4, h5, h6, hv]
  refine ⟨c, k, i, f, a, cell, cell.slots[f.slot], h1, h2, h3, h4, h5, h6, h7, h8, h9, hv, ?_, Nat.lt_of_lt_of_le hlt hb⟩
  simp only [Cond.before, Cond.holds, Cond.value, he] at hr
  revert hr
  cases cell.slots[f.slot] <;> simp [Value.isRef]
/-- one name can't be cast to another -/
def NCs (A B : String) (U : State) : Prop := ∃ x y : ClassId, U.vm.findClass A = some x ∧ U.vm.findClass B = some y ∧ U.vm.assignable x y = false
theorem NCs.moved {A B : String} {u U : State} (hvm : u.vm.Alike U.vm) (h : NCs A B u) : NCs A B U := by
  obtain ⟨x, y, h1, h2, h3⟩ := h
  exact ⟨x, y, by rw [hvm.findClass]; exact h1, by rw [hvm.findClass]; exact h2, by rw [hvm.assignable]; exact h3⟩
theorem NCs.of {A B : String} {s : State} {args : Array Value} (h : (Cond.not (.castable A B)).before args s = true) : NCs A B s := by
  have hv := Cond.holds_not_iff.mp h
  simp only [Cond.value] at hv
  cases h1 : s.vm.findClass A with
  | none => simp [h1] at hv
  | some x =>
    cases h2 : s.vm.findClass B with
    | none => simp [h1, h2] at hv
    | some y => exact ⟨x, y, h1, h2, by simpa [h1, h2] using hv⟩
def tyl (aC : Nat → ClassId) : List (ClassId × FieldType) := (aC 0, .int) :: (aC 1, .boolean) :: (aC 2, .long) :: (List.range arN.length).map (fun j => (aC (3 + j), .object (arN.getD j "")))
def exN (E : Nat) : String := exL.getD E ""
/-- what holds at every activation's start -/
def Cx (w : Wd) (s : State) : Prop := (∀ z, z ∈ lw_tbl → okw z = true → ∀ a : Array Value, z.before a s = true) ∧ va_K w.D kCl (tyl w.aC) s ∧ va_X w.b w.L w.xs s s.heap ∧ w.b < w.base ∧ w.base ≤ s.heap.size ∧
  (∀ (q : Nat) (cell : Cell), w.base ≤ q → s.heap[q]? = some cell → cell.vm = .none) ∧ ZL Bundle.tN "UNASSIGNED_STACK" Bundle.steD w.base s s.heap ∧ ZL Bundle.tN "SUPPRESSED_SENTINEL" Bundle.listD w.base s s.heap ∧
  ∀ i, i < 3 → ∀ j, j < 3 → i ≠ j → NCs (exN i) (exN j) s
theorem Cx.moved {w : Wd} {s U : State} {h : Hp} (C : Cx w s) (hW : s.WarmedH U.vm) (hr : HR w h U.heap) (hz : U.heap.size = w.base + (h.1.length - 1)) (hq : ∀ a, a < w.base → U.heap[a]? = s.heap[a]?) : Cx w U := by
  obtain ⟨c1, c2, c3, c4, c5, c6, c7, c8, c9⟩ := C
  refine ⟨fun z hz hk a => okw_at hW hk (c1 z hz hk #[]), c2.moved hW.alike, (c3.kept (hq _ c4)).moved hW.alike, c4, by rw [hz]; exact Nat.le_add_right _ _, hr.plain hz, c7.moved hW.alike hq, c8.moved hW.alike hq, fun i hi j hj hij => (c9 i hi j hj hij).moved hW.alike⟩
def wAt (p : Nat) (w : Cond) : Bool := decide (lw_tbl[p]? = some w)
theorem Cx.wd {w : Wd} {s : State} (C : Cx w s) {p : Nat} {z : Cond} (hp : wAt p z = true) (hk : okw z = true) (a : Array Value) : z.before a s = true :=
  C.1 z (List.mem_of_getElem? (of_decide_eq_true hp)) hk a
def tbG : List Cond := lw_tbl.filter okw
theorem Cx.tb {w : Wd} {s : State} (C : Cx w s) (a : Array Value) : ∀ z ∈ tbG, z.before a s = true := fun z hz => C.1 z (List.mem_filter.mp hz).1 (List.mem_filter.mp hz).2 a
