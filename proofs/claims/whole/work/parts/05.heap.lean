/-! the instructions that read or write cells, or make them -/
def okF (mi ix a b c p : Nat) : Bool := match kCl[a]? with
  | some (C, T, N) => decide (a < 10) && decide (b < N) && decide ((T b).1 = C) && decide (c = (kKd a).getD b 0) && wAt p (.fieldLink (mY mi).cls ix C (T b).2.1 (T b).2.2.1)
  | none => false
def okP (mi a b : Nat) : Bool := match kCl[a]? with
  | some (_, T, _) => (T b).2.2.2 == false || (decide ((mY mi).name = "<init>") && decide ((T b).1 = (mY mi).cls))
  | none => false
theorem isB_nar {v : Int32} (h : isB v = true) : narrow .boolean (.int v) = .int v := by
  unfold isB at h
  rw [Bool.or_eq_true, beq_iff_eq, beq_iff_eq] at h
  rcases h with rfl | rfl <;> rfl
theorem isB_fits {v : Int32} (h : isB v = true) : fits .boolean (.int v) = true := by
  unfold isB at h
  rw [Bool.or_eq_true, beq_iff_eq, beq_iff_eq] at h
  rcases h with rfl | rfl <;> rfl
theorem isB_vp {v : Int32} (h : isB v = true) : vp_nar .boolean v = v := by
  unfold vp_nar
  rw [isB_nar h]
section
variable {p : Program} {l : Launch} {e : Env} {R : Room} {s : State} {m : MethodId} {args : Array Value} {below : List Frame} {meth : Method} {c : Code} {Q : State → Prop}
variable {w : Wd} {mi sh0 sl0 pc : Nat} {lc : Lc} {st : List Value} {sh : List (Nat × Nat)} {gi : Nat → Nat → Int32} {gl : Nat → Nat → Int64} {gr : Nat → Nat → Option Nat} {sl : Nat} {H : Heap} {locs : List Loc} {ls : Array Slot} {y : Cg}
theorem ne0 {h : Hp} (hr : HR w h H) {q x n : Nat} (hq : h.1[q]? = some (x, n)) (hx : x ≠ 100) : ∃ k, q = k + 1 := by
  cases q with
  | zero =>
    rw [hr.2.2.1] at hq
    exact absurd (Prod.mk.inj (Option.some.inj hq)).1.symm hx
  | succ k => exact ⟨k, rfl⟩
theorem so_get {ix a b k z : Nat} (hK9 : ∀ x, x < 10 → okK x = true) (B : Bx p l R s m meth c w mi sh0 sl0) (hdg : decode (mB mi) pc = .ok (.getfield ix, 3)) (ho : okF mi ix a b k z = true) (h : s_get a b k mi pc lc st sh gi gl gr sl = some y) (I : In w s sh0 sl0 mi lc (sh, gi, gl, gr) sl H locs ls) (K : KK p l e R s m args below meth c w sh0 sl0 Q (mi, y)) : W p l e R s m args below meth c H locs (sh.length - sh0) (sl - sl0) Q (F0 m pc ls (st.map (cv w.b w.base))) := by
  obtain ⟨hx, -, C, M, -, -, -⟩ := B
  unfold s_get at h
  split at h
  · rename_i q r
    split at h
    · rename_i x n hq
      split at h
      · rename_i hxa
        subst hxa
        unfold okF at ho
        split at ho
        · rename_i Cn T N hc
          simp only [Bool.and_eq_true, decide_eq_true_eq] at ho
          obtain ⟨⟨⟨⟨o1, o2⟩, o3⟩, o4⟩, o5⟩ := ho
          obtain ⟨q, rfl⟩ := ne0 I.1 hq (by omega)
          obtain ⟨k1, k2, k3, k4, k5, -, -⟩ := okK_spec hc (hK9 x o1)
          obtain rfl := go_inv h
          have hv := fldv_get (gi := gi) (gr := gr) w.b w.base x (q + 1) (j := b) (by omega)
          rw [← o4] at hv
          refine va_get (ref := Cn) hx M.2.1 (C.tb args) k5 M.1 C.2.1 I.1.2.1 q (wo (by omega) hq) hc b o2 (C.wd o5 rfl args) (fun z hz => by rw [o3] at hz; exact hz) hv hdg ?_
          have := K H locs ls I
          have e1 : cv w.b w.base (if k = 2 then va_rf (gr (q + 1) b) else .int (gi (q + 1) b)) = if k = 2 then va_rf ((gr (q + 1) b).map (ad w.b w.base)) else .int (gi (q + 1) b) := by
            split
            · exact cv_rf _ _ _
            · rfl
          simp only [List.map_cons, e1] at this
          exact this
        · cases ho
      · cases h
    · cases h
  · cases h
theorem so_put {ix a b k z : Nat} (hK9 : ∀ x, x < 10 → okK x = true) (B : Bx p l R s m meth c w mi sh0 sl0) (hdg : decode (mB mi) pc = .ok (.putfield ix, 3)) (ho : okF mi ix a b k z = true) (hp : okP mi a b = true) (h : s_put a b k mi pc lc st sh gi gl gr sl = some y) (I : In w s sh0 sl0 mi lc (sh, gi, gl, gr) sl H locs ls) (K : KK p l e R s m args below meth c w sh0 sl0 Q (mi, y)) : W p l e R s m args below meth c H locs (sh.length - sh0) (sl - sl0) Q (F0 m pc ls (st.map (cv w.b w.base))) := by
  obtain ⟨hx, -, C, M, -, -, -⟩ := B
  unfold okF at ho
  unfold okP at hp
  split at ho
  · rename_i Cn T N hc
    rw [hc] at hp
    simp only [Bool.and_eq_true, Bool.or_eq_true, decide_eq_true_eq, beq_iff_eq] at ho hp
    obtain ⟨⟨⟨⟨o1, o2⟩, o3⟩, o4⟩, o5⟩ := ho
    obtain ⟨k1, k2, k3, k4, k5, -, -⟩ := okK_spec hc (hK9 a o1)
    have hl := C.wd o5 rfl args
    have hsame : ∀ z, s.fieldFound? (T b).1 (T b).2.1 (T b).2.2.1 = some z → s.fieldFound? Cn (T b).2.1 (T b).2.2.1 = some z := fun z hz => by rw [o3] at hz; exact hz
    have hk3 := (k3 b o2).1
    rw [← o4] at hk3
    have main : ∀ (q n : Nat) (v : Value) (gi' : Nat → Nat → Int32) (gr' : Nat → Nat → Option Nat) (r : List Value), sh[q + 1]? = some (a, n) → narrow (kYd a b) v = v → fits (kYd a b) v = true → (fldv w.b w.base a gi gr (q + 1)).set b v = fldv w.b w.base a gi' gr' (q + 1) → (∀ i, i ≠ q + 1 → gi' i = gi i) → (∀ i, i ≠ q + 1 → gr' i = gr i) →
        KK p l e R s m args below meth c w sh0 sl0 Q (mi, pc + 3, lc, r, (sh, gi', gl, gr'), sl) → W p l e R s m args below meth c H locs (sh.length - sh0) (sl - sl0) Q (F0 m pc ls (v :: .ref (w.base + q) :: r.map (cv w.b w.base))) := by
      intro q n v gi' gr' r hq hn hf hset h1 h3 K'
      have fin : ∀ (H1 : Heap) (locs1 : List Loc), va_P w.D kCl ((wld w.aC w.b w.base sh gi gl gr).set q (w.base + q, .inr (a, (fldv w.b w.base a gi gr (q + 1)).set b v))) H1 → va_D (fun q => w.base ≤ q) ((wld w.aC w.b w.base sh gi gl gr).set q (w.base + q, .inr (a, (fldv w.b w.base a gi gr (q + 1)).set b v))) → va_S (fun q => w.base ≤ q) s.heap H1 locs1 →
          W p l e R s m args below meth c H1 locs1 (sh.length - sh0) (sl - sl0) Q (F0 m (pc + 3) ls (r.map (cv w.b w.base))) := fun H1 locs1 hP _ hS =>
        K' H1 locs1 ls ⟨I.1.wrote hq h1 (fun _ _ => rfl) h3 (by rw [hset, cel_o (by omega)]) hP, hS, I.2.2⟩
      rcases hp with hp | ⟨hp1, hp2⟩
      · exact va_put (ref := Cn) (own := (mY mi).cls) hx M.2.1 (C.tb args) k5 (kYd a) k2 k4 M.1 C.2.1 I.1.2.1 wld_D I.2.1 q (wo (by omega) hq) hc b o2 hl hsame hp (k2 b o2) hn hf (by rw [fldv_len]; omega) hdg fin
      · by_cases hfin : (T b).2.2.2 = true
        · exact va_putF (ref := Cn) (own := (mY mi).cls) hx M.2.1 (C.tb args) k5 (kYd a) k2 k4 M.1 C.2.1 I.1.2.1 wld_D I.2.1 q (wo (by omega) hq) hc b o2 hl hsame hfin (by rw [M.2.2.2.2.2.1]; exact hp1) hp2 (k2 b o2) hn hf (by rw [fldv_len]; omega) hdg fin
        · exact va_put (ref := Cn) (own := (mY mi).cls) hx M.2.1 (C.tb args) k5 (kYd a) k2 k4 M.1 C.2.1 I.1.2.1 wld_D I.2.1 q (wo (by omega) hq) hc b o2 hl hsame (by simpa using hfin) (k2 b o2) hn hf (by rw [fldv_len]; omega) hdg fin
    unfold s_put at h
    split at h
    · rename_i v q r
      split at h
      · rename_i x n hq
        split at h
        · rename_i hcs
          obtain ⟨rfl, hcs⟩ := hcs
          obtain rfl := go_inv h
          obtain ⟨q, rfl⟩ := ne0 I.1 hq (by omega)
          have hk2 : (kKd x).getD b 0 ≠ 2 := by rw [← o4]; rcases hcs with q | q <;> omega
          refine main q n (.int v) _ gr r hq ?_ ?_ (fldv_setI _ _ _ _ (by omega) hk2 v) (u2_ne gi b v) (fun _ _ => rfl) K
          · rcases hcs with hz | ⟨hz, hB⟩
            · rw [hz] at hk3
              revert hk3
              cases kYd x b <;> intro hk3 <;> first | rfl | (simp [kty] at hk3)
            · rw [hz] at hk3
              revert hk3
              cases kYd x b <;> intro hk3 <;> first | exact isB_nar hB | (simp [kty] at hk3)
          · rcases hcs with hz | ⟨hz, hB⟩
            · rw [hz] at hk3
              revert hk3
              cases kYd x b <;> intro hk3 <;> first | rfl | (simp [kty] at hk3)
            · rw [hz] at hk3
              revert hk3
              cases kYd x b <;> intro hk3 <;> first | exact isB_fits hB | (simp [kty] at hk3)
        · cases h
      · cases h
    · rename_i v q r
      split at h
      · rename_i x n hq
        split at h
        · rename_i hcs
          obtain ⟨rfl, hcs⟩ := hcs
          obtain rfl := go_inv h
          obtain ⟨q, rfl⟩ := ne0 I.1 hq (by omega)
          have hk2 : (kKd x).getD b 0 = 2 := by rw [← o4]; exact hcs
          refine main q n (.ref (ad w.b w.base v)) gi _ r hq ?_ ?_ (fldv_setR _ _ _ _ (by omega) hk2 v) (fun _ _ => rfl) (u2_ne gr b (some v)) K
          · rw [hcs] at hk3
            revert hk3
            cases kYd x b <;> intro hk3 <;> first | rfl | (simp [kty] at hk3)
          · rw [hcs] at hk3
            revert hk3
            cases kYd x b <;> intro hk3 <;> first | rfl | (simp [kty] at hk3)
        · cases h
      · cases h
    · cases h
  · cases ho
theorem so_iald (B : Bx p l R s m meth c w mi sh0 sl0) (hdg : decode (mB mi) pc = .ok (.iaload, 1)) (h : s_iald mi pc lc st sh gi gl gr sl 100 = some y) (I : In w s sh0 sl0 mi lc (sh, gi, gl, gr) sl H locs ls) (K : KK p l e R s m args below meth c w sh0 sl0 Q (mi, y)) : W p l e R s m args below meth c H locs (sh.length - sh0) (sl - sl0) Q (F0 m pc ls (st.map (cv w.b w.base))) := by
  obtain ⟨hx, -, C, M, -, -, -⟩ := B
  unfold s_iald at h
  split at h
  · rename_i i q r
    obtain ⟨n, hq, hin, h⟩ := ldI_inv h
    obtain rfl := go_inv h
    cases q with
    | zero =>
      have e9 := hq
      rw [I.1.2.2.1] at e9
      have e2 : w.L = n := (Prod.mk.inj (Option.some.inj e9)).2
      subst e2
      have hlt : i.toNatClampNeg < w.L := Nat.not_le.mp fun q => hin (Or.inr q)
      have e3 : gi 0 i.toNatClampNeg = w.xs i.toNatClampNeg := I.1.2.2.2 _ hlt
      have this : W p l e R s m args below meth c H locs (sh.length - sh0) (sl - sl0) Q (F0 m (pc + 1) ls (.int (gi 0 i.toNatClampNeg) :: r.map (cv w.b w.base))) := K H locs ls I
      rw [e3] at this
      exact va_sld hx M.2.1 C.2.2.1 (Nat.lt_of_lt_of_le C.2.2.2.1 C.2.2.2.2.1) (Nat.not_le.mpr C.2.2.2.1) I.2.1 hin hdg this
    | succ q => exact va_iald hx M.2.1 C.2.1 I.1.2.1 q 0 (wi hq) (tyl0 _) hin hdg (K H locs ls I)
  · cases h
theorem so_zald (B : Bx p l R s m meth c w mi sh0 sl0) (hdg : decode (mB mi) pc = .ok (.baload, 1)) (h : s_iald mi pc lc st sh gi gl gr sl 101 = some y) (I : In w s sh0 sl0 mi lc (sh, gi, gl, gr) sl H locs ls) (K : KK p l e R s m args below meth c w sh0 sl0 Q (mi, y)) : W p l e R s m args below meth c H locs (sh.length - sh0) (sl - sl0) Q (F0 m pc ls (st.map (cv w.b w.base))) := by
  obtain ⟨hx, -, C, M, -, -, -⟩ := B
  unfold s_iald at h
  split at h
  · rename_i i q r
    obtain ⟨n, hq, hin, h⟩ := ldI_inv h
    obtain rfl := go_inv h
    obtain ⟨q, rfl⟩ := ne0 I.1 hq (by omega)
    exact va_zald hx M.2.1 C.2.1 I.1.2.1 q 1 (wz hq) (tyl1 _) hin hdg (K H locs ls I)
  · cases h
theorem so_lald (B : Bx p l R s m meth c w mi sh0 sl0) (hdg : decode (mB mi) pc = .ok (.laload, 1)) (h : s_lald mi pc lc st sh gi gl gr sl = some y) (I : In w s sh0 sl0 mi lc (sh, gi, gl, gr) sl H locs ls) (K : KK p l e R s m args below meth c w sh0 sl0 Q (mi, y)) : W p l e R s m args below meth c H locs (sh.length - sh0) (sl - sl0) Q (F0 m pc ls (st.map (cv w.b w.base))) := by
  obtain ⟨hx, -, C, M, -, -, -⟩ := B
  unfold s_lald at h
  split at h
  · rename_i i q r
    obtain ⟨n, hq, hin, h⟩ := ldI_inv h
    obtain rfl := go_inv h
    obtain ⟨q, rfl⟩ := ne0 I.1 hq (by omega)
    exact va_lald hx M.2.1 C.2.1 I.1.2.1 q 2 (wl hq) (tyl2 _) hin hdg (K H locs ls I)
  · cases h
theorem so_aald (B : Bx p l R s m meth c w mi sh0 sl0) (hdg : decode (mB mi) pc = .ok (.aaload, 1)) (h : s_aald mi pc lc st sh gi gl gr sl = some y) (I : In w s sh0 sl0 mi lc (sh, gi, gl, gr) sl H locs ls) (K : KK p l e R s m args below meth c w sh0 sl0 Q (mi, y)) : W p l e R s m args below meth c H locs (sh.length - sh0) (sl - sl0) Q (F0 m pc ls (st.map (cv w.b w.base))) := by
  obtain ⟨hx, -, C, M, -, -, -⟩ := B
  unfold s_aald at h
  split at h
  · rename_i i q r
    split at h
    · rename_i x n' hq0
      split at h
      · rename_i hx3
        obtain ⟨hx3, h9⟩ := hx3
        obtain ⟨n, hq, hin, h⟩ := ldI_inv h
        obtain rfl := go_inv h
        obtain ⟨q, rfl⟩ := ne0 I.1 hq (by omega)
        obtain ⟨j, rfl⟩ : ∃ j, x = 103 + j := ⟨x - 103, by omega⟩
        have hj : j < arN.length := by
          show j < 3
          omega
        have hw := wr (gi := gi) (gl := gl) (gr := gr) (b := w.b) (base := w.base) (aC := w.aC) hx3 hq
        rw [show 103 + j - 100 = 3 + j by omega] at hw
        have := K H locs ls I
        simp only [List.map_cons, cv_rf] at this
        exact va_aldq hx M.2.1 C.2.1 I.1.2.1 q (3 + j) hw (tyl3 _ hj) hin hdg this
      · cases h
    · cases h
  · cases h
theorem so_iast (B : Bx p l R s m meth c w mi sh0 sl0) (hdg : decode (mB mi) pc = .ok (.iastore, 1)) (h : s_iast mi pc lc st sh gi gl gr sl 100 = some y) (I : In w s sh0 sl0 mi lc (sh, gi, gl, gr) sl H locs ls) (K : KK p l e R s m args below meth c w sh0 sl0 Q (mi, y)) : W p l e R s m args below meth c H locs (sh.length - sh0) (sl - sl0) Q (F0 m pc ls (st.map (cv w.b w.base))) := by
  obtain ⟨hx, -, C, M, -, -, -⟩ := B
  unfold s_iast at h
  split at h
  · rename_i v i q r
    split at h
    · cases h
    · rename_i hc
      obtain ⟨n, hq, hin, h⟩ := ldI_inv h
      obtain rfl := go_inv h
      cases q with
      | zero => exact absurd (Or.inl rfl) hc
      | succ q =>
        refine va_iast hx M.2.1 C.2.1 I.1.2.1 wld_D I.2.1 q 0 (wi hq) (tyl0 _) hin hdg (fun H1 locs1 hP _ hS => K H1 locs1 ls ⟨I.1.wrote hq (u2_ne gi _ v) (fun _ _ => rfl) (fun _ _ => rfl) ?_ hP, hS, I.2.2⟩)
        rw [upd_u2]
        rfl
  · cases h
theorem so_zast (B : Bx p l R s m meth c w mi sh0 sl0) (hdg : decode (mB mi) pc = .ok (.bastore, 1)) (h : s_iast mi pc lc st sh gi gl gr sl 101 = some y) (I : In w s sh0 sl0 mi lc (sh, gi, gl, gr) sl H locs ls) (K : KK p l e R s m args below meth c w sh0 sl0 Q (mi, y)) : W p l e R s m args below meth c H locs (sh.length - sh0) (sl - sl0) Q (F0 m pc ls (st.map (cv w.b w.base))) := by
  obtain ⟨hx, -, C, M, -, -, -⟩ := B
  unfold s_iast at h
  split at h
  · rename_i v i q r
    split at h
    · cases h
    · rename_i hc
      obtain ⟨n, hq, hin, h⟩ := ldI_inv h
      obtain rfl := go_inv h
      obtain ⟨q, rfl⟩ := ne0 I.1 hq (by omega)
      have hB : isB v = true := by
        cases hb : isB v
        · exact absurd (Or.inr ⟨rfl, hb⟩) hc
        · rfl
      refine va_zast hx M.2.1 C.2.1 I.1.2.1 wld_D I.2.1 q 1 (wz hq) (tyl1 _) hin hdg (fun H1 locs1 hP _ hS => K H1 locs1 ls ⟨I.1.wrote hq (u2_ne gi _ v) (fun _ _ => rfl) (fun _ _ => rfl) ?_ hP, hS, I.2.2⟩)
      rw [isB_vp hB, upd_u2]
      rfl
  · cases h
theorem so_last (B : Bx p l R s m meth c w mi sh0 sl0) (hdg : decode (mB mi) pc = .ok (.lastore, 1)) (h : s_last mi pc lc st sh gi gl gr sl = some y) (I : In w s sh0 sl0 mi lc (sh, gi, gl, gr) sl H locs ls) (K : KK p l e R s m args below meth c w sh0 sl0 Q (mi, y)) : W p l e R s m args below meth c H locs (sh.length - sh0) (sl - sl0) Q (F0 m pc ls (st.map (cv w.b w.base))) := by
  obtain ⟨hx, -, C, M, -, -, -⟩ := B
  unfold s_last at h
  split at h
  · rename_i v i q r
    split at h
    · cases h
    · rename_i hc
      obtain ⟨n, hq, hin, h⟩ := ldI_inv h
      obtain rfl := go_inv h
      obtain ⟨q, rfl⟩ := ne0 I.1 hq (by omega)
      refine va_last hx M.2.1 C.2.1 I.1.2.1 wld_D I.2.1 q 2 (wl hq) (tyl2 _) hin hdg (fun H1 locs1 hP _ hS => K H1 locs1 ls ⟨I.1.wrote hq (fun _ _ => rfl) (u2_ne gl _ v) (fun _ _ => rfl) ?_ hP, hS, I.2.2⟩)
      rw [updL_u2]
      rfl
  · cases h
theorem so_aast (hE : ∀ j, j < arN.length → elc (103 + j) < 10 ∧ ∃ r, kCl[elc (103 + j)]? = some r ∧ r.1 = arN.getD j "") (B : Bx p l R s m meth c w mi sh0 sl0) (hdg : decode (mB mi) pc = .ok (.aastore, 1)) (h : s_aast mi pc lc st sh gi gl gr sl = some y) (I : In w s sh0 sl0 mi lc (sh, gi, gl, gr) sl H locs ls) (K : KK p l e R s m args below meth c w sh0 sl0 Q (mi, y)) : W p l e R s m args below meth c H locs (sh.length - sh0) (sl - sl0) Q (F0 m pc ls (st.map (cv w.b w.base))) := by
  obtain ⟨hx, -, C, M, -, -, -⟩ := B
  unfold s_aast at h
  split at h
  · rename_i v i q r
    split at h
    · rename_i x n1 z n2 hq0 hv
      split at h
      · rename_i hcs
        obtain ⟨hx3, h9, hz⟩ := hcs
        obtain ⟨n, hq, hin, h⟩ := ldI_inv h
        obtain rfl := go_inv h
        obtain ⟨q, rfl⟩ := ne0 I.1 hq (by omega)
        obtain ⟨j, rfl⟩ : ∃ j, x = 103 + j := ⟨x - 103, by omega⟩
        have hj : j < arN.length := by
          show j < 3
          omega
        obtain ⟨e1, rc, e2, e3⟩ := hE j hj
        subst hz
        obtain ⟨v, rfl⟩ := ne0 I.1 hv (by omega)
        have hw := wr (gi := gi) (gl := gl) (gr := gr) (b := w.b) (base := w.base) (aC := w.aC) hx3 hq
        rw [show 103 + j - 100 = 3 + j by omega] at hw
        have ht := tyl3 w.aC hj
        rw [← e3] at ht
        refine va_astq hx M.2.1 C.2.1 I.1.2.1 wld_D I.2.1 q (3 + j) v (elc (103 + j)) hw ht (wo (by omega) hv) e2 hin hdg (fun H1 locs1 hP _ hS => K H1 locs1 ls ⟨I.1.wrote hq (fun _ _ => rfl) (fun _ _ => rfl) (u2_ne gr _ (some (v + 1))) ?_ hP, hS, I.2.2⟩)
        rw [cel_r hx3, show 103 + j - 100 = 3 + j by omega]
        exact congrArg (fun z => (Sum.inl (w.aC (3 + j), n, Sum.inr (Sum.inr (Sum.inr (Sum.inr z)))) : va_E)) (va_up_u2 gr (ad w.b w.base) (q + 1) i.toNatClampNeg (v + 1))
      · cases h
    · cases h
  · cases h
theorem so_len (B : Bx p l R s m meth c w mi sh0 sl0) (hdg : decode (mB mi) pc = .ok (.arraylength, 1)) (h : s_len mi pc lc st sh gi gl gr sl = some y) (I : In w s sh0 sl0 mi lc (sh, gi, gl, gr) sl H locs ls) (K : KK p l e R s m args below meth c w sh0 sl0 Q (mi, y)) : W p l e R s m args below meth c H locs (sh.length - sh0) (sl - sl0) Q (F0 m pc ls (st.map (cv w.b w.base))) := by
  obtain ⟨hx, -, C, M, -, -, -⟩ := B
  unfold s_len at h
  split at h
  · rename_i q r
    split at h
    · rename_i x n hq
      split at h
      · rename_i hx1
        obtain ⟨hx1, h9⟩ := hx1
        obtain rfl := go_inv h
        cases q with
        | zero =>
          have e := hq
          rw [I.1.2.2.1] at e
          have e2 : w.L = n := (Prod.mk.inj (Option.some.inj e)).2
          subst e2
          exact va_slen hx M.2.1 C.2.2.1 (Nat.lt_of_lt_of_le C.2.2.2.1 C.2.2.2.2.1) (Nat.not_le.mpr C.2.2.2.1) I.2.1 hdg (K H locs ls I)
        | succ q =>
          by_cases h0 : x = 100
          · subst h0
            exact va_alen hx M.2.1 C.2.1 I.1.2.1 q 0 (wi hq) (tyl0 _) rfl hdg (K H locs ls I)
          · by_cases h1 : x = 101
            · subst h1
              exact va_alen hx M.2.1 C.2.1 I.1.2.1 q 1 (wz hq) (tyl1 _) rfl hdg (K H locs ls I)
            · by_cases h2 : x = 102
              · subst h2
                exact va_alen hx M.2.1 C.2.1 I.1.2.1 q 2 (wl hq) (tyl2 _) rfl hdg (K H locs ls I)
              · have hx3 : 103 ≤ x := by omega
                obtain ⟨j, rfl⟩ : ∃ j, x = 103 + j := ⟨x - 103, by omega⟩
                have hj : j < arN.length := by
                  show j < 3
                  omega
                have hw := wr (gi := gi) (gl := gl) (gr := gr) (b := w.b) (base := w.base) (aC := w.aC) hx3 hq
                rw [show 103 + j - 100 = 3 + j by omega] at hw
                exact va_alen hx M.2.1 C.2.1 I.1.2.1 q (3 + j) hw (tyl3 _ hj) rfl hdg (K H locs ls I)
      · cases h
    · cases h
  · cases h
theorem ad_pos {b base k : Nat} (h : 0 < k) : ad b base k = base + (k - 1) := by
  cases k with
  | zero => omega
  | succ k => rfl
theorem In.grew {gi' : Nat → Nat → Int32} {gl' : Nat → Nat → Int64} {gr' : Nat → Nat → Option Nat} {H1 : Heap} {z : Nat × Nat} {n : Nat} (I : In w s sh0 sl0 mi lc (sh, gi, gl, gr) sl H locs ls) (hz : H.size = w.base + (sh.length - 1)) (z1 : H1.size = H.size + 1) (o1 : ∀ q, q < H.size → H1[q]? = H[q]?)
    (e1 : ∀ k, k ≠ sh.length → gi' k = gi k) (e2 : ∀ k, k ≠ sh.length → gl' k = gl k) (e3 : ∀ k, k ≠ sh.length → gr' k = gr k) (hat : va_at w.D kCl (w.base + (sh.length - 1), cel w.aC w.b w.base gi' gl' gr' sh.length z) H1) (hb : sh.length ≤ mxC) (hs : sl + n ≤ mxS) :
    In w s sh0 sl0 mi lc (sh ++ [z], gi', gl', gr') (sl + n) H1 locs ls := by
  obtain ⟨⟨r0, r1, r2, r3⟩, hS, hl, b1, b2, b3, b4⟩ := I
  have r0' : 0 < sh.length := r0
  have b1' : sh0 ≤ sh.length := b1
  refine ⟨⟨by simp, ?_, ?_, fun j hj => ?_⟩, ⟨Nat.le_trans hS.1 (by omega), fun x h1 h2 => (o1 x (Nat.lt_of_lt_of_le h1 hS.1)).trans (hS.2.1 x h1 h2), hS.2.2⟩, hl, by simp; omega, by simp; omega, by omega, hs⟩
  · show va_P w.D kCl (wld w.aC w.b w.base (sh ++ [z]) gi' gl' gr') H1
    rw [wld_app r0' e1 e2 e3]
    refine va_P.app (va_P.kept r1 (fun k x hx => o1 x.1 ((r1 k x hx).lt))) (fun k x hx => ?_)
    have hk : k < 1 := (List.getElem?_eq_some_iff.mp hx).1
    rw [show k = 0 by omega] at hx
    cases hx
    exact hat
  · show (sh ++ [z])[0]? = _
    rw [List.getElem?_append_left r0']
    exact r2
  · show gi' 0 j = _
    rw [e1 0 (by omega)]
    exact r3 j hj
theorem KK.grown {pc' n : Nat} {z : Nat × Nat} {gi' : Nat → Nat → Int32} {gl' : Nat → Nat → Int64} {gr' : Nat → Nat → Option Nat} {H1 : Heap} {r : List Value} (K : KK p l e R s m args below meth c w sh0 sl0 Q (mi, pc', lc, .ref sh.length :: r, (sh ++ [z], gi', gl', gr'), sl + n)) (h0 : 0 < sh.length) (h1 : sh0 ≤ sh.length) (h2 : sl0 ≤ sl)
    (I : In w s sh0 sl0 mi lc (sh ++ [z], gi', gl', gr') (sl + n) H1 locs ls) : W p l e R s m args below meth c H1 locs (sh.length - sh0 + 1) (sl - sl0 + n) Q (F0 m pc' ls (.ref (w.base + (sh.length - 1)) :: r.map (cv w.b w.base))) := by
  have k := K H1 locs ls I
  have e1 : (sh ++ [z]).length - sh0 = sh.length - sh0 + 1 := by simp; omega
  have e2 : sl + n - sl0 = sl - sl0 + n := by omega
  simp only [List.map_cons, e1, e2, cv, ad_pos h0] at k
  exact k
def okN (mi ix a b p : Nat) : Bool := match kCl[a]? with
  | some (C, _, N) => decide (a < 10) && decide (b = N) && wAt p (.classLink (mY mi).cls ix C)
  | none => false
theorem so_new {ix a b z : Nat} (hK9 : ∀ x, x < 10 → okK x = true) (B : Bx p l R s m meth c w mi sh0 sl0) (hdg : decode (mB mi) pc = .ok (.new ix, 3)) (ho : okN mi ix a b z = true) (h : s_new a b mi pc lc st sh gi gl gr sl = some y) (I : In w s sh0 sl0 mi lc (sh, gi, gl, gr) sl H locs ls) (K : KK p l e R s m args below meth c w sh0 sl0 Q (mi, y)) : W p l e R s m args below meth c H locs (sh.length - sh0) (sl - sl0) Q (F0 m pc ls (st.map (cv w.b w.base))) := by
  refine W.sized fun hsz => ?_
  have hz := In.size B I hsz
  obtain ⟨hx, -, C, M, Rm, -, -⟩ := B
  unfold okN at ho
  split at ho
  · rename_i Cn T N hc
    simp only [Bool.and_eq_true, decide_eq_true_eq] at ho
    obtain ⟨⟨o1, rfl⟩, o3⟩ := ho
    obtain ⟨k1, k2, k3, k4, k5, k6, k7⟩ := okK_spec hc (hK9 a o1)
    unfold s_new at h
    split at h
    · cases h
    · rename_i hcs
      obtain rfl := go_inv h
      have hcs1 : sh.length ≤ mxC := by omega
      have hcs2 : sl + b ≤ mxS := by omega
      have r0 : 0 < sh.length := I.1.1
      have b1 : sh0 ≤ sh.length := I.2.2.2.1
      have b3 : sl0 ≤ sl := I.2.2.2.2.2.1
      have hKn := C.2.1.1 a _ hc
      refine W.newcK hx M.2.1 M.1 (C.wd o3 rfl args) (C.wd k6 rfl args) (C.wd k7 rfl args) rfl hdg (by have := Rm.2.2.1; omega) (by have := Rm.2.2.2; omega) hKn.2.1 hz fun H1 kC hkC e1 z1 o9 => ?_
      refine K.grown r0 b1 b3 (I.grew hz (by rw [z1, hz]) (fun q hq => o9 q (by rw [← hz]; exact hq)) (rw0_ne gi 0) (rw0_ne gl 0) (rw0_ne gr none) ?_ hcs1 hcs2)
      rw [cel_o (by omega)]
      refine ⟨_, hc, (u_born (kYd a) (C.tb args) k5 hKn hkC e1 k2).to fun j hj => ?_⟩
      have hj' : j < b := hj
      have h9 := fldv_get (gi := rw0 gi sh.length 0) (gr := rw0 gr sh.length none) w.b w.base a sh.length (j := j) (by omega)
      have h8 := k3 j hj'
      unfold vp_V
      rw [List.getD_eq_getElem?_getD, h9, def_kty _ h8.2, h8.1, rw0_eq, rw0_eq]
      rfl
  · cases ho
theorem so_newa {t : ArrayType} {a : Nat} (ht : newarray.typeOf t = (match a with | 0 => FieldType.int | 1 => .boolean | _ => .long)) (ha : a < 3) (hwd : ∀ x, x ∈ [FieldType.int, .boolean, .long] → Cond.arrayClass x ∈ lw_tbl) (B : Bx p l R s m meth c w mi sh0 sl0) (hdg : decode (mB mi) pc = .ok (.newarray t, 2)) (h : s_newa 2 a mi pc lc st sh gi gl gr sl = some y) (I : In w s sh0 sl0 mi lc (sh, gi, gl, gr) sl H locs ls) (K : KK p l e R s m args below meth c w sh0 sl0 Q (mi, y)) : W p l e R s m args below meth c H locs (sh.length - sh0) (sl - sl0) Q (F0 m pc ls (st.map (cv w.b w.base))) := by
  refine W.sized fun hsz => ?_
  have hz := In.size B I hsz
  obtain ⟨hx, -, C, M, Rm, -, -⟩ := B
  unfold s_newa at h
  split at h
  · rename_i n r
    split at h
    · cases h
    · rename_i hcs
      obtain rfl := go_inv h
      simp only [not_or, Nat.not_lt] at hcs
      obtain ⟨hn, hcs1, hcs2, hcs3⟩ := hcs
      have r0 : 0 < sh.length := I.1.1
      have b1 : sh0 ≤ sh.length := I.2.2.2.1
      have b3 : sl0 ≤ sl := I.2.2.2.2.2.1
      have hmem : Cond.arrayClass (newarray.typeOf t) ∈ lw_tbl := by
        refine hwd _ ?_
        rw [ht]
        obtain rfl | rfl | rfl : a = 0 ∨ a = 1 ∨ a = 2 := by omega
        · exact List.mem_cons_self
        · exact List.mem_cons_of_mem _ List.mem_cons_self
        · exact List.mem_cons_of_mem _ (List.mem_cons_of_mem _ List.mem_cons_self)
      have hcb : componentBytes (newarray.typeOf t) ≤ 8 := by cases t <;> decide
      refine va_newaK hx M.2.1 (C.1 _ hmem rfl args) rfl hdg rfl hn rfl (Nat.le_trans (Nat.mul_le_mul hcs3 hcb) (by decide)) (by have := Rm.2.2.1; omega) (by have := Rm.2.2.2; omega) hz fun H1 cA e1 z1 o9 hAr hNm => ?_
      refine K.grown r0 b1 b3 (I.grew hz (by rw [z1, hz]) (fun q hq => o9 q (by rw [← hz]; exact hq)) (rw0_ne gi 0) (rw0_ne gl 0) (rw0_ne gr none) ?_ hcs1 hcs2)
      have hid : cA = w.aC a := by
        obtain rfl | rfl | rfl : a = 0 ∨ a = 1 ∨ a = 2 := by omega
        · have h9 : s.vm.findClass ("[" ++ FieldType.int.toString) = some (w.aC 0) := (C.2.1.2 0 _ (tyl0 _)).2
          rw [ht] at hNm
          exact Option.some.inj (hNm.symm.trans h9)
        · have h9 : s.vm.findClass ("[" ++ FieldType.boolean.toString) = some (w.aC 1) := (C.2.1.2 1 _ (tyl1 _)).2
          rw [ht] at hNm
          exact Option.some.inj (hNm.symm.trans h9)
        · have h9 : s.vm.findClass ("[" ++ FieldType.long.toString) = some (w.aC 2) := (C.2.1.2 2 _ (tyl2 _)).2
          rw [ht] at hNm
          exact Option.some.inj (hNm.symm.trans h9)
      rw [ht] at e1
      subst hid
      obtain rfl | rfl | rfl : a = 0 ∨ a = 1 ∨ a = 2 := by omega
      · show H1[w.base + (sh.length - 1)]? = some (vp_cell (w.aC 0) (n.toNatClampNeg, .inl (rw0 gi sh.length 0 sh.length)))
        rw [rw0_eq]
        exact e1
      · show H1[w.base + (sh.length - 1)]? = some (vp_cell (w.aC 1) (n.toNatClampNeg, .inl (rw0 gi sh.length 0 sh.length)))
        rw [rw0_eq]
        exact e1
      · show H1[w.base + (sh.length - 1)]? = some (vp_cell (w.aC 2) (n.toNatClampNeg, .inr (.inl (rw0 gl sh.length 0 sh.length))))
        rw [rw0_eq]
        exact e1
  · cases h
theorem so_anew {ix j z z2 : Nat} (hj : j < arN.length) (hw1 : wAt z (.classLink (mY mi).cls ix (arN.getD j "")) = true) (hw2 : wAt z2 (.arrayOver (.object (arN.getD j ""))) = true) (B : Bx p l R s m meth c w mi sh0 sl0) (hdg : decode (mB mi) pc = .ok (.anewarray ix, 3)) (h : s_newa 3 (3 + j) mi pc lc st sh gi gl gr sl = some y) (I : In w s sh0 sl0 mi lc (sh, gi, gl, gr) sl H locs ls) (K : KK p l e R s m args below meth c w sh0 sl0 Q (mi, y)) : W p l e R s m args below meth c H locs (sh.length - sh0) (sl - sl0) Q (F0 m pc ls (st.map (cv w.b w.base))) := by
  refine W.sized fun hsz => ?_
  have hz := In.size B I hsz
  obtain ⟨hx, -, C, M, Rm, -, -⟩ := B
  unfold s_newa at h
  split at h
  · rename_i n r
    split at h
    · cases h
    · rename_i hcs
      obtain rfl := go_inv h
      simp only [not_or, Nat.not_lt] at hcs
      obtain ⟨hn, hcs1, hcs2, hcs3⟩ := hcs
      have r0 : 0 < sh.length := I.1.1
      have b1 : sh0 ≤ sh.length := I.2.2.2.1
      have b3 : sl0 ≤ sl := I.2.2.2.2.2.1
      refine W.anew hx M.2.1 M.1 (C.wd hw1 rfl args) (C.wd hw2 rfl args) rfl hdg rfl hn (by omega) (by have := Rm.2.2.1; omega) (by have := Rm.2.2.2; omega) fun cA kA comp f1 f2 f3 f4 => ?_
      generalize hH1 : H.push ({ cls := cA, slots := Array.replicate n.toNatClampNeg .null, vm := .none } : Cell) = H1
      have z1 : H1.size = H.size + 1 := by rw [← hH1, Array.size_push]
      have e1 : H1[H.size]? = some (arrV cA n.toNatClampNeg (fun _ => .null)) := by rw [← hH1, Array.getElem?_push_size, ← arrV_new]
      have o1 : ∀ q : Nat, q < H.size → H1[q]? = H[q]? := fun q hq => by rw [← hH1, Array.getElem?_push, if_neg (Nat.ne_of_lt hq)]
      rw [hz] at e1
      show W p l e R s m args below meth c H1 locs (sh.length - sh0 + 1) (sl - sl0 + n.toNatClampNeg) Q (F0 m (pc + 3) ls (.ref H.size :: r.map (cv w.b w.base)))
      rw [hz]
      refine K.grown r0 b1 b3 (I.grew hz z1 o1 (rw0_ne gi 0) (rw0_ne gl 0) (rw0_ne gr none) ?_ hcs1 hcs2)
      have hid : cA = w.aC (3 + j) := by
        obtain ⟨_, _, -, -, -, h9⟩ := (C.2.1.2 (3 + j) _ (tyl3 _ hj)).2
        exact Option.some.inj (f1.symm.trans h9)
      subst hid
      rw [show 100 + (3 + j) = 103 + j by omega, cel_r (by omega), show 103 + j - 100 = 3 + j by omega, rw0_eq]
      exact e1
  · cases h
theorem so_obj {ix z : Nat} (hw1 : wAt z (.methodLink (mY mi).cls ix Lib.objectInit) = true) (hi : wAt (bP.getD 0 0) (.instanceMethod Lib.objectInit) = true) (hc : wAt (bP.getD 1 0) (.code Lib.objectInit ⟨#[0xb1]⟩ 1 none) = true) (hf : 1 ≤ nF mi) (hl : 20 ≤ nW mi) (B : Bx p l R s m meth c w mi sh0 sl0) (hdg : decode (mB mi) pc = .ok (.invokespecial ix, 3)) (h : s_obj mi pc lc st sh gi gl gr sl = some y) (I : In w s sh0 sl0 mi lc (sh, gi, gl, gr) sl H locs ls) (K : KK p l e R s m args below meth c w sh0 sl0 Q (mi, y)) : W p l e R s m args below meth c H locs (sh.length - sh0) (sl - sl0) Q (F0 m pc ls (st.map (cv w.b w.base))) := by
  obtain ⟨hx, -, C, M, Rm, -, -⟩ := B
  unfold s_obj at h
  split at h
  · rename_i q r
    split at h
    · cases h
    · rename_i hcs
      obtain rfl := go_inv h
      refine W.objInit hx M.2.1 M.1 (C.wd hw1 rfl args) (C.wd hi rfl args) (C.wd hc rfl args) rfl (by rw [M.2.2.1]; exact I.2.2.1.1) rfl hdg (Nat.le_trans hf Rm.1) ?_ (K H locs ls I)
      have h1 := Rm.2.1
      have h2 := cv_sum w.b w.base r
      show 2 * 0 + ((r.map (cv w.b w.base)).map fun v => v.category).sum + 12 ≤ R.locals
      omega
  · cases h
theorem so_min {ix z : Nat} (hw1 : wAt z (.methodLink (mY mi).cls ix Lib.Math.min.name) = true) (hi : wAt (bP.getD 2 0) (.static Lib.Math.min.name) = true) (hi2 : wAt (bP.getD 3 0) (.initialized "java/lang/Math") = true) (hc : wAt (bP.getD 4 0) (.code Lib.Math.min.name Lib.Math.min.code 2 (some .int)) = true) (hf : 1 ≤ nF mi) (hl : 21 ≤ nW mi) (B : Bx p l R s m meth c w mi sh0 sl0) (hdg : decode (mB mi) pc = .ok (.invokestatic ix, 3)) (h : s_min mi pc lc st sh gi gl gr sl = some y) (I : In w s sh0 sl0 mi lc (sh, gi, gl, gr) sl H locs ls) (K : KK p l e R s m args below meth c w sh0 sl0 Q (mi, y)) : W p l e R s m args below meth c H locs (sh.length - sh0) (sl - sl0) Q (F0 m pc ls (st.map (cv w.b w.base))) := by
  obtain ⟨hx, -, C, M, Rm, -, -⟩ := B
  unfold s_min at h
  split at h
  · rename_i v2 v1 r
    split at h
    · cases h
    · rename_i hcs
      obtain rfl := go_inv h
      have h1 := Rm.2.1
      have h2 := cv_sum w.b w.base r
      have h3 : sh0 ≤ sh.length := I.2.2.2.1
      have h4 : sh.length ≤ mxC + 1 := I.2.2.2.2.1
      have h5 : sl0 ≤ sl := I.2.2.2.2.2.1
      have h6 : sl ≤ mxS := I.2.2.2.2.2.2
      exact va_mmin hx M.2.1 (by rw [M.2.2.1]; exact I.2.2.1.1.symm) M.1 (C.wd hw1 rfl args) (C.wd hi rfl args) (C.wd hi2 rfl args) (C.wd hc rfl args) (Nat.le_trans hf Rm.1) (by omega) (by have := Rm.2.2.1; omega) (by have := Rm.2.2.2; omega) hdg (K H locs ls I)
  · cases h
theorem so_copy {ix z : Nat} (hw1 : wAt z (.methodLink (mY mi).cls ix arraycopyName) = true) (hi : wAt (bP.getD 5 0) (.native arraycopyName) = true) (hi1 : wAt (bP.getD 6 0) (.static arraycopyName) = true) (hi2 : wAt (bP.getD 7 0) (.initialized "java/lang/System") = true) (hf : 1 ≤ nF mi) (hl : 8 + (nativeFrameWords "java/lang/System" "arraycopy" 5 + 11) ≤ nW mi) (B : Bx p l R s m meth c w mi sh0 sl0) (hdg : decode (mB mi) pc = .ok (.invokestatic ix, 3)) (h : s_copy mi pc lc st sh gi gl gr sl = some y) (I : In w s sh0 sl0 mi lc (sh, gi, gl, gr) sl H locs ls) (K : KK p l e R s m args below meth c w sh0 sl0 Q (mi, y)) : W p l e R s m args below meth c H locs (sh.length - sh0) (sl - sl0) Q (F0 m pc ls (st.map (cv w.b w.base))) := by
  obtain ⟨hx, -, C, M, Rm, -, -⟩ := B
  unfold s_copy at h
  split at h
  · rename_i n dp q' sp q r
    split at h
    · rename_i y1 n1 y2 n2 hq hq'
      split at h
      · rename_i hcs
        obtain ⟨rfl, rfl, c1, c2, c3, c4, c5, c6, c7, c8⟩ := hcs
        obtain rfl := go_inv h
        cases q with
        | zero => exact absurd rfl c1
        | succ q =>
          cases q' with
          | zero => exact absurd rfl c2
          | succ q' =>
            have h1 := Rm.2.1
            have h2 := cv_sum w.b w.base r
            refine va_copyi hx M.2.1 (by rw [M.2.2.1]; exact I.2.2.1.1.symm) M.1 (C.wd hw1 rfl args) (C.wd hi rfl args) (C.wd hi1 rfl args) (C.wd hi2 rfl args) C.2.1 I.1.2.1 wld_D I.2.1 q q' 0 0 (wi hq) (wi hq') (tyl0 _) (tyl0 _) rfl c5 c4 c3 c6 c7 (fun _ _ => rfl) (Nat.le_trans hf Rm.1) (by omega) hdg
              (fun H1 locs1 hP _ hS => K H1 locs1 ls ⟨I.1.wrote hq' (cpy2_ne gi _ _ _ _) (fun _ _ => rfl) (fun _ _ => rfl) ?_ hP, hS, I.2.2⟩)
            rw [cpy_cpy2]
            rfl
      · cases h
    · cases h
  · cases h
end
