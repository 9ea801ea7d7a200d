theorem fvR {m : mM} {k a q : Nat} (h : gR m k a = some q) : va_rf (gR m k a) = .ref q := by rw [h]; rfl
theorem sV_q (C : String) (m : mM) (k a : Nat) (o : Option Nat) : sV (.object C) m k a (va_rf o) = sR m k a o := by cases o <;> rfl
theorem nar_q (C : String) (o : Option Nat) : narrow (.object C) (va_rf o) = va_rf o := by cases o <;> rfl
theorem fit_q (C : String) (o : Option Nat) : fits (.object C) (va_rf o) = true := by cases o <;> rfl
abbrev vwC0 : vw_C := (RJ0, TJ0, 4)
abbrev vwC1 : vw_C := (RJ4, TJ4, 4)
abbrev vwC2 : vw_C := (RJx00060, TJx00060, 6)
abbrev vwC3 : vw_C := (RJx7c733, TJx7c733, 6)
abbrev vwC4 : vw_C := (RX2, TX2, 3)
abbrev vwC5 : vw_C := (RX3, TX3, 12)
abbrev vwC6 : vw_C := (RX4, TX4, 4)
abbrev vwC7 : vw_C := (RX5, TX5, 2)
abbrev vwC8 : vw_C := (RX6, TX6, 3)
abbrev vwC9 : vw_C := (RX7, TX7, 8)
abbrev vwC10 : vw_C := (RX8, TX8, 6)
abbrev vwC11 : vw_C := (RX10, TX10, 10)
abbrev vwC12 : vw_C := (RX11, TX11, 22)
/-- what the memory knows of its values: they fit their fields -/
theorem mV_ok {g : mG} {x : mCx} {m : mM} {ce sl pc a ci : Nat} {r : vw_C} {lv : List (Nat × Value)} {st : List Value} (hκ : gK m a = some (.inl ci)) (hr : vwCl[ci]? = some r) (k : Nat) (hk : k < r.2.2) (kk : narrow (tyOf ci k) (fv (tyOf ci k) m (32 * ci + k) a) = fv (tyOf ci k) m (32 * ci + k) a → fits (tyOf ci k) (fv (tyOf ci k) m (32 * ci + k) a) = true → mV g x m ce sl pc lv st) : mV g x m ce sl pc lv st := by
  obtain ⟨p, l', e, R, s, md, args, below, meth, c, Q⟩ := x
  intro H locs ls hP hz hL hl
  obtain ⟨r', h1, -, h3⟩ := (hP.2.2 a _ hκ).2
  cases hr.symm.trans h1
  exact kk (h3 k hk).1 (h3 k hk).2 H locs ls hP hz hL hl
/-- Math.max -/
def imax (a b : Int32) : Int32 := if a < b then b else a
theorem v_mmax {l : Launch} {g : mG} {x : mCx} {m : mM} {cc : ByteArray} {y : MethodName} {rm : Room} {nL : Nat} {ce sl pc : Nat} {lv : List (Nat × Value)} {st : List Value} {index : Nat} {a b : Int32} (hX : mX l g x cc y rm nL) (hdg : decode cc pc = .ok (.invokestatic index, 3)) (h1 : Cond.methodLink y.cls index ⟨"java/lang/Math", "max", "(II)I"⟩ ∈ gw) (hcat : (st.map fun v => v.category).sum ≤ 8) (hR : (1 ≤ rm.frames ∧ 21 ≤ rm.locals) ∧ ce ≤ rm.cells ∧ sl ≤ rm.slots) (kk : mV g x m ce sl (pc + 3) lv (.int (imax a b) :: st)) : mV g x m ce sl pc lv (.int b :: .int a :: st) := by
  obtain ⟨p, l', e, R, s, md, args, below, meth, c, Q⟩ := x
  obtain ⟨rfl, hx, hb, hml, ⟨hown, hnm⟩, hts, hvm, rfl, hO, hH9⟩ := hX
  exact fun H locs ls hP hz hL hl => va_mmax hx hb hl.1.symm hown (hts _ h1) (hts _ wd_456) (hts _ wd_25) (hts _ wd_457) hR.1.1 (by have := hR.1.2; omega) hR.2.1 hR.2.2 hdg (kk H locs ls hP hz hL hl)
/-- Math.min -/
def imin (a b : Int32) : Int32 := if b < a then b else a
theorem v_mmin {l : Launch} {g : mG} {x : mCx} {m : mM} {cc : ByteArray} {y : MethodName} {rm : Room} {nL : Nat} {ce sl pc : Nat} {lv : List (Nat × Value)} {st : List Value} {index : Nat} {a b : Int32} (hX : mX l g x cc y rm nL) (hdg : decode cc pc = .ok (.invokestatic index, 3)) (h1 : Cond.methodLink y.cls index ⟨"java/lang/Math", "min", "(II)I"⟩ ∈ gw) (hcat : (st.map fun v => v.category).sum ≤ 8) (hR : (1 ≤ rm.frames ∧ 21 ≤ rm.locals) ∧ ce ≤ rm.cells ∧ sl ≤ rm.slots) (kk : mV g x m ce sl (pc + 3) lv (.int (imin a b) :: st)) : mV g x m ce sl pc lv (.int b :: .int a :: st) := by
  obtain ⟨p, l', e, R, s, md, args, below, meth, c, Q⟩ := x
  obtain ⟨rfl, hx, hb, hml, ⟨hown, hnm⟩, hts, hvm, rfl, hO, hH9⟩ := hX
  exact fun H locs ls hP hz hL hl => va_mmin hx hb hl.1.symm hown (hts _ h1) (hts _ wd_445) (hts _ wd_25) (hts _ wd_446) hR.1.1 (by have := hR.1.2; omega) hR.2.1 hR.2.2 hdg (kk H locs ls hP hz hL hl)
theorem v_aaldR {l : Launch} {g : mG} {x : mCx} {m : mM} {cc : ByteArray} {y : MethodName} {rm : Room} {nL : Nat} {ce sl pc : Nat} {lv : List (Nat × Value)} {st : List Value} {a t n j q : Nat} {i : Int32} (hX : mX l g x cc y rm nL) (hdg : decode cc pc = .ok (.aaload, 1)) (hκ : gK m a = some (.inr (t, n))) (ht : t < 10) (ht6 : 6 ≤ t) (hi : i = nI j) (hj : j < n) (hn : n < 2 ^ 31) (hv : gQ m a j = some q) (kk : mV g x m ce sl (pc + 1) lv (.ref q :: st)) : mV g x m ce sl pc lv (.int i :: .ref a :: st) :=
  v_aald (C := "") (v := some q) hX hdg hκ ht ht6 hi hj hn hv kk
/-- the first j from a number on with p -/
def fnd (p : Nat → Bool) : Nat → Nat → Option Nat
  | 0, _ => none
  | n + 1, j => if p j = true then some j else fnd p n (j + 1)
/-- what lies outside lo .. hi stays -/
def Fr (lo hi : Nat) (m m1 : mM) : Prop := gK m1 = gK m ∧ gN m1 = gN m ∧ ∀ a, (a < lo ∨ hi ≤ a) → mS m m1 a
theorem mS_tr {m m1 m2 : mM} {b : Nat} (h : mS m m1 b) (h2 : mS m1 m2 b) : mS m m2 b :=
  ⟨fun k => (h2.1 k).trans (h.1 k), fun k => (h2.2.1 k).trans (h.2.1 k), fun k => (h2.2.2.1 k).trans (h.2.2.1 k), h2.2.2.2.1.trans h.2.2.2.1, h2.2.2.2.2.1.trans h.2.2.2.2.1, h2.2.2.2.2.2.1.trans h.2.2.2.2.2.1, h2.2.2.2.2.2.2.trans h.2.2.2.2.2.2⟩
section
variable {lo hi : Nat} {m m1 m2 : mM}
theorem Fr.rf : Fr lo hi m m := ⟨rfl, rfl, fun _ _ => mS_rf⟩
theorem Fr.tr {l2 h2 : Nat} (h : Fr lo hi m m1) (q : Fr l2 h2 m1 m2) (hl : lo ≤ l2) (hh : h2 ≤ hi) : Fr lo hi m m2 := ⟨q.1.trans h.1, q.2.1.trans h.2.1, fun a ha => mS_tr (h.2.2 a ha) (q.2.2 a (by omega))⟩
theorem Fr.I {k a : Nat} {x : Int32} (h : Fr lo hi m m1) (ha : lo ≤ a ∧ a < hi) : Fr lo hi m (sI m1 k a x) := ⟨h.1, h.2.1, fun b hb => mS_tr (h.2.2 b hb) (mS_I (by omega))⟩
theorem Fr.J {k a : Nat} {x : Int64} (h : Fr lo hi m m1) (ha : lo ≤ a ∧ a < hi) : Fr lo hi m (sJ m1 k a x) := ⟨h.1, h.2.1, fun b hb => mS_tr (h.2.2 b hb) (mS_J (by omega))⟩
theorem Fr.R {k a : Nat} {x : Option Nat} (h : Fr lo hi m m1) (ha : lo ≤ a ∧ a < hi) : Fr lo hi m (sR m1 k a x) := ⟨h.1, h.2.1, fun b hb => mS_tr (h.2.2 b hb) (mS_R (by omega))⟩
theorem Fr.A {a i : Nat} {x : Int32} (h : Fr lo hi m m1) (ha : lo ≤ a ∧ a < hi) : Fr lo hi m (sA m1 a i x) := ⟨h.1, h.2.1, fun b hb => mS_tr (h.2.2 b hb) (mS_A (by omega))⟩
theorem Fr.Q {a i : Nat} {x : Option Nat} (h : Fr lo hi m m1) (ha : lo ≤ a ∧ a < hi) : Fr lo hi m (sQ m1 a i x) := ⟨h.1, h.2.1, fun b hb => mS_tr (h.2.2 b hb) (mS_Q (by omega))⟩
theorem Fr.L {a i : Nat} {x : Int64} (h : Fr lo hi m m1) (ha : lo ≤ a ∧ a < hi) : Fr lo hi m (sL m1 a i x) := ⟨h.1, h.2.1, fun b hb => mS_tr (h.2.2 b hb) (mS_L (by omega))⟩
theorem Fr.D {a i : Nat} {x : UInt64} (h : Fr lo hi m m1) (ha : lo ≤ a ∧ a < hi) : Fr lo hi m (sD m1 a i x) := ⟨h.1, h.2.1, fun b hb => mS_tr (h.2.2 b hb) (mS_D (by omega))⟩
theorem Fr.gI (h : Fr lo hi m m1) {k a : Nat} (ha : a < lo ∨ hi ≤ a) : gI m1 k a = gI m k a := (h.2.2 a ha).1 k
theorem Fr.gJ (h : Fr lo hi m m1) {k a : Nat} (ha : a < lo ∨ hi ≤ a) : gJ m1 k a = gJ m k a := (h.2.2 a ha).2.1 k
theorem Fr.gR (h : Fr lo hi m m1) {k a : Nat} (ha : a < lo ∨ hi ≤ a) : gR m1 k a = gR m k a := (h.2.2 a ha).2.2.1 k
theorem Fr.gA (h : Fr lo hi m m1) {a : Nat} (ha : a < lo ∨ hi ≤ a) : gA m1 a = gA m a := (h.2.2 a ha).2.2.2.1
theorem Fr.gQ (h : Fr lo hi m m1) {a : Nat} (ha : a < lo ∨ hi ≤ a) : gQ m1 a = gQ m a := (h.2.2 a ha).2.2.2.2.1
end
