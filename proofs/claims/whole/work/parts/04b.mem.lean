/-! MEMORY: what all cells hold, as maps: by a field's key (32 * class + place) and the object's address; by an array's address and the place. -/
/-- a cell's kind: .inl ci, an object of vwCl[ci]; .inr (t, n), an array of n places of the type aty t -/
abbrev mK : Type := Nat ⊕ (Nat × Nat)
abbrev mM : Type := (Nat) × (Nat → Option mK) × (Nat → Nat → Int32) × (Nat → Nat → Int64) × (Nat → Nat → Option Nat) × (Nat → Nat → Int32) × (Nat → Nat → Option Nat) × (Nat → Nat → Int64) × (Nat → Nat → UInt64)
def gN (m : mM) : Nat := m.1
def gK (m : mM) : Nat → Option mK := m.2.1
def gI (m : mM) : Nat → Nat → Int32 := m.2.2.1
def gJ (m : mM) : Nat → Nat → Int64 := m.2.2.2.1
def gR (m : mM) : Nat → Nat → Option Nat := m.2.2.2.2.1
def gA (m : mM) : Nat → Nat → Int32 := m.2.2.2.2.2.1
def gQ (m : mM) : Nat → Nat → Option Nat := m.2.2.2.2.2.2.1
def gL (m : mM) : Nat → Nat → Int64 := m.2.2.2.2.2.2.2.1
def gD (m : mM) : Nat → Nat → UInt64 := m.2.2.2.2.2.2.2.2
def m2 {α : Type} (f : Nat → Nat → α) (k a : Nat) (x : α) : Nat → Nat → α := fun k' a' => if k' = k ∧ a' = a then x else f k' a'
def sI (m : mM) (k a : Nat) (x : Int32) : mM := (gN m, gK m, m2 (gI m) k a x, gJ m, gR m, gA m, gQ m, gL m, gD m)
def sJ (m : mM) (k a : Nat) (x : Int64) : mM := (gN m, gK m, gI m, m2 (gJ m) k a x, gR m, gA m, gQ m, gL m, gD m)
def sR (m : mM) (k a : Nat) (x : Option Nat) : mM := (gN m, gK m, gI m, gJ m, m2 (gR m) k a x, gA m, gQ m, gL m, gD m)
def sA (m : mM) (k a : Nat) (x : Int32) : mM := (gN m, gK m, gI m, gJ m, gR m, m2 (gA m) k a x, gQ m, gL m, gD m)
def sQ (m : mM) (k a : Nat) (x : Option Nat) : mM := (gN m, gK m, gI m, gJ m, gR m, gA m, m2 (gQ m) k a x, gL m, gD m)
def sL (m : mM) (k a : Nat) (x : Int64) : mM := (gN m, gK m, gI m, gJ m, gR m, gA m, gQ m, m2 (gL m) k a x, gD m)
def sD (m : mM) (k a : Nat) (x : UInt64) : mM := (gN m, gK m, gI m, gJ m, gR m, gA m, gQ m, gL m, m2 (gD m) k a x)
def sN (m : mM) (n : Nat) : mM := (n, gK m, gI m, gJ m, gR m, gA m, gQ m, gL m, gD m)
/-- a new cell, at gN m, of the kind kd, with the defaults in it -/
def nw (m : mM) (kd : mK) : mM := (gN m + 1, fun a => if a = gN m then some kd else gK m a, fun k a => if a = gN m then 0 else gI m k a, fun k a => if a = gN m then 0 else gJ m k a, fun k a => if a = gN m then none else gR m k a, fun a i => if a = gN m then 0 else gA m a i, fun a i => if a = gN m then none else gQ m a i, fun a i => if a = gN m then 0 else gL m a i, fun a i => if a = gN m then 0 else gD m a i)
theorem mm : (∀ (m : mM) (k a : Nat) (x : Int32), gN (sI m k a x) = gN m) ∧
  (∀ (m : mM) (k a : Nat) (x : Int32), gK (sI m k a x) = gK m) ∧
  (∀ (m : mM) (k a : Nat) (x : Int32) (k' a' : Nat), gI (sI m k a x) k' a' = if k' = k ∧ a' = a then x else gI m k' a') ∧
  (∀ (m : mM) (k a : Nat) (x : Int32), gJ (sI m k a x) = gJ m) ∧
  (∀ (m : mM) (k a : Nat) (x : Int32), gR (sI m k a x) = gR m) ∧
  (∀ (m : mM) (k a : Nat) (x : Int32), gA (sI m k a x) = gA m) ∧
  (∀ (m : mM) (k a : Nat) (x : Int32), gQ (sI m k a x) = gQ m) ∧
  (∀ (m : mM) (k a : Nat) (x : Int32), gL (sI m k a x) = gL m) ∧
  (∀ (m : mM) (k a : Nat) (x : Int32), gD (sI m k a x) = gD m) ∧
  (∀ (m : mM) (k a : Nat) (x : Int64), gN (sJ m k a x) = gN m) ∧
  (∀ (m : mM) (k a : Nat) (x : Int64), gK (sJ m k a x) = gK m) ∧
  (∀ (m : mM) (k a : Nat) (x : Int64), gI (sJ m k a x) = gI m) ∧
  (∀ (m : mM) (k a : Nat) (x : Int64) (k' a' : Nat), gJ (sJ m k a x) k' a' = if k' = k ∧ a' = a then x else gJ m k' a') ∧
  (∀ (m : mM) (k a : Nat) (x : Int64), gR (sJ m k a x) = gR m) ∧
  (∀ (m : mM) (k a : Nat) (x : Int64), gA (sJ m k a x) = gA m) ∧
  (∀ (m : mM) (k a : Nat) (x : Int64), gQ (sJ m k a x) = gQ m) ∧
  (∀ (m : mM) (k a : Nat) (x : Int64), gL (sJ m k a x) = gL m) ∧
  (∀ (m : mM) (k a : Nat) (x : Int64), gD (sJ m k a x) = gD m) ∧
  (∀ (m : mM) (k a : Nat) (x : Option Nat), gN (sR m k a x) = gN m) ∧
  (∀ (m : mM) (k a : Nat) (x : Option Nat), gK (sR m k a x) = gK m) ∧
  (∀ (m : mM) (k a : Nat) (x : Option Nat), gI (sR m k a x) = gI m) ∧
  (∀ (m : mM) (k a : Nat) (x : Option Nat), gJ (sR m k a x) = gJ m) ∧
  (∀ (m : mM) (k a : Nat) (x : Option Nat) (k' a' : Nat), gR (sR m k a x) k' a' = if k' = k ∧ a' = a then x else gR m k' a') ∧
  (∀ (m : mM) (k a : Nat) (x : Option Nat), gA (sR m k a x) = gA m) ∧
  (∀ (m : mM) (k a : Nat) (x : Option Nat), gQ (sR m k a x) = gQ m) ∧
  (∀ (m : mM) (k a : Nat) (x : Option Nat), gL (sR m k a x) = gL m) ∧
  (∀ (m : mM) (k a : Nat) (x : Option Nat), gD (sR m k a x) = gD m) ∧
  (∀ (m : mM) (k a : Nat) (x : Int32), gN (sA m k a x) = gN m) ∧
  (∀ (m : mM) (k a : Nat) (x : Int32), gK (sA m k a x) = gK m) ∧
  (∀ (m : mM) (k a : Nat) (x : Int32), gI (sA m k a x) = gI m) ∧
  (∀ (m : mM) (k a : Nat) (x : Int32), gJ (sA m k a x) = gJ m) ∧
  (∀ (m : mM) (k a : Nat) (x : Int32), gR (sA m k a x) = gR m) ∧
  (∀ (m : mM) (k a : Nat) (x : Int32) (k' a' : Nat), gA (sA m k a x) k' a' = if k' = k ∧ a' = a then x else gA m k' a') ∧
  (∀ (m : mM) (k a : Nat) (x : Int32), gQ (sA m k a x) = gQ m) ∧
  (∀ (m : mM) (k a : Nat) (x : Int32), gL (sA m k a x) = gL m) ∧
  (∀ (m : mM) (k a : Nat) (x : Int32), gD (sA m k a x) = gD m) ∧
  (∀ (m : mM) (k a : Nat) (x : Option Nat), gN (sQ m k a x) = gN m) ∧
  (∀ (m : mM) (k a : Nat) (x : Option Nat), gK (sQ m k a x) = gK m) ∧
  (∀ (m : mM) (k a : Nat) (x : Option Nat), gI (sQ m k a x) = gI m) ∧
  (∀ (m : mM) (k a : Nat) (x : Option Nat), gJ (sQ m k a x) = gJ m) ∧
  (∀ (m : mM) (k a : Nat) (x : Option Nat), gR (sQ m k a x) = gR m) ∧
  (∀ (m : mM) (k a : Nat) (x : Option Nat), gA (sQ m k a x) = gA m) ∧
  (∀ (m : mM) (k a : Nat) (x : Option Nat) (k' a' : Nat), gQ (sQ m k a x) k' a' = if k' = k ∧ a' = a then x else gQ m k' a') ∧
  (∀ (m : mM) (k a : Nat) (x : Option Nat), gL (sQ m k a x) = gL m) ∧
  (∀ (m : mM) (k a : Nat) (x : Option Nat), gD (sQ m k a x) = gD m) ∧
  (∀ (m : mM) (k a : Nat) (x : Int64), gN (sL m k a x) = gN m) ∧
  (∀ (m : mM) (k a : Nat) (x : Int64), gK (sL m k a x) = gK m) ∧
  (∀ (m : mM) (k a : Nat) (x : Int64), gI (sL m k a x) = gI m) ∧
  (∀ (m : mM) (k a : Nat) (x : Int64), gJ (sL m k a x) = gJ m) ∧
  (∀ (m : mM) (k a : Nat) (x : Int64), gR (sL m k a x) = gR m) ∧
  (∀ (m : mM) (k a : Nat) (x : Int64), gA (sL m k a x) = gA m) ∧
  (∀ (m : mM) (k a : Nat) (x : Int64), gQ (sL m k a x) = gQ m) ∧
  (∀ (m : mM) (k a : Nat) (x : Int64) (k' a' : Nat), gL (sL m k a x) k' a' = if k' = k ∧ a' = a then x else gL m k' a') ∧
  (∀ (m : mM) (k a : Nat) (x : Int64), gD (sL m k a x) = gD m) ∧
  (∀ (m : mM) (k a : Nat) (x : UInt64), gN (sD m k a x) = gN m) ∧
  (∀ (m : mM) (k a : Nat) (x : UInt64), gK (sD m k a x) = gK m) ∧
  (∀ (m : mM) (k a : Nat) (x : UInt64), gI (sD m k a x) = gI m) ∧
  (∀ (m : mM) (k a : Nat) (x : UInt64), gJ (sD m k a x) = gJ m) ∧
  (∀ (m : mM) (k a : Nat) (x : UInt64), gR (sD m k a x) = gR m) ∧
  (∀ (m : mM) (k a : Nat) (x : UInt64), gA (sD m k a x) = gA m) ∧
  (∀ (m : mM) (k a : Nat) (x : UInt64), gQ (sD m k a x) = gQ m) ∧
  (∀ (m : mM) (k a : Nat) (x : UInt64), gL (sD m k a x) = gL m) ∧
  (∀ (m : mM) (k a : Nat) (x : UInt64) (k' a' : Nat), gD (sD m k a x) k' a' = if k' = k ∧ a' = a then x else gD m k' a') ∧
  (∀ (m : mM) (n : Nat), gN (sN m n) = n) ∧
  (∀ (m : mM) (n : Nat), gK (sN m n) = gK m) ∧
  (∀ (m : mM) (n : Nat), gI (sN m n) = gI m) ∧
  (∀ (m : mM) (n : Nat), gJ (sN m n) = gJ m) ∧
  (∀ (m : mM) (n : Nat), gR (sN m n) = gR m) ∧
  (∀ (m : mM) (n : Nat), gA (sN m n) = gA m) ∧
  (∀ (m : mM) (n : Nat), gQ (sN m n) = gQ m) ∧
  (∀ (m : mM) (n : Nat), gL (sN m n) = gL m) ∧
  (∀ (m : mM) (n : Nat), gD (sN m n) = gD m) ∧
  (∀ (m : mM) (kd : mK), gN (nw m kd) = gN m + 1) ∧
  (∀ (m : mM) (kd : mK) (a : Nat), gK (nw m kd) a = if a = gN m then some kd else gK m a) ∧
  (∀ (m : mM) (kd : mK) (k a : Nat), gI (nw m kd) k a = if a = gN m then 0 else gI m k a) ∧
  (∀ (m : mM) (kd : mK) (k a : Nat), gJ (nw m kd) k a = if a = gN m then 0 else gJ m k a) ∧
  (∀ (m : mM) (kd : mK) (k a : Nat), gR (nw m kd) k a = if a = gN m then none else gR m k a) ∧
  (∀ (m : mM) (kd : mK) (a i : Nat), gA (nw m kd) a i = if a = gN m then 0 else gA m a i) ∧
  (∀ (m : mM) (kd : mK) (a i : Nat), gQ (nw m kd) a i = if a = gN m then none else gQ m a i) ∧
  (∀ (m : mM) (kd : mK) (a i : Nat), gL (nw m kd) a i = if a = gN m then 0 else gL m a i) ∧
  (∀ (m : mM) (kd : mK) (a i : Nat), gD (nw m kd) a i = if a = gN m then 0 else gD m a i) := by
  refine ⟨?_, ?_, ?_, ?_, ?_, ?_, ?_, ?_, ?_, ?_, ?_, ?_, ?_, ?_, ?_, ?_, ?_, ?_, ?_, ?_, ?_, ?_, ?_, ?_, ?_, ?_, ?_, ?_, ?_, ?_, ?_, ?_, ?_, ?_, ?_, ?_, ?_, ?_, ?_, ?_, ?_, ?_, ?_, ?_, ?_, ?_, ?_, ?_, ?_, ?_, ?_, ?_, ?_, ?_, ?_, ?_, ?_, ?_, ?_, ?_, ?_, ?_, ?_, ?_, ?_, ?_, ?_, ?_, ?_, ?_, ?_, ?_, ?_, ?_, ?_, ?_, ?_, ?_, ?_, ?_, ?_⟩ <;> (intros; rfl)
/-- the element types of the arrays -/
def aty : Nat → FieldType
  | 0 => .int
  | 1 => .char
  | 2 => .byte
  | 3 => .byte
  | 4 => .long
  | 5 => .double
  | 6 => .object "BirdForge$Forge"
  | 7 => .object "BirdForge$Hammer"
  | 8 => .object "BirdForge$Piece"
  | 9 => .object "BirdForge$Command"
  | _ => .array .int
def arrOf (t : Nat) (m : mM) (a : Nat) : (Nat → Int32) ⊕ (Nat → Int64) ⊕ (Nat → UInt32) ⊕ (Nat → UInt64) ⊕ (Nat → Option Nat) :=
  match t with
  | 0 | 1 | 2 | 3 => .inl (gA m a)
  | 4 => .inr (.inl (gL m a))
  | 5 => .inr (.inr (.inr (.inl (gD m a))))
  | _ => .inr (.inr (.inr (.inr (gQ m a))))
/-- the fields' types, by the place of the class in vwCl -/
def tyOf : Nat → Nat → FieldType
  | 0 => tyJ0
  | 1 => tyJ4
  | 2 => tyJx00060
  | 3 => tyJx7c733
  | 4 => tyX2
  | 5 => tyX3
  | 6 => tyX4
  | 7 => tyX5
  | 8 => tyX6
  | 9 => tyX7
  | 10 => tyX8
  | 11 => tyX10
  | _ => tyX11
def fv (ty : FieldType) (m : mM) (k a : Nat) : Value := match ty with
  | .long => .long (gJ m k a)
  | .object _ => va_rf (gR m k a)
  | .array _ => va_rf (gR m k a)
  | _ => .int (gI m k a)
/-- the memory behind a store of a value into a field of a type -/
def sV (ty : FieldType) (m : mM) (k a : Nat) (v : Value) : mM := match ty, v with
  | .long, .long x => sJ m k a x
  | .object _, .ref b => sR m k a (some b)
  | .object _, .null => sR m k a none
  | .array _, .ref b => sR m k a (some b)
  | .array _, .null => sR m k a none
  | _, .int x => sI m k a x
  | _, _ => m
/-- what is given: the classes' numbers, the array classes' numbers, the state at the law's entry -/
abbrev mG : Type := va_G × (Nat → ClassId) × State
def gH (g : mG) : Heap := g.2.2.heap
def mC (g : mG) (m : mM) (H : Heap) (a : Nat) : mK → Prop
  | .inl ci => ∃ r : vw_C, vwCl[ci]? = some r ∧ t_OB a (g.1.1 ci) r.2.2 (g.1.2 ci) H (fun k => fv (tyOf ci k) m (32 * ci + k) a) ∧ ∀ k, k < r.2.2 → narrow (tyOf ci k) (fv (tyOf ci k) m (32 * ci + k) a) = fv (tyOf ci k) m (32 * ci + k) a ∧ fits (tyOf ci k) (fv (tyOf ci k) m (32 * ci + k) a) = true
  | .inr (t, n) => H[a]? = some (vp_cell (g.2.1 t) (n, arrOf t m a))
/-- the heap H holds the memory m; below the law's entry nothing has changed -/
def mP (g : mG) (m : mM) (H : Heap) : Prop := (H.size = gN m ∧ (gH g).size ≤ H.size) ∧ (∀ q : Nat, q < (gH g).size → H[q]? = (gH g)[q]?) ∧ ∀ (a : Nat) (kd : mK), gK m a = some kd → (gH g).size ≤ a ∧ mC g m H a kd
/-- two memories hold the same at b -/
def mS (m m1 : mM) (b : Nat) : Prop := (∀ k, gI m1 k b = gI m k b) ∧ (∀ k, gJ m1 k b = gJ m k b) ∧ (∀ k, gR m1 k b = gR m k b) ∧ gA m1 b = gA m b ∧ gQ m1 b = gQ m b ∧ gL m1 b = gL m b ∧ gD m1 b = gD m b
theorem mS_fv {m m1 : mM} {b : Nat} (h : mS m m1 b) (ty : FieldType) (k : Nat) : fv ty m1 k b = fv ty m k b := by
  obtain ⟨h1, h2, h3, -⟩ := h
  cases ty <;> simp only [fv, h1, h2, h3]
theorem mS_arr {m m1 : mM} {b : Nat} (h : mS m m1 b) (t : Nat) : arrOf t m1 b = arrOf t m b := by
  obtain ⟨-, -, -, h1, h2, h3, h4⟩ := h
  unfold arrOf
  split <;> simp only [h1, h2, h3, h4]
theorem mC_kept {g : mG} {m m1 : mM} {H H1 : Heap} {a : Nat} {kd : mK} (hs : mS m m1 a) (hq : H1[a]? = H[a]?) (h : mC g m H a kd) : mC g m1 H1 a kd := by
  cases kd with
  | inl ci =>
    obtain ⟨r, h1, h2, h3⟩ := h
    refine ⟨r, h1, (h2.kept hq).to (fun k _ => (mS_fv hs _ _).symm), fun k hk => ?_⟩
    rw [mS_fv hs]
    exact h3 k hk
  | inr tn =>
    obtain ⟨t, n⟩ := tn
    show H1[a]? = some (vp_cell (g.2.1 t) (n, arrOf t m1 a))
    rw [hq, mS_arr hs]
    exact h
theorem mC_lt {g : mG} {m : mM} {H : Heap} {a : Nat} {kd : mK} (h : mC g m H a kd) : a < H.size := by
  cases kd with
  | inl ci =>
    obtain ⟨r, h1, ⟨cell, h2, -⟩, -⟩ := h
    exact (Array.getElem?_eq_some_iff.mp h2).1
  | inr tn => exact (Array.getElem?_eq_some_iff.mp (show H[a]? = _ from h)).1
theorem mP_lt {g : mG} {m : mM} {H : Heap} (h : mP g m H) {a : Nat} {kd : mK} (hk : gK m a = some kd) : a < H.size := mC_lt (h.2.2 a kd hk).2
/-- a store at a: all else stays -/
theorem mP_set {g : mG} {m m1 : mM} {H H1 : Heap} {a : Nat} {kd : mK} (hP : mP g m H) (hk : gK m a = some kd) (hK : gK m1 = gK m) (hN : gN m1 = gN m) (hs : ∀ b, b ≠ a → mS m m1 b) (z : H1.size = H.size) (oq : ∀ q : Nat, q ≠ a → H1[q]? = H[q]?) (h : mC g m1 H1 a kd) : mP g m1 H1 := by
  refine ⟨by rw [z, hN]; exact hP.1, fun q hq => ?_, fun b kb hb => ?_⟩
  · have hne : q ≠ a := fun e => absurd (hP.2.2 a kd hk).1 (by omega)
    rw [oq q hne]; exact hP.2.1 q hq
  · rw [hK] at hb
    by_cases e : b = a
    · subst e
      cases hk.symm.trans hb
      exact ⟨(hP.2.2 b kd hk).1, h⟩
    · exact ⟨(hP.2.2 b kb hb).1, mC_kept (hs b e) (oq b e) (hP.2.2 b kb hb).2⟩
theorem mS_rf {m : mM} {b : Nat} : mS m m b := ⟨fun _ => rfl, fun _ => rfl, fun _ => rfl, rfl, rfl, rfl, rfl⟩
theorem mS_nw {m : mM} {b : Nat} {kd : mK} (h : b ≠ gN m) : mS m (nw m kd) b := by
  refine ⟨fun _ => ?_, fun _ => ?_, fun _ => ?_, funext fun _ => ?_, funext fun _ => ?_, funext fun _ => ?_, funext fun _ => ?_⟩ <;> simp [mm, h]
/-- a new cell -/
theorem mP_new {g : mG} {m : mM} {H H1 : Heap} {kd : mK} (hP : mP g m H) (z : H1.size = H.size + 1) (oq : ∀ q : Nat, q < H.size → H1[q]? = H[q]?) (h : mC g (nw m kd) H1 H.size kd) : mP g (nw m kd) H1 := by
  have hN := hP.1.1
  refine ⟨⟨by rw [z, hN]; rfl, by rw [z]; exact Nat.le_succ_of_le hP.1.2⟩, fun q hq => ?_, fun b kb hb => ?_⟩
  · rw [oq q (Nat.lt_of_lt_of_le hq hP.1.2)]; exact hP.2.1 q hq
  · have hb' : (if b = gN m then some kd else gK m b) = some kb := hb
    by_cases e : b = gN m
    · subst e
      rw [if_pos rfl] at hb'
      cases hb'
      rw [← hN]
      exact ⟨hP.1.2, h⟩
    · rw [if_neg e] at hb'
      exact ⟨(hP.2.2 b kb hb').1, mC_kept (mS_nw e) (oq b (mP_lt hP hb')) (hP.2.2 b kb hb').2⟩
/-- a larger heap -/
theorem mP_more {g : mG} {m : mM} {H H1 : Heap} (hP : mP g m H) (z : H.size ≤ H1.size) (oq : ∀ q : Nat, q < H.size → H1[q]? = H[q]?) : mP g (sN m H1.size) H1 := by
  refine ⟨⟨rfl, Nat.le_trans hP.1.2 z⟩, fun q hq => ?_, fun b kb hb => ?_⟩
  · rw [oq q (Nat.lt_of_lt_of_le hq hP.1.2)]; exact hP.2.1 q hq
  · exact ⟨(hP.2.2 b kb hb).1, mC_kept (m := m) (m1 := sN m H1.size) (mS_rf (m := m)) (oq b (mP_lt hP hb)) (hP.2.2 b kb hb).2⟩
theorem m2_ne {α : Type} {f : Nat → Nat → α} {k a k' a' : Nat} {x : α} (h : a' ≠ a) : m2 f k a x k' a' = f k' a' := by simp [m2, h]
theorem m2_nk {α : Type} {f : Nat → Nat → α} {k a k' a' : Nat} {x : α} (h : k' ≠ k) : m2 f k a x k' a' = f k' a' := by simp [m2, h]
theorem m2_eq {α : Type} {f : Nat → Nat → α} {k a : Nat} {x : α} : m2 f k a x k a = x := by simp [m2]
theorem mS_I {m : mM} {k a b : Nat} {x : Int32} (h : b ≠ a) : mS m (sI m k a x) b := ⟨fun _ => m2_ne h, fun _ => rfl, fun _ => rfl, rfl, rfl, rfl, rfl⟩
theorem mS_J {m : mM} {k a b : Nat} {x : Int64} (h : b ≠ a) : mS m (sJ m k a x) b := ⟨fun _ => rfl, fun _ => m2_ne h, fun _ => rfl, rfl, rfl, rfl, rfl⟩
theorem mS_R {m : mM} {k a b : Nat} {x : Option Nat} (h : b ≠ a) : mS m (sR m k a x) b := ⟨fun _ => rfl, fun _ => rfl, fun _ => m2_ne h, rfl, rfl, rfl, rfl⟩
theorem mS_A {m : mM} {a i b : Nat} {x : Int32} (h : b ≠ a) : mS m (sA m a i x) b := ⟨fun _ => rfl, fun _ => rfl, fun _ => rfl, funext fun _ => m2_nk h, rfl, rfl, rfl⟩
theorem mS_Q {m : mM} {a i b : Nat} {x : Option Nat} (h : b ≠ a) : mS m (sQ m a i x) b := ⟨fun _ => rfl, fun _ => rfl, fun _ => rfl, rfl, funext fun _ => m2_nk h, rfl, rfl⟩
theorem mS_L {m : mM} {a i b : Nat} {x : Int64} (h : b ≠ a) : mS m (sL m a i x) b := ⟨fun _ => rfl, fun _ => rfl, fun _ => rfl, rfl, rfl, funext fun _ => m2_nk h, rfl⟩
theorem mS_D {m : mM} {a i b : Nat} {x : UInt64} (h : b ≠ a) : mS m (sD m a i x) b := ⟨fun _ => rfl, fun _ => rfl, fun _ => rfl, rfl, rfl, rfl, funext fun _ => m2_nk h⟩
theorem mS_V {ty : FieldType} {m : mM} {k a b : Nat} {v : Value} (h : b ≠ a) : mS m (sV ty m k a v) b := by
  unfold sV
  split
  · exact mS_J h
  · exact mS_R h
  · exact mS_R h
  · exact mS_R h
  · exact mS_R h
  · exact mS_I h
  · exact mS_rf
theorem sV_N {ty : FieldType} {m : mM} {k a : Nat} {v : Value} : gN (sV ty m k a v) = gN m := by
  unfold sV
  split <;> rfl
theorem sV_K {ty : FieldType} {m : mM} {k a : Nat} {v : Value} : gK (sV ty m k a v) = gK m := by
  unfold sV
  split <;> rfl
theorem fv_ne {ty ty' : FieldType} {m : mM} {k a k' : Nat} {v : Value} (h : k' ≠ k) : fv ty' (sV ty m k a v) k' a = fv ty' m k' a := by
  unfold sV
  split
  · cases ty' <;> simp only [fv, mm, h, false_and, if_false]
  · cases ty' <;> simp only [fv, mm, h, false_and, if_false]
  · cases ty' <;> simp only [fv, mm, h, false_and, if_false]
  · cases ty' <;> simp only [fv, mm, h, false_and, if_false]
  · cases ty' <;> simp only [fv, mm, h, false_and, if_false]
  · cases ty' <;> simp only [fv, mm, h, false_and, if_false]
  · rfl
/-- the types that a field of this system may have -/
def okTy : FieldType → Bool
  | .float => false
  | .double => false
  | _ => true
theorem fv_eq {ty : FieldType} {m : mM} {k a : Nat} {v : Value} (ht : okTy ty = true) (hf : fits ty v = true) : fv ty (sV ty m k a v) k a = v := by
  cases ty <;> cases v <;> first | (simp [fits] at hf; done) | (cases ht; done) | (simp [sV, fv, mm, va_rf]; done)
