/-! THE FORGE AND THE ROW: the class's forge at f (in the memory m) against the reference's row w -/
theorem ti : (∀ a b : Int32, a < b ↔ a.toInt < b.toInt) ∧ (∀ a b : Int32, a ≤ b ↔ a.toInt ≤ b.toInt) ∧ (∀ a b : Int32, a = b ↔ a.toInt = b.toInt) := ⟨fun _ _ => Int32.lt_iff_toInt_lt, fun _ _ => Int32.le_iff_toInt_le, fun _ _ => Int32.toInt_inj.symm⟩
theorem tl : (0 : Int32).toInt = 0 ∧ (1 : Int32).toInt = 1 ∧ (2 : Int32).toInt = 2 ∧ (3 : Int32).toInt = 3 ∧ (4 : Int32).toInt = 4 ∧ (5 : Int32).toInt = 5 ∧ (8 : Int32).toInt = 8 ∧ (9 : Int32).toInt = 9 ∧ (10 : Int32).toInt = 10 ∧ (20 : Int32).toInt = 20 ∧ (40 : Int32).toInt = 40 ∧ (50 : Int32).toInt = 50 ∧ (60 : Int32).toInt = 60 ∧ (70 : Int32).toInt = 70 ∧ (98 : Int32).toInt = 98 ∧ (99 : Int32).toInt = 99 ∧ (110 : Int32).toInt = 110 ∧ (119 : Int32).toInt = 119 ∧ (200 : Int32).toInt = 200 ∧ (400 : Int32).toInt = 400 ∧ (500 : Int32).toInt = 500 ∧ (600 : Int32).toInt = 600 ∧ (700 : Int32).toInt = 700 ∧ (1000 : Int32).toInt = 1000 ∧ (1100 : Int32).toInt = 1100 ∧ (1200 : Int32).toInt = 1200 ∧ ((-1 : Int32)).toInt = -1 ∧ ((-2 : Int32)).toInt = -2 ∧ ((-3 : Int32)).toInt = -3 ∧ ((-4 : Int32)).toInt = -4 ∧ ((-5 : Int32)).toInt = -5 := by decide +kernel
theorem gA_same (m : mM) (c i : Nat) (x : Int32) : gA (sA m c i x) c = upd (gA m c) i x := by
  funext j
  simp [mm, upd]
theorem gA_ne (m : mM) {c d : Nat} (i : Nat) (x : Int32) (h : d ≠ c) : gA (sA m c i x) d = gA m d := by
  funext j
  simp [mm, h]
theorem ui {w : Nat → Int32} {k j : Nat} {x : Int32} (h : j = k) : upd w k x j = x := by rw [h]; exact pk_us
theorem un {w : Nat → Int32} {k j : Nat} {x : Int32} (h : j ≠ k) : upd w k x j = w j := pk_un h
theorem isI_b (a b c : Int32) : (isI a b c = 0 ↔ ¬ (b.toInt ≤ a.toInt ∧ a.toInt ≤ c.toInt)) := by
  unfold isI
  by_cases h1 : a < b
  · rw [if_pos h1]
    rw [ti.1] at h1
    simp only [true_iff]
    omega
  · rw [if_neg h1]
    by_cases h2 : c < a
    · rw [if_pos h2]
      rw [ti.1] at h1 h2
      simp only [true_iff]
      omega
    · rw [if_neg h2]
      rw [ti.1] at h1 h2
      constructor
      · intro h
        exact absurd h (by decide)
      · intro h
        exact absurd (by omega) h
theorem i32_div0 {x y : Int32} (hx : 0 ≤ x.toInt) (hy : 0 < y.toInt) : (x / y).toInt = x.toInt / y.toInt := by
  rw [Kit.i32_div (by omega), Int.tdiv_eq_ediv_of_nonneg hx]
theorem i32_rg (x : Int32) : -2 ^ 31 ≤ x.toInt ∧ x.toInt < 2 ^ 31 := ⟨Int32.le_toInt x, Int32.toInt_lt x⟩
def FS (m : mM) (f : Nat) (w : Nat → Int32) : Prop := gI m 166 f = w 0 ∧ gI m 192 (f + 1) = w 1 ∧ gI m 193 (f + 1) = w 2 ∧ gI m 194 (f + 1) = w 3 ∧ gI m 165 f + 1 = w 4 ∧ gI m 163 f = w 5 ∧ gI m 164 f = w 6 ∧ gI m 167 f = w 7 ∧ gI m 168 f = w 8 ∧ gJ m 195 (f + 1) = (w 9).toInt64 ∧ gJ m 171 f = (w 10).toInt64 ∧ gI m 169 f = w 11 ∧ gI m 170 f = w 12
def PT (g : mG) (m : mM) (q : Nat) (x : Int32) : Prop := (gR m 295 q = some (vdA g 0) ∧ x = 0) ∨ (gR m 295 q = some (vdA g 1) ∧ x = 1) ∨ (gR m 295 q = some (vdA g 2) ∧ x = 2)
def PR (g : mG) (m : mM) (q : Nat) (w : Nat → Int32) (i : Nat) : Prop := gI m 288 q = w (8 * i + 13) ∧ gI m 289 q = w (8 * i + 14) ∧ gI m 290 q = w (8 * i + 15) ∧ gI m 291 q = w (8 * i + 16) ∧ gI m 292 q = w (8 * i + 17) ∧ gI m 293 q = w (8 * i + 18) ∧ gI m 294 q = w (8 * i + 19) ∧ PT g m q (w (8 * i + 20))
def HR (m : mM) (q : Nat) (w : Nat → Int32) (i : Nat) : Prop := gI m 224 q = w (2 * i + 77) ∧ gI m 225 q = w (2 * i + 78)
def FR (g : mG) (m : mM) (f : Nat) (w : Nat → Int32) (N H : Nat) : Prop := SF m f ∧ FS m f w ∧ (∀ i, i < N → PR g m (pa m f i) w i) ∧ (∀ i, i < H → HR m (f + 12 + i) w i) ∧ N ≤ 8 ∧ H ≤ 4
/-- what a row keeps: a piece, a hammer, all of it; T bounds how often pieces and coal were added -/
def PV (w : Nat → Int32) (i : Nat) : Prop := 1 ≤ (w (8 * i + 13)).toInt ∧ (w (8 * i + 13)).toInt < (w 4).toInt ∧ (w (8 * i + 14) = 98 ∨ w (8 * i + 14) = 110 ∨ w (8 * i + 14) = 119) ∧ 20 ≤ (w (8 * i + 15)).toInt ∧ (w (8 * i + 15)).toInt ≤ 1200 ∧ 0 ≤ (w (8 * i + 16)).toInt ∧ (w (8 * i + 16)).toInt ≤ 10 ∧ 0 ≤ (w (8 * i + 17)).toInt ∧ (w (8 * i + 17)).toInt ≤ 99 ∧ (w (8 * i + 18) = 0 ∨ w (8 * i + 18) = 1) ∧ (w (8 * i + 19) = 0 ∨ w (8 * i + 19) = 1) ∧ (w (8 * i + 20) = 0 ∨ (w (8 * i + 20) = 1 ∨ w (8 * i + 20) = 2) ∧ w (8 * i + 19) = 1)
def HV (w : Nat → Int32) (i : Nat) : Prop := 1 ≤ (w (2 * i + 77)).toInt ∧ (w (2 * i + 77)).toInt ≤ 9 ∧ 0 ≤ (w (2 * i + 78)).toInt ∧ (w (2 * i + 78)).toInt ≤ 20
def SV (T : Nat) (w : Nat → Int32) (N H : Nat) : Prop := w 5 = nI N ∧ w 6 = nI H ∧ 20 ≤ (w 1).toInt ∧ (w 1).toInt ≤ 1200 ∧ 0 ≤ (w 2).toInt ∧ (w 2).toInt ≤ 5 ∧ 0 ≤ (w 3).toInt ∧ (w 3).toInt ≤ 99 ∧ 1 ≤ (w 4).toInt ∧ (w 4).toInt ≤ (T : Int) + 1 ∧ 0 ≤ (w 9).toInt ∧ 0 ≤ (w 10).toInt ∧ (w 10).toInt ≤ 50 * (T : Int) ∧ (w 10).toInt + 20 = (w 3).toInt + (w 9).toInt ∧ T ≤ 9000 ∧ 0 ≤ (w 8).toInt ∧ (w 8).toInt ≤ (T : Int)
def inW (w : Nat → Int32) : Nat → Nat → Nat
  | 0, _ => 0
  | n + 1, j => (if w (8 * j + 18) = 0 then 0 else 1) + inW w n (j + 1)
def RV (T : Nat) (w : Nat → Int32) (N H : Nat) : Prop := SV T w N H ∧ (∀ i, i < N → PV w i) ∧ (∀ i j, i < j → j < N → (w (8 * i + 13)).toInt < (w (8 * j + 13)).toInt) ∧ (∀ i, i < H → HV w i) ∧ inW w N 0 ≤ 3 ∧ N ≤ 8 ∧ H ≤ 4
section
variable {g : mG} {m m1 : mM} {f i q N H T : Nat} {w w1 : Nat → Int32}
theorem PT.to {x : Int32} (h : PT g m q x) (s : gR m1 295 q = gR m 295 q) : PT g m1 q x := by
  unfold PT
  rw [s]
  exact h
theorem PR.to (h : PR g m q w i) (s : mS m m1 q) : PR g m1 q w i := by
  obtain ⟨h1, h2, h3, h4, h5, h6, h7, h8⟩ := h
  exact ⟨(s.1 _).trans h1, (s.1 _).trans h2, (s.1 _).trans h3, (s.1 _).trans h4, (s.1 _).trans h5, (s.1 _).trans h6, (s.1 _).trans h7, h8.to (s.2.2.1 _)⟩
theorem PR.row {j : Nat} (h : PR g m q w i) (s : ∀ k, k < 8 → w1 (8 * j + 13 + k) = w (8 * i + 13 + k)) : PR g m q w1 j := by
  obtain ⟨h1, h2, h3, h4, h5, h6, h7, h8⟩ := h
  have e := s 7 (by omega)
  exact ⟨h1.trans (s 0 (by omega)).symm, h2.trans (s 1 (by omega)).symm, h3.trans (s 2 (by omega)).symm, h4.trans (s 3 (by omega)).symm, h5.trans (s 4 (by omega)).symm, h6.trans (s 5 (by omega)).symm, h7.trans (s 6 (by omega)).symm, by
    show PT g m q (w1 (8 * j + 13 + 7))
    rw [e]
    exact h8⟩
theorem PV.row {j : Nat} (h : PV w i) (s : ∀ k, k < 8 → w1 (8 * j + 13 + k) = w (8 * i + 13 + k)) (s4 : w1 4 = w 4) : PV w1 j := by
  have e0 : w1 (8 * j + 13) = w (8 * i + 13) := s 0 (by omega)
  have e1 : w1 (8 * j + 14) = w (8 * i + 14) := s 1 (by omega)
  have e2 : w1 (8 * j + 15) = w (8 * i + 15) := s 2 (by omega)
  have e3 : w1 (8 * j + 16) = w (8 * i + 16) := s 3 (by omega)
  have e4 : w1 (8 * j + 17) = w (8 * i + 17) := s 4 (by omega)
  have e5 : w1 (8 * j + 18) = w (8 * i + 18) := s 5 (by omega)
  have e6 : w1 (8 * j + 19) = w (8 * i + 19) := s 6 (by omega)
  have e7 : w1 (8 * j + 20) = w (8 * i + 20) := s 7 (by omega)
  unfold PV
  rw [e0, e1, e2, e3, e4, e5, e6, e7, s4]
  exact h
theorem HR.to (h : HR m q w i) (s : mS m m1 q) : HR m1 q w i := ⟨(s.1 _).trans h.1, (s.1 _).trans h.2⟩
theorem FS.to (h : FS m f w) (s : mS m m1 f) (s1 : mS m m1 (f + 1)) : FS m1 f w := by
  obtain ⟨h1, h2, h3, h4, h5, h6, h7, h8, h9, h10, h11, h12, h13⟩ := h
  refine ⟨(s.1 _).trans h1, (s1.1 _).trans h2, (s1.1 _).trans h3, (s1.1 _).trans h4, ?_, (s.1 _).trans h6, (s.1 _).trans h7, (s.1 _).trans h8, (s.1 _).trans h9, (s1.2.1 _).trans h10, (s.2.1 _).trans h11, (s.1 _).trans h12, (s.1 _).trans h13⟩
  rw [s.1]
  exact h5
theorem FS.row (h : FS m f w) (s : ∀ k, k < 13 → w1 k = w k) : FS m f w1 := by
  unfold FS
  rw [s 0 (by omega), s 1 (by omega), s 2 (by omega), s 3 (by omega), s 4 (by omega), s 5 (by omega), s 6 (by omega), s 7 (by omega), s 8 (by omega), s 9 (by omega), s 10 (by omega), s 11 (by omega), s 12 (by omega)]
  exact h
theorem pa_to (s : gQ m1 (f + 2) = gQ m (f + 2)) : pa m1 f i = pa m f i := by
  unfold pa
  rw [s]
/-- another memory that holds the forge's cells -/
theorem FR.to (h : FR g m f w N H) (s : ∀ a, f ≤ a → a < f + 16 → gK m1 a = gK m a ∧ mS m m1 a) : FR g m1 f w N H := by
  obtain ⟨h1, h2, h3, h4, h5, h6⟩ := h
  refine ⟨h1.below s, h2.to (s _ (by omega) (by omega)).2 (s _ (by omega) (by omega)).2, fun i hi => ?_, fun i hi => (h4 i hi).to (s _ (by omega) (by omega)).2, h5, h6⟩
  rw [pa_to (s (f + 2) (by omega) (by omega)).2.2.2.2.2.1]
  have a1 := h1.lo (i := i) (by omega)
  have a2 := h1.hi (i := i) (by omega)
  exact (h3 i hi).to (s _ (by omega) (by omega)).2
theorem FR.fr {lo hi : Nat} (h : FR g m f w N H) (s : Fr lo hi m m1) (hd : hi ≤ f ∨ f + 16 ≤ lo) : FR g m1 f w N H := h.to fun a h1 h2 => ⟨by rw [s.1], s.2.2 a (by omega)⟩
theorem FR.row (h : FR g m f w N H) (s : ∀ k, k < 85 → w1 k = w k) : FR g m f w1 N H := by
  obtain ⟨h1, h2, h3, h4, h5, h6⟩ := h
  refine ⟨h1, h2.row fun k hk => s k (by omega), fun i hi => (h3 i hi).row fun k hk => s _ (by omega), fun i hi => ?_, h5, h6⟩
  have := h4 i hi
  unfold HR
  rw [s _ (by omega), s _ (by omega)]
  exact this
theorem inW_le : ∀ (n j : Nat), inW w n j ≤ n
  | 0, j => Nat.le_refl _
  | n + 1, j => by
    have := inW_le n (j + 1)
    rw [inW]
    split <;> omega
theorem inW_eq : ∀ (n j : Nat), (∀ k, j ≤ k → k < j + n → w1 (8 * k + 18) = w (8 * k + 18)) → inW w1 n j = inW w n j
  | 0, j, _ => rfl
  | n + 1, j, h => by
    rw [inW, inW, h j (by omega) (by omega), inW_eq n (j + 1) (fun k a b => h k (by omega) (by omega))]
/-- one place changed -/
theorem inW_one {i : Nat} : ∀ (n j : Nat), j ≤ i → i < j + n → (∀ k, k ≠ i → w1 (8 * k + 18) = w (8 * k + 18)) → inW w1 n j + (if w (8 * i + 18) = 0 then 0 else 1) = inW w n j + (if w1 (8 * i + 18) = 0 then 0 else 1)
  | 0, j, a, b, _ => by omega
  | n + 1, j, a, b, h => by
    rw [inW, inW]
    by_cases e : j = i
    · subst e
      rw [inW_eq n (j + 1) (fun k c d => h k (by omega))]
      omega
    · have := inW_one n (j + 1) (by omega) (by omega) h
      rw [h j e]
      omega
theorem RV.row (h : RV T w N H) (s : ∀ k, k < 85 → w1 k = w k) : RV T w1 N H := by
  obtain ⟨h1, h2, h3, h4, h5, h6, h7⟩ := h
  refine ⟨?_, fun i hi => (h2 i hi).row (fun k hk => s _ (by omega)) (s 4 (by omega)), fun i j a b => ?_, fun i hi => ?_, ?_, h6, h7⟩
  · unfold SV
    rw [s 1 (by omega), s 2 (by omega), s 3 (by omega), s 4 (by omega), s 5 (by omega), s 6 (by omega), s 8 (by omega), s 9 (by omega), s 10 (by omega)]
    exact h1
  · rw [s _ (by omega), s _ (by omega)]
    exact h3 i j a b
  · have := h4 i hi
    unfold HV
    rw [s _ (by omega), s _ (by omega)]
    exact this
  · rw [inW_eq N 0 (fun k a b => s _ (by omega))]
    exact h5
theorem RV.mono {T1 : Nat} (h : RV T w N H) (ht : T ≤ T1) (h9 : T1 ≤ 9000) : RV T1 w N H := by
  obtain ⟨h1, h2⟩ := h
  refine ⟨?_, h2⟩
  obtain ⟨a1, a2, a3, a4, a5, a6, a7, a8, a9, a10, a11, a12, a13, a14, a15, a16, a17⟩ := h1
  exact ⟨a1, a2, a3, a4, a5, a6, a7, a8, a9, by omega, a11, a12, by omega, a14, h9, a16, by omega⟩
/-- a piece changed: in the forge -/
theorem FR.pc (h : FR g m f w N H) (hi : i < N) (hk : gK m1 = gK m) (s : ∀ a, a ≠ pa m f i → mS m m1 a) (hw : ∀ k, (k < 8 * i + 13 ∨ 8 * i + 20 < k) → w1 k = w k) (p : PR g m1 (pa m f i) w1 i) : FR g m1 f w1 N H := by
  obtain ⟨h1, h2, h3, h4, h5, h6⟩ := h
  have a1 := h1.lo (i := i) (by omega)
  have a2 := h1.hi (i := i) (by omega)
  have sq := (s (f + 2) (by omega)).2.2.2.2.1
  refine ⟨?_, (h2.to (s _ (by omega)) (s _ (by omega))).row fun k hk => hw k (by omega), fun j hj => ?_, fun j hj => ?_, h5, h6⟩
  · unfold SF at h1 ⊢
    have e : ∀ j, pa m1 f j = pa m f j := fun j => pa_to sq
    simp only [e]
    rw [hk, sq, (s (f + 3) (by omega)).2.2.2.2.1, (s f (by omega)).2.2.1, (s f (by omega)).2.2.1, (s f (by omega)).2.2.1]
    exact h1
  · rw [pa_to sq]
    by_cases e : j = i
    · rw [e]
      exact p
    · have d : pa m f j ≠ pa m f i := fun c => e (h1.inj (by omega) (by omega) c)
      exact ((h3 j hj).to (s _ d)).row fun k hk => hw _ (by omega)
  · have := (h4 j hj).to (s (f + 12 + j) (by omega))
    unfold HR
    rw [hw _ (by omega), hw _ (by omega)]
    exact this
/-- a hammer changed -/
theorem FR.hm (h : FR g m f w N H) (hi : i < H) (hk : gK m1 = gK m) (s : ∀ a, a ≠ f + 12 + i → mS m m1 a) (hw : ∀ k, k ≠ 2 * i + 77 → k ≠ 2 * i + 78 → w1 k = w k) (p : HR m1 (f + 12 + i) w1 i) : FR g m1 f w1 N H := by
  obtain ⟨h1, h2, h3, h4, h5, h6⟩ := h
  have sq := (s (f + 2) (by omega)).2.2.2.2.1
  refine ⟨?_, (h2.to (s _ (by omega)) (s _ (by omega))).row fun k hk => hw k (by omega) (by omega), fun j hj => ?_, fun j hj => ?_, h5, h6⟩
  · unfold SF at h1 ⊢
    have e : ∀ j, pa m1 f j = pa m f j := fun j => pa_to sq
    simp only [e]
    rw [hk, sq, (s (f + 3) (by omega)).2.2.2.2.1, (s f (by omega)).2.2.1, (s f (by omega)).2.2.1, (s f (by omega)).2.2.1]
    exact h1
  · rw [pa_to sq]
    have a2 := h1.hi (i := j) (by omega)
    exact ((h3 j hj).to (s _ (by omega))).row fun k hk => hw _ (by omega) (by omega)
  · by_cases e : j = i
    · rw [e]
      exact p
    · have := (h4 j hj).to (s (f + 12 + j) (by omega))
      unfold HR
      rw [hw _ (by omega) (by omega), hw _ (by omega) (by omega)]
      exact this
/-- the scalars changed -/
theorem FR.sc (h : FR g m f w N H) (hk : gK m1 = gK m) (hr : ∀ k, gR m1 k f = gR m k f) (s : ∀ a, a ≠ f → a ≠ f + 1 → mS m m1 a) (hw : ∀ k, 13 ≤ k → w1 k = w k) (p : FS m1 f w1) : FR g m1 f w1 N H := by
  obtain ⟨h1, h2, h3, h4, h5, h6⟩ := h
  have sq := (s (f + 2) (by omega) (by omega)).2.2.2.2.1
  refine ⟨?_, p, fun j hj => ?_, fun j hj => ?_, h5, h6⟩
  · unfold SF at h1 ⊢
    have e : ∀ j, pa m1 f j = pa m f j := fun j => pa_to sq
    simp only [e]
    rw [hk, sq, (s (f + 3) (by omega) (by omega)).2.2.2.2.1, hr, hr, hr]
    exact h1
  · rw [pa_to sq]
    have a1 := h1.lo (i := j) (by omega)
    exact ((h3 j hj).to (s _ (by omega) (by omega))).row fun k hk => hw _ (by omega)
  · have := (h4 j hj).to (s (f + 12 + j) (by omega) (by omega))
    unfold HR
    rw [hw _ (by omega), hw _ (by omega)]
    exact this
/-- a piece changed: in the row -/
theorem RV.pc (h : RV T w N H) (hi : i < N) (hw : ∀ k, (k < 8 * i + 13 ∨ 8 * i + 20 < k) → w1 k = w k) (h13 : w1 (8 * i + 13) = w (8 * i + 13)) (p : PV w1 i) (hc : inW w1 N 0 ≤ 3) : RV T w1 N H := by
  obtain ⟨h1, h2, h3, h4, h5, h6, h7⟩ := h
  refine ⟨?_, fun j hj => ?_, fun j j2 a b => ?_, fun j hj => ?_, hc, h6, h7⟩
  · unfold SV
    rw [hw 1 (by omega), hw 2 (by omega), hw 3 (by omega), hw 4 (by omega), hw 5 (by omega), hw 6 (by omega), hw 8 (by omega), hw 9 (by omega), hw 10 (by omega)]
    exact h1
  · by_cases e : j = i
    · rw [e]
      exact p
    · exact (h2 j hj).row (fun k hk => hw _ (by omega)) (hw 4 (by omega))
  · have e : ∀ j, w1 (8 * j + 13) = w (8 * j + 13) := fun j => by
      by_cases e : j = i
      · rw [e]
        exact h13
      · exact hw _ (by omega)
    rw [e, e]
    exact h3 j j2 a b
  · have := h4 j hj
    unfold HV
    rw [hw _ (by omega), hw _ (by omega)]
    exact this
theorem RV.hm (h : RV T w N H) (hi : i < H) (hw : ∀ k, k ≠ 2 * i + 77 → k ≠ 2 * i + 78 → w1 k = w k) (p : HV w1 i) : RV T w1 N H := by
  obtain ⟨h1, h2, h3, h4, h5, h6, h7⟩ := h
  refine ⟨?_, fun j hj => (h2 j hj).row (fun k hk => hw _ (by omega) (by omega)) (hw 4 (by omega) (by omega)), fun j j2 a b => ?_, fun j hj => ?_, ?_, h6, h7⟩
  · unfold SV
    rw [hw 1 (by omega) (by omega), hw 2 (by omega) (by omega), hw 3 (by omega) (by omega), hw 4 (by omega) (by omega), hw 5 (by omega) (by omega), hw 6 (by omega) (by omega), hw 8 (by omega) (by omega), hw 9 (by omega) (by omega), hw 10 (by omega) (by omega)]
    exact h1
  · rw [hw _ (by omega) (by omega), hw _ (by omega) (by omega)]
    exact h3 j j2 a b
  · by_cases e : j = i
    · rw [e]
      exact p
    · have := h4 j hj
      unfold HV
      rw [hw _ (by omega) (by omega), hw _ (by omega) (by omega)]
      exact this
  · rw [inW_eq N 0 (fun k a b => hw _ (by omega) (by omega))]
    exact h5
theorem RV.sc (h : RV T w N H) {T1 : Nat} (hw : ∀ k, 13 ≤ k → w1 k = w k) (h4 : (w 4).toInt ≤ (w1 4).toInt) (p : SV T1 w1 N H) : RV T1 w1 N H := by
  obtain ⟨h1, h2, h3, h4', h5, h6, h7⟩ := h
  refine ⟨p, fun j hj => ?_, fun j j2 a b => ?_, fun j hj => ?_, ?_, h6, h7⟩
  · have := h2 j hj
    unfold PV at this ⊢
    rw [hw (8 * j + 13) (by omega), hw (8 * j + 14) (by omega), hw (8 * j + 15) (by omega), hw (8 * j + 16) (by omega), hw (8 * j + 17) (by omega), hw (8 * j + 18) (by omega), hw (8 * j + 19) (by omega), hw (8 * j + 20) (by omega)]
    obtain ⟨a1, a2, a3⟩ := this
    exact ⟨a1, by omega, a3⟩
  · rw [hw _ (by omega), hw _ (by omega)]
    exact h3 j j2 a b
  · have := h4' j hj
    unfold HV
    rw [hw _ (by omega), hw _ (by omega)]
    exact this
  · rw [inW_eq N 0 (fun k a b => hw _ (by omega))]
    exact h5
end
