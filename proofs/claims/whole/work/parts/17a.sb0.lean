/-! ROWS for text: fresh addresses, array copies -/
theorem fvA {m : mM} {ci k a q : Nat} {ty : FieldType} (ht : tyOf ci k = .array ty) (h : gR m (32 * ci + k) a = some q) : fv (tyOf ci k) m (32 * ci + k) a = .ref q := by
  rw [ht]
  exact fvR h
/-- every cell lies below the end -/
def mF (m : mM) : Prop := ∀ (a : Nat) (kd : mK), gK m a = some kd → a < gN m
theorem mV_fresh {g : mG} {x : mCx} {m : mM} {ce sl pc : Nat} {lv : List (Nat × Value)} {st : List Value} (kk : mF m → mV g x m ce sl pc lv st) : mV g x m ce sl pc lv st := by
  obtain ⟨p, l', e, R, s, md, args, below, meth, c, Q⟩ := x
  intro H locs ls hP hz hL hl
  refine kk (fun a kd h => ?_) H locs ls hP hz hL hl
  have h1 := (hP.2.2 a kd h).2
  rw [← hP.1.1]
  cases kd with
  | inl ci =>
    obtain ⟨r, -, ⟨cell, q1, -⟩, -⟩ := h1
    exact (Array.getElem?_eq_some_iff.mp q1).1
  | inr tn => exact (Array.getElem?_eq_some_iff.mp h1).1
/-- a whole row of an array -/
def sW (m : mM) (a : Nat) (f : Nat → Int32) : mM := (gN m, gK m, gI m, gJ m, gR m, (fun b => if b = a then f else gA m b), gQ m, gL m, gD m)
theorem mw : (∀ (m : mM) (a : Nat) (f : Nat → Int32), gN (sW m a f) = gN m) ∧ (∀ (m : mM) (a : Nat) (f : Nat → Int32), gK (sW m a f) = gK m) ∧ (∀ (m : mM) (a : Nat) (f : Nat → Int32), gI (sW m a f) = gI m) ∧ (∀ (m : mM) (a : Nat) (f : Nat → Int32), gJ (sW m a f) = gJ m) ∧ (∀ (m : mM) (a : Nat) (f : Nat → Int32), gR (sW m a f) = gR m) ∧ (∀ (m : mM) (a b : Nat) (f : Nat → Int32), gA (sW m a f) b = if b = a then f else gA m b) ∧ (∀ (m : mM) (a : Nat) (f : Nat → Int32), gQ (sW m a f) = gQ m) ∧ (∀ (m : mM) (a : Nat) (f : Nat → Int32), gL (sW m a f) = gL m) ∧ (∀ (m : mM) (a : Nat) (f : Nat → Int32), gD (sW m a f) = gD m) := by
  refine ⟨?_, ?_, ?_, ?_, ?_, ?_, ?_, ?_, ?_⟩ <;> (intros; rfl)
theorem mS_W {m : mM} {a b : Nat} {f : Nat → Int32} (h : b ≠ a) : mS m (sW m a f) b := ⟨fun _ => rfl, fun _ => rfl, fun _ => rfl, if_neg h, rfl, rfl, rfl⟩
theorem nI_i {n : Nat} (h : n < 2 ^ 31) : (nI n).toInt = ((nI n).toNatClampNeg : Int) := by rw [nI_clamp h, nI_toInt h]
/-- System.arraycopy of bytes, from the starts of both -/
theorem v_acopy {l : Launch} {g : mG} {x : mCx} {m : mM} {cc : ByteArray} {y : MethodName} {rm : Room} {nL : Nat} {ce sl pc : Nat} {lv : List (Nat × Value)} {st : List Value} {index a0 a n0 n1 n : Nat} {w : Int32} (hX : mX l g x cc y rm nL) (hdg : decode cc pc = .ok (.invokestatic index, 3)) (h1 : Cond.methodLink y.cls index arraycopyName ∈ gw) (h2 : Cond.native arraycopyName ∈ gw) (h3 : Cond.static arraycopyName ∈ gw) (h4 : Cond.initialized "java/lang/System" ∈ gw) (hκ0 : gK m a0 = some (.inr (2, n0))) (hκ1 : gK m a = some (.inr (2, n1))) (hw : w = nI n) (hn0 : n ≤ n0) (hn1 : n ≤ n1) (hn : n < 2 ^ 31) (hfit : ∀ i, fits .byte (.int (gA m a0 i)) = true) (hcat : (st.map fun v => v.category).sum ≤ 8) (hR : 1 ≤ rm.frames ∧ 26 ≤ rm.locals) (kk : mV g x (sW m a (va_cpy (gA m a0) (gA m a) 0 0 n)) ce sl (pc + 3) lv st) : mV g x m ce sl pc lv (.int w :: .int 0 :: .ref a :: .int 0 :: .ref a0 :: st) := by
  obtain ⟨p, l', e, R, s, md, args, below, meth, c, Q⟩ := x
  obtain ⟨rfl, hx, hb, hml, ⟨hown, hnm⟩, hts, hvm, rfl, hO, hH9⟩ := hX
  subst hw
  intro H locs ls hP hz hL hl T hT X
  have hc0 : H[a0]? = some (vp_cell (g.2.1 2) (n0, .inl (gA m a0))) := (hP.2.2 a0 _ hκ0).2
  have hc1 : H[a]? = some (vp_cell (g.2.1 2) (n1, .inl (gA m a))) := (hP.2.2 a _ hκ1).2
  have hA := ((mO_K hO hvm).2 2 _ (tysL_at _ (by omega))).1
  obtain ⟨-, k0, hk0, cm0, hkk0⟩ := hA n0 (fun j => .int (gA m a0 j))
  obtain ⟨-, k1, hk1, cm1, hkk1⟩ := hA n1 (fun j => .int (gA m a j))
  have hcl := nI_clamp hn
  have z0 : (0 : Int32).toNatClampNeg = 0 := by decide
  obtain ⟨vm', X', step⟩ := X.arraycopy hx hown (hts _ h1) (hts _ h2) (hts _ h3) (hts _ h4) (src := a0) (dst := a) (cs := vp_cell (g.2.1 2) (n0, .inl (gA m a0))) (cd := vp_cell (g.2.1 2) (n1, .inl (gA m a))) (srcPos := 0) (destPos := 0) (n := nI n) (by rw [hT]; exact hc0) (by rw [hT]; exact hc1)
    (fun _ h => by cases h) (fun _ h => by cases h) (fun h => by cases h) (fun h => by cases h) hk0 hk1 hkk0 hkk1 (by rfl) (by decide) (by decide) (nI_pos hn)
    (by rw [nI_toInt hn]; show ¬ _ > ((arrV (g.2.1 2) n0 (fun j => .int (gA m a0 j))).slots.size : Int); rw [arrV_size]; show ¬ (0 : Int32).toInt + _ > _; rw [show (0 : Int32).toInt = 0 by decide]; omega)
    (by rw [nI_toInt hn]; show ¬ _ > ((arrV (g.2.1 2) n1 (fun j => .int (gA m a j))).slots.size : Int); rw [arrV_size]; show ¬ (0 : Int32).toInt + _ > _; rw [show (0 : Int32).toInt = 0 by decide]; omega)
    (fun vm₁ _ i hi => by
      rw [hcl] at hi
      have e9 : (vp_cell (g.2.1 2) (n0, .inl (gA m a0))).slots.getD ((0 : Int32).toNatClampNeg + i) .null = .int (gA m a0 ((0 : Int32).toNatClampNeg + i)) := by
        show (arrV (g.2.1 2) n0 (fun j => .int (gA m a0 j))).slots.getD _ _ = _
        rw [Array.getD_eq_getD_getElem?, arrV_read _ _ (by rw [z0]; omega)]
        rfl
      refine ⟨?_, ?_⟩
      · rw [e9]
        exact hfit _
      · rw [e9]
        exact trivial)
    (g := F0 md pc ls (.int (nI n) :: .int 0 :: .ref a :: .int 0 :: .ref a0 :: st)) rfl hl.1 (rest := st) rfl (by rw [hb]; exact hdg) hR.1 (by show 2 * 0 + _ + _ ≤ _; rw [show nativeFrameWords "java/lang/System" "arraycopy" 5 = 7 by decide]; have := hR.2; omega)
  have e1 : copied (vp_cell (g.2.1 2) (n0, .inl (gA m a0))) (vp_cell (g.2.1 2) (n1, .inl (gA m a))) 0 0 (nI n) = vp_cell (g.2.1 2) (n1, .inl (va_cpy (gA m a0) (gA m a) (0 : Int32).toNatClampNeg (0 : Int32).toNatClampNeg (nI n).toNatClampNeg)) := va_copied (fun z => .int z) (g.2.1 2) (g.2.1 2) (gA m a0) (gA m a) (by rw [z0, hcl]; omega)
  rw [z0, hcl] at e1
  rw [e1] at X' step
  have hlt : a < H.size := (Array.getElem?_eq_some_iff.mp hc1).1
  have hheap : ((T.setVm vm').setCell a (vp_cell (g.2.1 2) (n1, .inl (va_cpy (gA m a0) (gA m a) 0 0 n)))).heap = H.setIfInBounds a (vp_cell (g.2.1 2) (n1, .inl (va_cpy (gA m a0) (gA m a) 0 0 n))) := by rw [← hT]; rfl
  have oq : ∀ q : Nat, q ≠ a → (H.setIfInBounds a (vp_cell (g.2.1 2) (n1, .inl (va_cpy (gA m a0) (gA m a) 0 0 n))))[q]? = H[q]? := fun q hq => by simp [Array.getElem?_setIfInBounds, Ne.symm hq]
  have hP1 : mP g (sW m a (va_cpy (gA m a0) (gA m a) 0 0 n)) (H.setIfInBounds a (vp_cell (g.2.1 2) (n1, .inl (va_cpy (gA m a0) (gA m a) 0 0 n)))) := by
    refine mP_arr hP hκ1 rfl rfl (fun b hb => mS_W hb) (by simp) oq ?_
    show (H.setIfInBounds a _)[a]? = some (vp_cell (g.2.1 2) (n1, .inl (gA (sW m a (va_cpy (gA m a0) (gA m a) 0 0 n)) a)))
    have e3 : gA (sW m a (va_cpy (gA m a0) (gA m a) 0 0 n)) a = va_cpy (gA m a0) (gA m a) 0 0 n := if_pos rfl
    rw [e3]
    simp [Array.getElem?_setIfInBounds, hlt]
  obtain ⟨t, a1, b1⟩ := kk _ _ ls hP1 hz (fun q hq => by
      rcases List.mem_append.mp hq with h | h
      · exact hL q h
      · obtain ⟨z, -, hz9⟩ := List.mem_map.mp h
        rw [← hz9]
        exact (hP.2.2 a _ hκ1).1) hl _ hheap X'
  exact ⟨t, step t a1, b1⟩
