/-! QUERIES THAT LOOK AHEAD -/
section
variable {g : mG} {mc mr m m1 mr1 : mM} {b r T N H c f i : Nat}
theorem CALL.cl {tab : List (String × Int32)} {x : Option String} {P : Prop} (h : OBJ g mc mr b r T) (hSB : SB m1 b) (e : Fr (b + 195) (b + 195 + 19) mc m1) (q : RT r mr mr1) (t : (x = none ∧ gI mr1 384 r = 0 ∧ P) ∨ ∃ E k, x = some E ∧ tab.lookup E = some k ∧ gI mr1 384 r = k) : CALL g b r T mc mr m1 mr1 tab x P :=
  ⟨(h.fc hSB (fun a ha => Sm.of e (by omega))).tt q.1 q.2.1 q.2.2.1 q.2.2.2, fun a ha => Sm.of e (by omega), fun a ha => q.1 a (by omega) (by omega), t⟩
theorem nI_same {a b : Nat} (h1 : a < 2 ^ 31) (h2 : b < 2 ^ 31) (h : nI a = nI b) : a = b := by
  have e := congrArg Int32.toInt h
  rw [nI_toInt h1, nI_toInt h2] at e
  omega
theorem onCF {a d : Int32} (hF : FR g m f (gA mr (r + 1)) N H) (hc : SC m c) (hd : f + 16 ≤ c ∨ c + 19 ≤ f) (hi : i < N) (hx : X11_find_r g mr r a N = nI i) : X2_minutesOnCopy_r g m c f a d N = coolN d (gA mr (r + 1) (8 * i + 18)) 201 0 (gA mr (r + 1) (8 * i + 15)) (gA mr (r + 1) 1) (gA mr (r + 1) 2) (gA mr (r + 1) 3) := by
  have hN8 := hF.2.2.2.2.1
  have hC := copy_FR hF hc.f (by omega)
  unfold X2_minutesOnCopy_r
  generalize X3_copyFrom_m g m (c + 1) f = M at *
  rcases fi_of (mr := mr) (r := r) hC a with ⟨h1, h2, h3⟩ | ⟨k, hk, h1, h2, h3⟩
  · exact absurd (hx.symm.trans h2) (nI_nm (by omega))
  · have hik := nI_same (by omega) (by omega) (hx.symm.trans h2)
    subst hik
    rw [h1]
    show (X2_minutesOnCopy_l1 g c f a d N 201 0 (pa M (c + 1) i) M).1 = _
    rw [onC 201 0 M hC.1 hi hN8]
    obtain ⟨-, -, p3, -, -, p6, -⟩ := hC.2.2.1 i hi
    obtain ⟨-, s2, s3, s4, -⟩ := hC.2.1
    rw [p3, p6, s2, s3, s4]
theorem aloF {a d : Int32} (hF : FR g m f (gA mr (r + 1)) N H) (hd : f + 16 ≤ c ∨ c + 19 ≤ f) (hi : i < N) (hx : X11_find_r g mr r a N = nI i) : X2_minutesAlone_r g m c f a d N = coolN d (gA mr (r + 1) (8 * i + 18)) 201 0 (gA mr (r + 1) (8 * i + 15)) (gA mr (r + 1) 1) (gA mr (r + 1) 2) (gA mr (r + 1) 3) := by
  have hN8 := hF.2.2.2.2.1
  unfold X2_minutesAlone_r
  rcases fi_of (mr := mr) (r := r) hF a with ⟨h1, h2, h3⟩ | ⟨k, hk, h1, h2, h3⟩
  · exact absurd (hx.symm.trans h2) (nI_nm (by omega))
  · have hik := nI_same (by omega) (by omega) (hx.symm.trans h2)
    subst hik
    rw [h1]
    show (X2_minutesAlone_l1 g c f a d N 201 0 (pa m f i) _).1 = _
    rw [alo 201 0]
    obtain ⟨-, -, p3, -, -, p6, -⟩ := hF.2.2.1 i hi
    obtain ⟨-, s2, s3, s4, -⟩ := hF.2.1
    have e3 : ∀ q, gI (X7_copyFrom_m g (X4_copyFrom_m g m (c + 17) (f + 1)) (c + 18) q) 290 (c + 18) = gI m 290 q := fun q => by
      unfold X7_copyFrom_m X4_copyFrom_m
      simp [mm]
    have e6 : ∀ q, gI (X7_copyFrom_m g (X4_copyFrom_m g m (c + 17) (f + 1)) (c + 18) q) 293 (c + 18) = gI m 293 q := fun q => by
      unfold X7_copyFrom_m X4_copyFrom_m
      simp [mm]
    have f2 : ∀ q, gI (X7_copyFrom_m g (X4_copyFrom_m g m (c + 17) (f + 1)) (c + 18) q) 192 (c + 17) = gI m 192 (f + 1) := fun q => by
      unfold X7_copyFrom_m X4_copyFrom_m
      simp [mm]
    have f3 : ∀ q, gI (X7_copyFrom_m g (X4_copyFrom_m g m (c + 17) (f + 1)) (c + 18) q) 193 (c + 17) = gI m 193 (f + 1) := fun q => by
      unfold X7_copyFrom_m X4_copyFrom_m
      simp [mm]
    have f4 : ∀ q, gI (X7_copyFrom_m g (X4_copyFrom_m g m (c + 17) (f + 1)) (c + 18) q) 194 (c + 17) = gI m 194 (f + 1) := fun q => by
      unfold X7_copyFrom_m X4_copyFrom_m
      simp [mm]
    rw [e3, e6, f2, f3, f4, p3, p6, s2, s3, s4]
/-- the reference's answer: nothing of the number, outside, never, or minutes -/
theorem refF {a d : Int32} (V0 : RV T (gA mr (r + 1)) N H) (hi : i < N) (hx : X11_find_r g mr r a N = nI i) (hd : isI d 20 1200 ≠ 0) : RT r mr (X11_minutesToCool_m g mr r a d N) ∧ ((coolN d (gA mr (r + 1) (8 * i + 18)) 201 0 (gA mr (r + 1) (8 * i + 15)) (gA mr (r + 1) 1) (gA mr (r + 1) 2) (gA mr (r + 1) 3) = -1 ∧ gI (X11_minutesToCool_m g mr r a d N) 384 r = 3) ∨ (coolN d (gA mr (r + 1) (8 * i + 18)) 201 0 (gA mr (r + 1) (8 * i + 15)) (gA mr (r + 1) 1) (gA mr (r + 1) 2) (gA mr (r + 1) 3) ≠ -1 ∧ X11_minutesToCool_r g mr r a d N = coolN d (gA mr (r + 1) (8 * i + 18)) 201 0 (gA mr (r + 1) (8 * i + 15)) (gA mr (r + 1) 1) (gA mr (r + 1) 2) (gA mr (r + 1) 3) ∧ gI (X11_minutesToCool_m g mr r a d N) 384 r = 0)) := by
  have hN8 := V0.2.2.2.2.2.1
  have hp : (0 : Int32) ≤ nI i := nI_pos' (by omega)
  unfold X11_minutesToCool_m X11_minutesToCool_r
  rw [hx, if_pos hp, if_neg hd, nI_clamp (show i < 2 ^ 31 by omega)]
  obtain ⟨t1, t2, t3, t4, t5, t6⟩ := think_f (g := g) V0
  generalize X11_thinks_m g (sI mr 384 r 0) r = M at *
  have h01 := (V0.2.1 i hi).2.2.2.2.2.2.2.2.2.1
  have hg : gA M (r + 1) (8 * i + 18) = gA mr (r + 1) (8 * i + 18) := by rw [(t1.1 (r + 1) (by omega) (by omega)).gA]
  obtain ⟨u1, u2⟩ := refC (g := g) (a := a) (d := d) (N := N) (show i < 8 by omega) h01 200 0 (gA mr (r + 1) (8 * i + 15)) M t2 hg (by omega)
  rw [t3, t4, t5] at u2
  exact ⟨t1.tr u1, u2⟩
theorem coolX (d : Int32) : (if d < 20 then (some "java/lang/IllegalArgumentException" : Option String) else (if d ≤ 1200 then none else (some "java/lang/IllegalArgumentException"))) = if isI d 20 1200 = 0 then some "java/lang/IllegalArgumentException" else none := by
  have e := isI_b d 20 1200
  simp only [tl] at e
  by_cases c1 : d < 20
  · have c := c1
    rw [ti.1] at c
    simp only [tl] at c
    rw [if_pos c1, if_pos (e.mpr (by omega))]
  · have c := c1
    rw [ti.1] at c
    simp only [tl] at c
    rw [if_neg c1]
    by_cases c2 : d ≤ 1200
    · have k := c2
      rw [ti.2.1] at k
      simp only [tl] at k
      rw [if_pos c2, if_neg (fun z => e.mp z (by omega))]
    · have k := c2
      rw [ti.2.1] at k
      simp only [tl] at k
      rw [if_neg c2, if_pos (e.mpr (by omega))]
theorem SB.oc {a d : Int32} (h : SB m b) : SB (X2_minutesOnCopy_m g m (b + 195) (b + 1) a d N) b := h.to (by rw [kK_X2_minutesOnCopy]) (fun k hk a => by rw [kR_X2_minutesOnCopy _ _ _ _ _ _ _ _ _ hk]) (by rw [kQ_X2_minutesOnCopy])
theorem SB.ac {a d : Int32} (h : SB m b) : SB (X2_minutesAlone_m g m (b + 195) (b + 1) a d N) b := h.to (by rw [kK_X2_minutesAlone]) (fun k hk a => by rw [kR_X2_minutesAlone _ _ _ _ _ _ _ _ _ hk]) (by rw [kQ_X2_minutesAlone])
theorem q_minutesToCool (h : OBJ g mc mr b r T) (F0 : FR g mc (b + 1) (gA mr (r + 1)) N H) (V0 : RV T (gA mr (r + 1)) N H) (a d : Int32) : CALL g b r T mc mr (X10_minutesToCool_m g mc b a d N) (X11_minutesToCool_m g mr r a d N) [("java/util/NoSuchElementException", 1), ("java/lang/IllegalArgumentException", 2), ("java/lang/IllegalStateException", 3)] (X10_minutesToCool_x g mc b a d N) (X10_minutesToCool_r g mc b a d N = X11_minutesToCool_r g mr r a d N) := by
  have hN8 := F0.2.2.2.2.1
  unfold X10_minutesToCool_x X10_minutesToCool_r X10_minutesToCool_m X10_checkCooling_x X10_foundMinutes_x X10_foundMinutes_r
  rcases fi_of (mr := mr) (r := r) F0 a with ⟨h1, h2, h3⟩ | ⟨i, hi, h1, h2, h3⟩
  · unfold X11_minutesToCool_m X11_minutesToCool_r
    simp only [h1, h2, if_neg n01]
    exact CALL.qx h rfl
  · have hp : (0 : Int32) ≤ nI i := nI_pos' (by omega)
    simp only [h1, coolX]
    by_cases cd : isI d 20 1200 = 0
    · unfold X11_minutesToCool_m X11_minutesToCool_r
      simp only [h2, if_pos hp, if_pos cd]
      exact CALL.qx h rfl
    · simp only [if_neg cd]
      obtain ⟨u1, u2⟩ := refF (g := g) V0 hi h2 cd
      rw [onCF (d := d) F0 h.1.c (by omega) hi h2]
      have fr := fr_X2_minutesOnCopy g mc (b + 195) (b + 1) a d N h.1.c h.1.f1 hN8
      have sb : SB (X2_minutesOnCopy_m g mc (b + 195) (b + 1) a d N) b := h.1.oc
      generalize X2_minutesOnCopy_m g mc (b + 195) (b + 1) a d N = M at *
      rcases u2 with ⟨c1, c2⟩ | ⟨c1, c2, c3⟩
      · simp only [if_pos c1]
        exact CALL.cl h sb fr u1 (Or.inr ⟨_, 3, rfl, rfl, c2⟩)
      · simp only [if_neg c1]
        exact CALL.cl h sb fr u1 (Or.inl ⟨rfl, c3, c2.symm⟩)
theorem q_minutesToCoolAlone (h : OBJ g mc mr b r T) (F0 : FR g mc (b + 1) (gA mr (r + 1)) N H) (V0 : RV T (gA mr (r + 1)) N H) (a d : Int32) : CALL g b r T mc mr (X10_minutesToCoolAlone_m g mc b a d N) (X11_minutesToCoolAlone_m g mr r a d N) [("java/util/NoSuchElementException", 1), ("java/lang/IllegalArgumentException", 2), ("java/lang/IllegalStateException", 3)] (X10_minutesToCoolAlone_x g mc b a d N) (X10_minutesToCoolAlone_r g mc b a d N = X11_minutesToCoolAlone_r g mr r a d N) := by
  have hN8 := F0.2.2.2.2.1
  unfold X10_minutesToCoolAlone_x X10_minutesToCoolAlone_r X10_minutesToCoolAlone_m X10_checkCooling_x X10_foundMinutes_x X10_foundMinutes_r X11_minutesToCoolAlone_m X11_minutesToCoolAlone_r
  rcases fi_of (mr := mr) (r := r) F0 a with ⟨h1, h2, h3⟩ | ⟨i, hi, h1, h2, h3⟩
  · unfold X11_minutesToCool_m X11_minutesToCool_r
    simp only [h1, h2, if_neg n01]
    exact CALL.qx h rfl
  · have hp : (0 : Int32) ≤ nI i := nI_pos' (by omega)
    simp only [h1, coolX]
    by_cases cd : isI d 20 1200 = 0
    · unfold X11_minutesToCool_m X11_minutesToCool_r
      simp only [h2, if_pos hp, if_pos cd]
      exact CALL.qx h rfl
    · simp only [if_neg cd]
      obtain ⟨u1, u2⟩ := refF (g := g) V0 hi h2 cd
      rw [aloF (c := b + 195) (d := d) F0 (by omega) hi h2]
      have fr := fr_X2_minutesAlone g mc (b + 195) (b + 1) a d N h.1.c h.1.f1 hN8
      have sb : SB (X2_minutesAlone_m g mc (b + 195) (b + 1) a d N) b := h.1.ac
      generalize X2_minutesAlone_m g mc (b + 195) (b + 1) a d N = M at *
      rcases u2 with ⟨c1, c2⟩ | ⟨c1, c2, c3⟩
      · simp only [if_pos c1]
        exact CALL.cl h sb fr u1 (Or.inr ⟨_, 3, rfl, rfl, c2⟩)
      · simp only [if_neg c1]
        exact CALL.cl h sb fr u1 (Or.inl ⟨rfl, c3, c2.symm⟩)
end
