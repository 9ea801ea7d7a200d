/-! quenching, tests -/
section
variable {g : mG} {mc mr : mM} {f r N H T i : Nat} {w : Nat → Int32}
theorem sim_chill (hF : FR g mc f (gA mr (r + 1)) N H) (hV : RV T (gA mr (r + 1)) N H) (h0 : gI mr 384 r = 0) {a ix : Int32} (hI : FI g mc f a N (gA mr (r + 1)) ix) : SIM g f r (pl5 1 0 0 2 3) T mc (X3_chill_m g mc f a N) (X3_chill_r g mc f a N) (X11_quenches_m g mr r ix) (X11_quenches_r g mr r ix) := by
  have hN8 := hF.2.2.2.2.1
  unfold X3_chill_m X3_chill_r X11_quenches_m X11_quenches_r
  rcases hI with ⟨h1, h2, -⟩ | ⟨i, hi, h1, h2, h3⟩
  · rw [h1, h2, if_neg (by decide), if_neg (by decide)]
    exact SIM.no1 (by decide)
  rw [h1, h2, if_pos (nI_pos' (by omega)), if_pos (nI_pos' (by omega))]
  simp only
  obtain ⟨p1, p2, p3, p4, p5, p6, p7, p8⟩ := hF.2.2.1 i hi
  obtain ⟨a1, a2, a3, a4, a5, a6, a7, a8, a9, a10, a11, a12⟩ := hV.2.1 i hi
  rw [hd_eq, nI_clamp (show i < 2 ^ 31 by omega)]
  unfold X7_harden_m
  rw [p6, p7, p3, p5]
  by_cases c1 : gA mr (r + 1) (8 * i + 18) = 0
  rotate_left
  · have d1 : gA mr (r + 1) (8 * i + 18) = 1 := by rcases a10 with e | e; exact absurd e c1; exact e
    rw [if_neg c1, if_neg c1, if_pos d1, if_pos d1]
    exact SIM.no4 (by decide)
  have d1 : ¬ gA mr (r + 1) (8 * i + 18) = 1 := (in01 a10).mp c1
  rw [if_pos c1, if_pos c1, if_neg d1, if_neg d1]
  by_cases c2 : gA mr (r + 1) (8 * i + 19) = 0
  rotate_left
  · have d2 : gA mr (r + 1) (8 * i + 19) = 1 := by rcases a11 with e | e; exact absurd e c2; exact e
    rw [if_neg c2, if_neg c2, if_pos d2, if_pos d2]
    exact SIM.no4 (by decide)
  have d2 : ¬ gA mr (r + 1) (8 * i + 19) = 1 := (in01 a11).mp c2
  rw [if_pos c2, if_pos c2, if_neg d2, if_neg d2]
  by_cases c3 : 700 ≤ gA mr (r + 1) (8 * i + 15)
  rotate_left
  · rw [if_neg c3, if_neg c3, if_neg c3, if_neg c3]
    exact SIM.no5 (by decide)
  rw [if_pos c3, if_pos c3, if_pos c3, if_pos c3]
  rw [ti.2.1] at c3
  simp only [tl] at c3
  have t1 : (gA mr (r + 1) (8 * i + 15) - 600).toInt = (gA mr (r + 1) (8 * i + 15)).toInt - 600 := by
    rw [Kit.i32_sub (by simp only [tl]; omega) (by simp only [tl]; omega)]
    simp only [tl]
  have t2 : ((gA mr (r + 1) (8 * i + 15) - 600) / 8).toInt = ((gA mr (r + 1) (8 * i + 15)).toInt - 600) / 8 := by
    rw [i32_div0 (by omega) (by simp only [tl]; omega), t1]
    simp only [tl]
  have t3 : (gA mr (r + 1) (8 * i + 17) + (gA mr (r + 1) (8 * i + 15) - 600) / 8).toInt = (gA mr (r + 1) (8 * i + 17)).toInt + ((gA mr (r + 1) (8 * i + 15)).toInt - 600) / 8 := by
    rw [Kit.i32_add (by rw [t2]; omega) (by rw [t2]; omega), t2]
  have tM : 0 ≤ (imin 99 (gA mr (r + 1) (8 * i + 17) + (gA mr (r + 1) (8 * i + 15) - 600) / 8)).toInt ∧ (imin 99 (gA mr (r + 1) (8 * i + 17) + (gA mr (r + 1) (8 * i + 15) - 600) / 8)).toInt ≤ 99 := by
    rw [imin_t, t3]
    simp only [tl]
    split <;> omega
  generalize imin 99 (gA mr (r + 1) (8 * i + 17) + (gA mr (r + 1) (8 * i + 15) - 600) / 8) = hv at *
  have eA : gI (sI mc 292 (pa mc f i) hv) 292 (pa mc f i) = hv := by simp [mm]
  rw [eA]
  have eW : gA (sA (sA (sA mr (r + 1) (8 * i + 17) hv) (r + 1) (8 * i + 15) 20) (r + 1) (8 * i + 19) 1) (r + 1) = upd (upd (upd (gA mr (r + 1)) (8 * i + 17) hv) (8 * i + 15) 20) (8 * i + 19) 1 := by rw [gA_same, gA_same, gA_same]
  refine SIM.ok (N := N) (H := H) tM.1 (by rw [gA_same, ui rfl]) (by simp [mm, h0]) ?_ ?_
  · rw [eW]
    refine hF.pc hi rfl (fun q hq => mS_tr (mS_I hq) (mS_tr (mS_I hq) (mS_I hq))) (fun k hk => by rw [un (by omega), un (by omega), un (by omega)]) ?_
    refine ⟨?_, ?_, ?_, ?_, ?_, ?_, ?_, ?_⟩
    all_goals simp only [mm, upd]
    all_goals simp [p1, p2, p3, p4, p5, p6, p7]
    exact p8
  · rw [eW]
    refine hV.pc hi (fun k hk => by rw [un (by omega), un (by omega), un (by omega)]) (by rw [un (by omega), un (by omega), un (by omega)]) ?_ ?_
    · have u : ∀ k, k ≠ 8 * i + 17 → k ≠ 8 * i + 15 → k ≠ 8 * i + 19 → upd (upd (upd (gA mr (r + 1)) (8 * i + 17) hv) (8 * i + 15) 20) (8 * i + 19) 1 k = gA mr (r + 1) k := fun k h1 h2 h3 => by rw [un h3, un h2, un h1]
      have e19 : upd (upd (upd (gA mr (r + 1)) (8 * i + 17) hv) (8 * i + 15) 20) (8 * i + 19) 1 (8 * i + 19) = 1 := ui rfl
      have e15 : upd (upd (upd (gA mr (r + 1)) (8 * i + 17) hv) (8 * i + 15) 20) (8 * i + 19) 1 (8 * i + 15) = 20 := by rw [un (by omega), ui rfl]
      have e17 : upd (upd (upd (gA mr (r + 1)) (8 * i + 17) hv) (8 * i + 15) 20) (8 * i + 19) 1 (8 * i + 17) = hv := by rw [un (by omega), un (by omega), ui rfl]
      unfold PV
      rw [e19, e15, e17, u (8 * i + 13) (by omega) (by omega) (by omega), u 4 (by omega) (by omega) (by omega), u (8 * i + 14) (by omega) (by omega) (by omega), u (8 * i + 16) (by omega) (by omega) (by omega), u (8 * i + 18) (by omega) (by omega) (by omega), u (8 * i + 20) (by omega) (by omega) (by omega)]
      refine ⟨a1, a2, a3, by decide, by decide, a6, a7, tM.1, tM.2, a10, Or.inr rfl, ?_⟩
      rcases a12 with e | e
      · exact Or.inl e
      · exact Or.inr ⟨e.1, rfl⟩
    · rw [inW_eq N 0 (fun k q1 q2 => by rw [un (by omega), un (by omega), un (by omega)])]
      exact hV.2.2.2.2.1
theorem sIR (m : mM) (k a : Nat) (x : Int32) (k' a' : Nat) (o : Option Nat) : sR (sI m k a x) k' a' o = sI (sR m k' a' o) k a x := rfl
/-- a test that was made: t = 1 it passed, t = 2 it failed -/
theorem exam_ok (hF : FR g mc f (gA mr (r + 1)) N H) (hV : RV T (gA mr (r + 1)) N H) (h0 : gI mr 384 r = 0) (hi : i < N) (hq : gA mr (r + 1) (8 * i + 19) = 1) {t : Nat} {x y : Int32} (ht : (t = 1 ∧ x = 1) ∨ (t = 2 ∧ x = 2)) {pl : Int32 → Int32} {ans : Int32} (hans : 0 ≤ ans.toInt) : SIM g f r pl T mc (sI (sI (sR mc 295 (pa mc f i) (some (vdA g t))) 169 f (gI mc 169 f + 1)) 170 f (gI mc 170 f + y)) ans (sA (sA (sA mr (r + 1) (8 * i + 20) x) (r + 1) 11 (gA mr (r + 1) 11 + 1)) (r + 1) 12 (gA mr (r + 1) 12 + y)) ans := by
  have hN8 := hF.2.2.2.2.1
  obtain ⟨p1, p2, p3, p4, p5, p6, p7, p8⟩ := hF.2.2.1 i hi
  obtain ⟨a1, a2, a3, a4, a5, a6, a7, a8, a9, a10, a11, a12⟩ := hV.2.1 i hi
  have q1 := hF.1.lo (i := i) (by omega)
  have eW : gA (sA (sA (sA mr (r + 1) (8 * i + 20) x) (r + 1) 11 (gA mr (r + 1) 11 + 1)) (r + 1) 12 (gA mr (r + 1) 12 + y)) (r + 1) = upd (upd (upd (gA mr (r + 1)) (8 * i + 20) x) 11 (gA mr (r + 1) 11 + 1)) 12 (gA mr (r + 1) 12 + y) := by rw [gA_same, gA_same, gA_same]
  have F1 : FR g (sR mc 295 (pa mc f i) (some (vdA g t))) f (upd (gA mr (r + 1)) (8 * i + 20) x) N H := by
    refine hF.pc hi rfl (fun q hq => mS_R hq) (fun k hk => un (by omega)) ?_
    refine ⟨?_, ?_, ?_, ?_, ?_, ?_, ?_, ?_⟩
    all_goals first | (rw [un (by omega)]; assumption) | skip
    rw [ui rfl]
    unfold PT
    have e : gR (sR mc 295 (pa mc f i) (some (vdA g t))) 295 (pa mc f i) = some (vdA g t) := by simp [mm]
    rw [e]
    rcases ht with ⟨rfl, rfl⟩ | ⟨rfl, rfl⟩
    · exact Or.inr (Or.inl ⟨rfl, rfl⟩)
    · exact Or.inr (Or.inr ⟨rfl, rfl⟩)
  have V1 : RV T (upd (gA mr (r + 1)) (8 * i + 20) x) N H := by
    refine hV.pc hi (fun k hk => un (by omega)) (un (by omega)) ?_ ?_
    · unfold PV
      rw [ui rfl, un (by omega), un (by omega), un (by omega), un (by omega), un (by omega), un (by omega), un (by omega), un (by omega)]
      refine ⟨a1, a2, a3, a4, a5, a6, a7, a8, a9, a10, a11, Or.inr ⟨?_, hq⟩⟩
      rcases ht with ⟨-, rfl⟩ | ⟨-, rfl⟩
      · exact Or.inl rfl
      · exact Or.inr rfl
    · rw [inW_eq N 0 (fun k q1 q2 => un (by omega))]
      exact hV.2.2.2.2.1
  refine SIM.ok (N := N) (H := H) hans rfl (by simp [mm, h0]) ?_ ?_
  · rw [eW]
    refine F1.sc rfl (fun k => rfl) (fun q h1 h2 => mS_tr (mS_I h1) (mS_I h1)) (fun k hk => by rw [un (by omega), un (by omega)]) ?_
    obtain ⟨s1, s2, s3, s4, s5, s6, s7, s8, s9, s10, s11, s12, s13⟩ := hF.2.1
    unfold FS
    have u : ∀ k, k < 11 → upd (upd (upd (gA mr (r + 1)) (8 * i + 20) x) 11 (gA mr (r + 1) 11 + 1)) 12 (gA mr (r + 1) 12 + y) k = gA mr (r + 1) k := fun k h1 => by rw [un (by omega), un (by omega), un (by omega)]
    rw [ui rfl, un (j := 11) (by omega), ui rfl, u 0 (by omega), u 1 (by omega), u 2 (by omega), u 3 (by omega), u 4 (by omega), u 5 (by omega), u 6 (by omega), u 7 (by omega), u 8 (by omega), u 9 (by omega), u 10 (by omega)]
    refine ⟨?_, ?_, ?_, ?_, ?_, ?_, ?_, ?_, ?_, ?_, ?_, ?_, ?_⟩
    all_goals simp [mm, s1, s2, s3, s4, s5, s6, s7, s8, s9, s10, s11, s12, s13]
  · rw [eW]
    refine V1.sc (fun k hk => by rw [un (by omega), un (by omega)]) (by rw [un (by omega), un (by omega)]; exact Int.le_refl _) ?_
    have hs := V1.1
    unfold SV at hs ⊢
    have u : ∀ k, k ≠ 11 → k ≠ 12 → upd (upd (upd (gA mr (r + 1)) (8 * i + 20) x) 11 (gA mr (r + 1) 11 + 1)) 12 (gA mr (r + 1) 12 + y) k = upd (gA mr (r + 1)) (8 * i + 20) x k := fun k h1 h2 => by rw [un h2, un h1]
    rw [u 1 (by omega) (by omega), u 2 (by omega) (by omega), u 3 (by omega) (by omega), u 4 (by omega) (by omega), u 5 (by omega) (by omega), u 6 (by omega) (by omega), u 8 (by omega) (by omega), u 9 (by omega) (by omega), u 10 (by omega) (by omega)]
    exact hs
theorem sim_exam (hd : VD g) (hF : FR g mc f (gA mr (r + 1)) N H) (hV : RV T (gA mr (r + 1)) N H) (h0 : gI mr 384 r = 0) {a ix : Int32} (hI : FI g mc f a N (gA mr (r + 1)) ix) : SIM g f r (pl5 1 0 0 2 3) T mc (X3_examine_m g mc f a N) (X3_examine_r g mc f a N) (X11_tests_m g mr r ix) (X11_tests_r g mr r ix) := by
  have hN8 := hF.2.2.2.2.1
  unfold X3_examine_m X3_examine_r X11_tests_m X11_tests_r
  rcases hI with ⟨h1, h2, -⟩ | ⟨i, hi, h1, h2, h3⟩
  · rw [h1, h2, if_neg (by decide), if_neg (by decide)]
    exact SIM.no1 (by decide)
  rw [h1, h2, if_pos (nI_pos' (by omega)), if_pos (nI_pos' (by omega)), nI_clamp (show i < 2 ^ 31 by omega)]
  simp only
  obtain ⟨p1, p2, p3, p4, p5, p6, p7, p8⟩ := hF.2.2.1 i hi
  obtain ⟨a1, a2, a3, a4, a5, a6, a7, a8, a9, a10, a11, a12⟩ := hV.2.1 i hi
  have hz := (p8.z hd).1
  have hm : X7_meetsTest_r g (sI mc 169 f (gI mc 169 f + 1)) (pa mc f i) = X7_meetsTest_r g mc (pa mc f i) := by
    unfold X7_meetsTest_r
    have e1 : gI (sI mc 169 f (gI mc 169 f + 1)) 291 (pa mc f i) = gI mc 291 (pa mc f i) := by simp [mm]
    have e2 : gI (sI mc 169 f (gI mc 169 f + 1)) 292 (pa mc f i) = gI mc 292 (pa mc f i) := by simp [mm]
    rw [e1, e2]
  rw [hm, p6, p7, p3]
  by_cases c1 : gA mr (r + 1) (8 * i + 18) = 0
  rotate_left
  · have d1 : gA mr (r + 1) (8 * i + 18) = 1 := by rcases a10 with e | e; exact absurd e c1; exact e
    rw [if_neg c1, if_neg c1, if_pos d1, if_pos d1]
    exact SIM.no4 (by decide)
  have d1 : ¬ gA mr (r + 1) (8 * i + 18) = 1 := (in01 a10).mp c1
  rw [if_pos c1, if_pos c1, if_neg d1, if_neg d1]
  by_cases c2 : gA mr (r + 1) (8 * i + 19) = 0
  · rw [if_pos c2, if_pos c2, if_pos c2, if_pos c2]
    exact SIM.no4 (by decide)
  have d2 : gA mr (r + 1) (8 * i + 19) = 1 := by rcases a11 with e | e; exact absurd e c2; exact e
  rw [if_neg c2, if_neg c2, if_neg c2, if_neg c2]
  by_cases c3 : gA mr (r + 1) (8 * i + 20) = 0
  rotate_left
  · have e3 : ¬ gR mc 295 (pa mc f i) = some (vdA g 0) := fun q => c3 (hz.mp q)
    rw [if_neg c3, if_neg c3, if_neg e3, if_neg e3]
    exact SIM.no4 (by decide)
  have e3 : gR mc 295 (pa mc f i) = some (vdA g 0) := hz.mpr c3
  rw [if_pos c3, if_pos c3, if_pos e3, if_pos e3]
  by_cases c4 : gA mr (r + 1) (8 * i + 15) ≤ 60
  rotate_left
  · rw [if_neg c4, if_neg c4, if_neg c4, if_neg c4]
    exact SIM.no5 (by decide)
  rw [if_pos c4, if_pos c4, if_pos c4, if_pos c4]
  have hbad : SIM g f r (pl5 1 0 0 2 3) T mc (sR (sI mc 169 f (gI mc 169 f + 1)) 295 (pa mc f i) (some (vdA g 2))) 0 (sA (sA (sA mr (r + 1) (8 * i + 20) (2 - 0)) (r + 1) 11 (gA mr (r + 1) 11 + 1)) (r + 1) 12 (gA mr (r + 1) 12 + 0)) 0 := by
    have h := exam_ok (pl := pl5 1 0 0 2 3) hF hV h0 hi d2 (t := 2) (x := 2 - 0) (y := 0) (Or.inr ⟨rfl, by decide⟩) (ans := 0) (by decide)
    rw [sIR]
    have e : sI (sI (sR mc 295 (pa mc f i) (some (vdA g 2))) 169 f (gI mc 169 f + 1)) 170 f (gI mc 170 f + 0) = sI (sR mc 295 (pa mc f i) (some (vdA g 2))) 169 f (gI mc 169 f + 1) := by
      rw [Int32.add_zero]
      have q : gI mc 170 f = gI (sI (sR mc 295 (pa mc f i) (some (vdA g 2))) 169 f (gI mc 169 f + 1)) 170 f := by simp [mm]
      rw [q]
      unfold sI
      have z : ∀ (F : Nat → Nat → Int32) (k q : Nat), m2 F k q (F k q) = F := fun F k q => by
        funext k' q'
        unfold m2
        by_cases c : k' = k ∧ q' = q
        · rw [if_pos c, c.1, c.2]
        · rw [if_neg c]
      rw [z]
      rfl
    rw [e] at h
    exact h
  have hgood : SIM g f r (pl5 1 0 0 2 3) T mc (sI (sR (sI mc 169 f (gI mc 169 f + 1)) 295 (pa mc f i) (some (vdA g 1))) 170 f (gI mc 170 f + 1)) 1 (sA (sA (sA mr (r + 1) (8 * i + 20) (2 - 1)) (r + 1) 11 (gA mr (r + 1) 11 + 1)) (r + 1) 12 (gA mr (r + 1) 12 + 1)) 1 := exam_ok (pl := pl5 1 0 0 2 3) hF hV h0 hi d2 (t := 1) (x := 2 - 1) (y := 1) (Or.inl ⟨rfl, by decide⟩) (ans := 1) (by decide)
  unfold X7_meetsTest_r
  rw [p4, p5]
  by_cases c5 : gA mr (r + 1) (8 * i + 16) = 10
  rotate_left
  · rw [if_neg c5, if_pos rfl, if_pos rfl, if_neg c5, if_neg c5]
    exact hbad
  rw [if_pos c5, if_pos c5, if_pos c5]
  by_cases c6 : gA mr (r + 1) (8 * i + 17) < 40
  · have e6 : isI (gA mr (r + 1) (8 * i + 17)) 40 70 = 0 := (isI_b _ _ _).mpr (by
      rw [ti.1] at c6
      simp only [tl] at c6 ⊢
      omega)
    rw [if_pos c6, if_pos rfl, if_pos rfl, if_pos e6, if_pos e6]
    exact hbad
  rw [if_neg c6]
  by_cases c7 : 70 < gA mr (r + 1) (8 * i + 17)
  · have e6 : isI (gA mr (r + 1) (8 * i + 17)) 40 70 = 0 := (isI_b _ _ _).mpr (by
      rw [ti.1] at c7
      simp only [tl] at c7 ⊢
      omega)
    rw [if_pos c7, if_pos rfl, if_pos rfl, if_pos e6, if_pos e6]
    exact hbad
  have e6 : ¬ isI (gA mr (r + 1) (8 * i + 17)) 40 70 = 0 := fun q => (isI_b _ _ _).mp q (by
      rw [ti.1] at c6 c7
      simp only [tl] at c6 c7 ⊢
      omega)
  rw [if_neg c7, if_neg (by decide), if_neg (by decide), if_neg e6, if_neg e6]
  exact hgood
end
