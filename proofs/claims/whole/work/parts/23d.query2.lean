/-! THE REST OF THE QUERIES -/
section
variable {g : mG} {mc mr m m1 mr1 : mM} {b r T N H c f i : Nat}
theorem fin_l {a : Int32} {U : Nat} : ∀ (n j : Nat) (m mr : mM), gI m 192 (c + 17) = gA mr (r + 5) 1 → gI m 193 (c + 17) = gA mr (r + 5) 2 → gI m 194 (c + 17) = gA mr (r + 5) 3 → FU mr (r + 5) → (X2_furnaceIn_l1 g c f a U n j m).1 = (X11_furnaceAfter_l1 g r a n j mr).1 ∧ (∀ q, q ≠ c + 17 → mS m (X2_furnaceIn_l1 g c f a U n j m).2 q) ∧ RT r mr (X11_furnaceAfter_l1 g r a n j mr).2 ∧ gI (X11_furnaceAfter_l1 g r a n j mr).2 = gI mr
  | 0, j, m, mr, h1, h2, h3, hF => by
    rw [X2_furnaceIn_l1, X11_furnaceAfter_l1]
    exact ⟨h1, fun _ _ => mS_rf, ⟨fun _ _ _ => Sm.rf, fun _ _ => rfl, rfl, rfl⟩, rfl⟩
  | n + 1, j, m, mr, h1, h2, h3, hF => by
    rw [X2_furnaceIn_l1, X11_furnaceAfter_l1]
    obtain ⟨s0, s1, s2, s3, s4, s5, s6, s7⟩ := hF.st (g := g) 16
    have hb := RT.burn (g := g) hF 16
    obtain ⟨c1, c2, c3, c4, c5, c6, c7, c8⟩ := fu_cls (g := g) m (c + 17)
    rw [h1, h2, h3] at c1
    rw [h2, h3] at c2 c3
    generalize X11_burns_m g mr (r + 5) 16 = M at *
    generalize X4_passMinute_m g m (c + 17) = K at *
    obtain ⟨t1, t2, t3, t4⟩ := fin_l (a := a) (U := U) n (j + 1) K M (c1.trans s1.symm) (c2.trans s2.symm) (c3.trans s3.symm) s0
    exact ⟨t1, fun q hq => mS_tr (c6 q hq) (t2 q hq), hb.tr t3, t4.trans s5⟩
theorem q_furnaceAfter (h : OBJ g mc mr b r T) (F0 : FR g mc (b + 1) (gA mr (r + 1)) N H) (V0 : RV T (gA mr (r + 1)) N H) (a : Int32) : CALL g b r T mc mr (X10_furnaceAfter_m g mc b a) (X11_furnaceAfter_m g mr r a) [("java/lang/IllegalArgumentException", 1)] (X10_furnaceAfter_x g mc b a) (X10_furnaceAfter_r g mc b a = X11_furnaceAfter_r g mr r a) := by
  unfold X10_furnaceAfter_m X10_furnaceAfter_x X10_furnaceAfter_r X11_furnaceAfter_m X11_furnaceAfter_r
  have e := isI_b a 0 200
  simp only [tl] at e
  by_cases c1 : a < 0
  · have k := c1
    rw [ti.1] at k
    simp only [tl] at k
    have z : isI a 0 200 = 0 := e.mpr (by omega)
    simp only [if_pos c1, if_pos z]
    exact CALL.qx h rfl
  · have k := c1
    rw [ti.1] at k
    simp only [tl] at k
    by_cases c2 : a ≤ 200
    · have k2 := c2
      rw [ti.2.1] at k2
      simp only [tl] at k2
      have z : ¬ isI a 0 200 = 0 := fun z => e.mp z (by omega)
      simp only [if_neg c1, if_pos c2, if_neg z]
      obtain ⟨t1, t2, t3, t4, t5, t6⟩ := think_f (g := g) V0
      obtain ⟨-, s2, s3, s4, -⟩ := F0.2.1
      have fk := kK_X2_furnaceIn g mc (b + 195) (b + 1) a a.toNatClampNeg
      have fn := kN_X2_furnaceIn g mc (b + 195) (b + 1) a a.toNatClampNeg
      have sb : SB (X2_furnaceIn_m g mc (b + 195) (b + 1) a a.toNatClampNeg) b := h.1.to (by rw [kK_X2_furnaceIn]) (fun k hk a => by rw [kR_X2_furnaceIn]) (by rw [kQ_X2_furnaceIn])
      unfold X2_furnaceIn_m at fk fn sb ⊢
      unfold X2_furnaceIn_r
      generalize X11_thinks_m g (sI mr 384 r 0) r = M at *
      have y2 : gI (X4_copyFrom_m g mc (b + 195 + 17) (b + 1 + 1)) 192 (b + 195 + 17) = gI mc 192 (b + 1 + 1) := by
        unfold X4_copyFrom_m
        simp [mm]
      have y3 : gI (X4_copyFrom_m g mc (b + 195 + 17) (b + 1 + 1)) 193 (b + 195 + 17) = gI mc 193 (b + 1 + 1) := by
        unfold X4_copyFrom_m
        simp [mm]
      have y4 : gI (X4_copyFrom_m g mc (b + 195 + 17) (b + 1 + 1)) 194 (b + 195 + 17) = gI mc 194 (b + 1 + 1) := by
        unfold X4_copyFrom_m
        simp [mm]
      have y5 : ∀ q, q ≠ b + 195 + 17 → mS mc (X4_copyFrom_m g mc (b + 195 + 17) (b + 1 + 1)) q := fun q hq => by
        unfold X4_copyFrom_m
        exact mS_tr (mS_I hq) (mS_tr (mS_I hq) (mS_tr (mS_I hq) (mS_J hq)))
      generalize X4_copyFrom_m g mc (b + 195 + 17) (b + 1 + 1) = K at *
      obtain ⟨u1, u2, u3, u4⟩ := fin_l (g := g) (r := r) (f := b + 1) (a := a) (U := a.toNatClampNeg) a.toNatClampNeg 0 K M (y2.trans (s2.trans t3.symm)) (y3.trans (s3.trans t4.symm)) (y4.trans (s4.trans t5.symm)) t2
      exact CALL.cl h sb ⟨fk, fn, fun q hq => mS_tr (y5 q (by omega)) (u2 q (by omega))⟩ (t1.tr u3) (Or.inl ⟨rfl, by rw [u4]; exact t6, u1⟩)
    · have k2 := c2
      rw [ti.2.1] at k2
      simp only [tl] at k2
      have z : isI a 0 200 = 0 := e.mpr (by omega)
      simp only [if_neg c1, if_neg c2, if_pos z]
      exact CALL.qx h rfl
theorem both_l (hd : f + 16 ≤ c ∨ c + 19 ≤ f) : ∀ (n j : Nat) (m : mM), FR g m f (gA mr (r + 1)) N H → SC m c → j + n = N → (X2_bothWaysAgree_l1 g c f N n j m).1 = 1
  | 0, j, m, hF, hc, hj => by
    rw [X2_bothWaysAgree_l1]
  | n + 1, j, m, hF, hc, hj => by
    have hN8 := hF.2.2.2.2.1
    rw [X2_bothWaysAgree_l1]
    have e := (hF.2.2.1 j (by omega)).1
    rw [e]
    rcases fi_of (mr := mr) (r := r) hF (gA mr (r + 1) (8 * j + 13)) with ⟨h1, h2, h3⟩ | ⟨k, hk, h1, h2, h3⟩
    · exact absurd rfl (h3 j (by omega))
    · have f1 := fr_X2_minutesOnCopy g m c f (gA mr (r + 1) (8 * j + 13)) 20 N hc hF.1 hN8
      have k1 : SC (X2_minutesOnCopy_m g m c f (gA mr (r + 1) (8 * j + 13)) 20 N) c := hc.to (by rw [kK_X2_minutesOnCopy]) (fun k hk a => by rw [kR_X2_minutesOnCopy _ _ _ _ _ _ _ _ _ hk]) (by rw [kQ_X2_minutesOnCopy])
      rw [onCF (d := 20) hF hc hd hk h2]
      generalize X2_minutesOnCopy_m g m c f (gA mr (r + 1) (8 * j + 13)) 20 N = M at *
      have hF1 : FR g M f (gA mr (r + 1)) N H := hF.sm (fun a q1 q2 => Sm.of f1 (by omega))
      rw [aloF (c := c) (d := 20) hF1 hd hk h2, if_pos rfl]
      have f2 := fr_X2_minutesAlone g M c f (gA mr (r + 1) (8 * j + 13)) 20 N k1 hF1.1 hN8
      have k2 : SC (X2_minutesAlone_m g M c f (gA mr (r + 1) (8 * j + 13)) 20 N) c := k1.to (by rw [kK_X2_minutesAlone]) (fun k hk a => by rw [kR_X2_minutesAlone _ _ _ _ _ _ _ _ _ hk]) (by rw [kQ_X2_minutesAlone])
      generalize X2_minutesAlone_m g M c f (gA mr (r + 1) (8 * j + 13)) 20 N = K at *
      exact both_l hd n (j + 1) K (hF1.sm (fun a q1 q2 => Sm.of f2 (by omega))) k2 (by omega)
theorem tested_l (hd : VD g) {w : Nat → Int32} (hp : ∀ i, i < N → PR g m (pa m f i) w i) (hv : ∀ i, i < N → PV w i) : ∀ (n j : Nat), j + n = N → X3_testedAreQuenched_l1 g m f N n j = 1
  | 0, j, hj => by rw [X3_testedAreQuenched_l1]
  | n + 1, j, hj => by
    rw [X3_testedAreQuenched_l1]
    have ih := tested_l hd hp hv n (j + 1) (by omega)
    obtain ⟨p1, p2, p3, p4, p5, p6, p7, p8⟩ := hp j (by omega)
    have v := (hv j (by omega)).2.2.2.2.2.2.2.2.2.2.2
    by_cases q : gR m 295 (pa m f j) = some (vdA g 0)
    · rw [if_pos q]
      exact ih
    · rw [if_neg q, p7]
      rcases p8 with ⟨z, -⟩ | ⟨z, x⟩ | ⟨z, x⟩
      · exact absurd z q
      · rcases v with v | ⟨-, v⟩
        · rw [x] at v
          exact absurd v (by decide)
        · rw [v, if_neg (by decide)]
          exact ih
      · rcases v with v | ⟨-, v⟩
        · rw [x] at v
          exact absurd v (by decide)
        · rw [v, if_neg (by decide)]
          exact ih
theorem wears_l {w7 : Int32} (h7 : gI mc 167 f = w7) (hw : gA m (r + 1) 7 = w7) (hc : gA m (r + 1) 10 + 20 = gA m (r + 1) 3 + gA m (r + 1) 9) (h : ∀ i, i < H → gI mc 225 (f + 12 + i) = gA m (r + 1) (2 * i + 78)) (hH : H ≤ 4) : ∀ (n j : Nat) (s : Int32), j + n = H → X11_isConsistent_l1 g r H n j s m = (X3_wearsMatchStrokes_l1 g mc f H n j s, m) ∧ (X3_wearsMatchStrokes_l1 g mc f H n j s = 0 ∨ X3_wearsMatchStrokes_l1 g mc f H n j s = 1)
  | 0, j, s, hj => by
    rw [X11_isConsistent_l1, X3_wearsMatchStrokes_l1, h7, hw, if_pos hc]
    by_cases q : s = w7
    · rw [if_pos q, if_pos q]
      exact ⟨rfl, Or.inr rfl⟩
    · rw [if_neg q, if_neg q]
      exact ⟨rfl, Or.inl rfl⟩
  | n + 1, j, s, hj => by
    rw [X11_isConsistent_l1, X3_wearsMatchStrokes_l1, h j (by omega)]
    have e : X11_worn_r g m r (nI j) = gA m (r + 1) (2 * j + 78) := by
      unfold X11_worn_r
      rw [nI_clamp (by omega)]
    rw [e]
    exact wears_l h7 hw hc h hH n (j + 1) _ (by omega)
theorem coal_c {T : Nat} {w : Nat → Int32} (h : SV T w N H) : w 10 + 20 = w 3 + w 9 ∧ lg_cmp ((w 10).toInt64 + 20) ((w 3).toInt64 + (w 9).toInt64) = 0 := by
  obtain ⟨-, -, -, -, -, -, v3, v4, -, -, v9, v10, v11, v12, v13, -⟩ := h
  have e : w 10 + 20 = w 3 + w 9 := by
    rw [ti.2.2, Kit.i32_add (by simp only [tl]; omega) (by simp only [tl]; omega), Kit.i32_add (by omega) (by omega)]
    simp only [tl]
    omega
  refine ⟨e, ?_⟩
  have a1 : (w 10 + 20).toInt64 = (w 10).toInt64 + (20 : Int32).toInt64 := i64_sum (by simp only [tl]; omega) (by simp only [tl]; omega)
  have a2 : (w 3 + w 9).toInt64 = (w 3).toInt64 + (w 9).toInt64 := i64_sum (by omega) (by omega)
  have a3 : (20 : Int32).toInt64 = 20 := by decide
  rw [a3] at a1
  rw [← a1, ← a2, e]
  unfold lg_cmp
  rw [if_neg (Int64.lt_irrefl), if_pos rfl]
theorem q_isConsistent (hd : VD g) (h : OBJ g mc mr b r T) (F0 : FR g mc (b + 1) (gA mr (r + 1)) N H) (V0 : RV T (gA mr (r + 1)) N H) : CALL g b r T mc mr (X10_isConsistent_m g mc b N H) (X11_isConsistent_m g mr r H) [] none (X10_isConsistent_r g mc b N H = X11_isConsistent_r g mr r H) := by
  have hN8 := F0.2.2.2.2.1
  have hH4 := F0.2.2.2.2.2
  obtain ⟨w1, w2⟩ := coal_c V0.1
  obtain ⟨s1, s2, s3, s4, s5, s6, s7, s8, s9, s10, s11, s12, s13⟩ := F0.2.1
  have eA : gA (sI mr 384 r 0) = gA mr := by simp only [mm]
  obtain ⟨u1, u2⟩ := wears_l (g := g) (mc := mc) (m := sI mr 384 r 0) (r := r) (H := H) s8 (by rw [eA]) (by rw [eA]; exact w1) (fun i hi => by rw [eA]; exact (F0.2.2.2.1 i hi).2) hH4 H 0 0 (by omega)
  have tq : X3_testedAreQuenched_r g mc (b + 1) N = 1 := tested_l hd F0.2.2.1 V0.2.1 N 0 (by omega)
  have cm : X3_coalMatches_r g mc (b + 1) = 1 := by
    unfold X3_coalMatches_r
    rw [s11, s10, s4, w2, if_pos rfl]
  have bw : X2_bothWaysAgree_r g mc (b + 195) (b + 1) N = 1 := both_l (by omega) N 0 mc F0 h.1.c (by omega)
  have nz : ¬ (1 : Int32) = 0 := by decide
  unfold X10_isConsistent_r X10_isConsistent_m X11_isConsistent_r X11_isConsistent_m
  rw [u1, tq, cm, bw]
  unfold X3_wearsMatchStrokes_r
  simp only [if_neg nz]
  rcases u2 with u2 | u2
  · rw [u2, if_pos rfl, if_pos rfl]
    exact CALL.q0 h rfl
  · rw [u2, if_neg nz, if_neg nz]
    exact CALL.cl h (h.1.to (by rw [kK_X2_bothWaysAgree]) (fun k hk a => by rw [kR_X2_bothWaysAgree _ _ _ _ _ _ _ hk]) (by rw [kQ_X2_bothWaysAgree])) (fr_X2_bothWaysAgree g mc (b + 195) (b + 1) N h.1.c h.1.f1 hN8) (RT.th 0) (Or.inl ⟨rfl, by simp [mm], rfl⟩)
theorem mean_l {f : Nat} (h : ∀ i, i < N → gI mc 292 (pa mc f i) = gA m (r + 1) (8 * i + 17)) : ∀ (n j : Nat) (s : Int32), j + n = N → X11_meanHardness_l1 g r N n j s m = if gI m 384 r = 0 then (FP.ddiv (FP.i2d (X3_sumOfHardnesses_l1 g mc f N n j s)) (FP.i2d (nI N)), m) else (FP.dconst0, m)
  | 0, j, s, hj => by
    rw [X11_meanHardness_l1, X3_sumOfHardnesses_l1]
  | n + 1, j, s, hj => by
    rw [X11_meanHardness_l1, X3_sumOfHardnesses_l1, h j (by omega)]
    exact mean_l h n (j + 1) _ (by omega)
theorem q_meanHardness (h : OBJ g mc mr b r T) (F0 : FR g mc (b + 1) (gA mr (r + 1)) N H) : CALL g b r T mc mr mc (X11_meanHardness_m g mr r N) [("java/lang/ArithmeticException", 1)] (X10_meanHardness_x g mc b N) (X10_meanHardness_r g mc b N = X11_meanHardness_r g mr r N) := by
  unfold X10_meanHardness_x X10_meanHardness_r X11_meanHardness_m X11_meanHardness_r
  have e : ∀ v, ∀ i, i < N → gI mc 292 (pa mc (b + 1) i) = gA (sI mr 384 r v) (r + 1) (8 * i + 17) := fun v i hi => by
    have eA : gA (sI mr 384 r v) = gA mr := by simp only [mm]
    rw [eA]
    exact (F0.2.2.1 i hi).2.2.2.2.1
  by_cases c : nI N = 0
  · simp only [if_pos c]
    rw [mean_l (g := g) (r := r) (e 1) N 0 0 (by omega), if_neg (by simp [mm])]
    exact CALL.qx h rfl
  · simp only [if_neg c]
    rw [mean_l (g := g) (r := r) (e 0) N 0 0 (by omega), if_pos (by simp [mm])]
    exact CALL.q0 h rfl
theorem q_passShare (h : OBJ g mc mr b r T) (F0 : FR g mc (b + 1) (gA mr (r + 1)) N H) : CALL g b r T mc mr mc (X11_passShare_m g mr r) [("java/lang/ArithmeticException", 1)] (X10_passShare_x g mc b) (X10_passShare_r g mc b = X11_passShare_r g mr r) := by
  unfold X10_passShare_x X10_passShare_r X11_passShare_m X11_passShare_r
  obtain ⟨s1, s2, s3, s4, s5, s6, s7, s8, s9, s10, s11, s12, s13⟩ := F0.2.1
  rw [s12, s13]
  by_cases c : gA mr (r + 1) 11 = 0
  · simp only [if_pos c]
    exact CALL.qx h rfl
  · simp only [if_neg c]
    exact CALL.q0 h trivial
end
