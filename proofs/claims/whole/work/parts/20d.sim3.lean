/-! strokes, quenching, tests -/
section
variable {g : mG} {mc mr : mM} {f r N H T i : Nat} {w : Nat → Int32}
theorem imax_t (a b : Int32) : (imax a b).toInt = if a.toInt < b.toInt then b.toInt else a.toInt := by
  unfold imax
  by_cases c : a < b
  · rw [if_pos c, if_pos ((ti.1 _ _).mp c)]
  · rw [if_neg c, if_neg (fun q => c ((ti.1 _ _).mpr q))]
theorem imin_t (a b : Int32) : (imin a b).toInt = if b.toInt < a.toInt then b.toInt else a.toInt := by
  unfold imin
  by_cases c : b < a
  · rw [if_pos c, if_pos ((ti.1 _ _).mp c)]
  · rw [if_neg c, if_neg (fun q => c ((ti.1 _ _).mpr q))]
theorem imin_if (a b : Int32) : imin a b = if b ≤ a then b else a := by
  refine Int32.toInt_inj.mp ?_
  rw [imin_t]
  by_cases c : b ≤ a
  · rw [if_pos c]
    rw [ti.2.1] at c
    split <;> omega
  · rw [if_neg c]
    rw [ti.2.1] at c
    rw [if_neg (by omega)]
/-- the stages that a stroke would give: the weight, the temperature, the stages -/
def gain (wt tm st : Int32) : Int32 := imin (1 + wt * imax 0 (tm - 500) / 1000) (10 - st)
theorem gain_rg {wt tm st : Int32} (h1 : 1 ≤ wt.toInt) (h2 : wt.toInt ≤ 9) (h3 : 20 ≤ tm.toInt) (h4 : tm.toInt ≤ 1200) (h5 : 0 ≤ st.toInt) (h6 : st.toInt ≤ 10) : 0 ≤ (gain wt tm st).toInt ∧ (gain wt tm st).toInt ≤ 10 - st.toInt := by
  unfold gain
  have e1 : (tm - 500).toInt = tm.toInt - 500 := by
    rw [Kit.i32_sub (by simp only [tl]; omega) (by simp only [tl]; omega)]
    simp only [tl]
  have e2 : 0 ≤ (imax 0 (tm - 500)).toInt ∧ (imax 0 (tm - 500)).toInt ≤ 700 := by
    rw [imax_t, e1]
    simp only [tl]
    split <;> omega
  have e3 : 0 ≤ wt.toInt * (imax 0 (tm - 500)).toInt := Int.mul_nonneg (by omega) e2.1
  have e4 : wt.toInt * (imax 0 (tm - 500)).toInt ≤ 9 * 700 := Int.mul_le_mul h2 e2.2 e2.1 (by omega)
  have e5 : (wt * imax 0 (tm - 500)).toInt = wt.toInt * (imax 0 (tm - 500)).toInt := Kit.i32_mul (by omega) (by omega)
  have e6 : (wt * imax 0 (tm - 500) / 1000).toInt = wt.toInt * (imax 0 (tm - 500)).toInt / 1000 := by
    rw [i32_div0 (by omega) (by simp only [tl]; omega), e5]
    simp only [tl]
  have e7 : (1 + wt * imax 0 (tm - 500) / 1000).toInt = 1 + wt.toInt * (imax 0 (tm - 500)).toInt / 1000 := by
    rw [Kit.i32_add (by rw [e6]; simp only [tl]; omega) (by rw [e6]; simp only [tl]; omega), e6]
    simp only [tl]
  have e8 : (10 - st).toInt = 10 - st.toInt := by
    rw [Kit.i32_sub (by simp only [tl]; omega) (by simp only [tl]; omega)]
    simp only [tl]
  rw [imin_t, e7, e8]
  split <;> omega
theorem blow_eq {a b : Int32} : X11_blow_r g mr r a b = gain (gA mr (r + 1) (2 * b.toNatClampNeg + 77)) (gA mr (r + 1) (8 * a.toNatClampNeg + 15)) (gA mr (r + 1) (8 * a.toNatClampNeg + 16)) := by
  unfold X11_blow_r gain X11_weighs_r
  rw [imin_if]
  by_cases c : gA mr (r + 1) (8 * a.toNatClampNeg + 15) - 500 ≤ 0
  · rw [if_pos c]
    have e : imax 0 (gA mr (r + 1) (8 * a.toNatClampNeg + 15) - 500) = 0 := by
      refine Int32.toInt_inj.mp ?_
      rw [imax_t]
      rw [ti.2.1] at c
      simp only [tl] at c ⊢
      rw [if_neg (by omega)]
    rw [e, Int32.mul_zero]
    rfl
  · rw [if_neg c]
    have e : imax 0 (gA mr (r + 1) (8 * a.toNatClampNeg + 15) - 500) = gA mr (r + 1) (8 * a.toNatClampNeg + 15) - 500 := by
      refine Int32.toInt_inj.mp ?_
      rw [imax_t]
      rw [ti.2.1] at c
      simp only [tl] at c ⊢
      rw [if_pos (by omega)]
    rw [e]
theorem hd_eq {a b : Int32} : X11_hardens_m g mr r a b = sA mr (r + 1) (8 * a.toNatClampNeg + 17) (imin 99 (gA mr (r + 1) (8 * a.toNatClampNeg + 17) + b)) := by
  unfold X11_hardens_m imin
  by_cases c : 99 ≤ gA mr (r + 1) (8 * a.toNatClampNeg + 17) + b
  · rw [if_pos c, if_neg (Int32.not_lt.mpr c)]
  · rw [if_neg c, if_pos (Int32.not_le.mp c)]
theorem tool_of (hH : H ≤ 4) (b : Int32) : (X3_hammerIn_r g mc f b H = none ∧ X11_isTool_r g mr r b H = 0) ∨ ∃ i, i < H ∧ b = nI i ∧ X3_hammerIn_r g mc f b H = some (f + 12 + i) ∧ ¬ X11_isTool_r g mr r b H = 0 := by
  unfold X3_hammerIn_r X11_isTool_r
  have e : (nI H - 1).toInt = (H : Int) - 1 := by
    rw [Kit.i32_sub (by rw [nI_toInt (by omega)]; simp only [tl]; omega) (by rw [nI_toInt (by omega)]; simp only [tl]; omega), nI_toInt (by omega)]
    simp only [tl]
  by_cases c1 : b < 0
  · refine Or.inl ⟨if_pos c1, (isI_b _ _ _).mpr ?_⟩
    rw [ti.1] at c1
    simp only [tl] at c1 ⊢
    omega
  rw [if_neg c1]
  by_cases c2 : b < nI H
  · obtain ⟨i, hi, hb⟩ := nI_of c1
    subst hb
    have hi2 : i < H := (nI_ltI hi (by omega)).mp c2
    refine Or.inr ⟨i, hi2, rfl, ?_, fun q => (isI_b _ _ _).mp q ?_⟩
    · rw [if_pos c2, nI_clamp hi]
    · rw [e, nI_toInt hi]
      simp only [tl]
      omega
  · refine Or.inl ⟨if_neg c2, (isI_b _ _ _).mpr ?_⟩
    rw [ti.1, nI_toInt (by omega)] at c2
    rw [e]
    omega
theorem PT.z {m : mM} {q : Nat} {x : Int32} (hd : VD g) (h : PT g m q x) : (gR m 295 q = some (vdA g 0) ↔ x = 0) ∧ (gR m 295 q = some (vdA g 1) ↔ x = 1) ∧ (gR m 295 q = some (vdA g 2) ↔ x = 2) := by
  obtain ⟨d1, d2, d3⟩ := hd
  rcases h with ⟨e, rfl⟩ | ⟨e, rfl⟩ | ⟨e, rfl⟩
  · rw [e]
    refine ⟨⟨fun _ => rfl, fun _ => rfl⟩, ⟨fun c => absurd (Option.some.inj c) d1, fun c => absurd c (by decide)⟩, ⟨fun c => absurd (Option.some.inj c) d2, fun c => absurd c (by decide)⟩⟩
  · rw [e]
    refine ⟨⟨fun c => absurd (Option.some.inj c).symm d1, fun c => absurd c (by decide)⟩, ⟨fun _ => rfl, fun _ => rfl⟩, ⟨fun c => absurd (Option.some.inj c) d3, fun c => absurd c (by decide)⟩⟩
  · rw [e]
    refine ⟨⟨fun c => absurd (Option.some.inj c).symm d2, fun c => absurd c (by decide)⟩, ⟨fun c => absurd (Option.some.inj c).symm d3, fun c => absurd c (by decide)⟩, ⟨fun _ => rfl, fun _ => rfl⟩⟩
theorem in01 {x : Int32} (h : x = 0 ∨ x = 1) : (x = 0 ↔ ¬ x = 1) := by
  rcases h with rfl | rfl <;> decide
theorem sg_eq {m : mM} {q : Nat} {a : Int32} : X7_stagesGained_r g m q a = gain a (gI m 290 q) (gI m 291 q) := rfl
theorem sk1 {m : mM} {p : Nat} {x : Int32} : gI (sI m 291 p x) 292 p = gI m 292 p := by simp [mm]
theorem sk2 {m : mM} {p q : Nat} {x y : Int32} : gI (sI (sI m 291 p x) 292 p y) 225 q = gI m 225 q := by simp [mm]
theorem sk3 {m : mM} {p q : Nat} {x y : Int32} : gI (sI (sI m 291 p x) 292 p y) 167 q = gI m 167 q := by simp [mm]
theorem sk4 {m : mM} {p : Nat} {x y : Int32} : gI (sI (sI m 291 p x) 292 p y) 291 p = x := by simp [mm]
theorem sim_strike (hF : FR g mc f (gA mr (r + 1)) N H) (hV : RV T (gA mr (r + 1)) N H) (h0 : gI mr 384 r = 0) {a ix : Int32} (hI : FI g mc f a N (gA mr (r + 1)) ix) (b : Int32) : SIM g f r (pl5 1 2 0 3 4) T mc (X3_strike_m g mc f a b N H) (X3_strike_r g mc f a b N H) (X11_strikes_m g mr r ix b H) (X11_strikes_r g mr r ix b H) := by
  have hN8 := hF.2.2.2.2.1
  have hH4 := hF.2.2.2.2.2
  unfold X3_strike_m X3_strike_r X11_strikes_m X11_strikes_r
  rcases hI with ⟨h1, h2, -⟩ | ⟨i, hi, h1, h2, h3⟩
  · rw [h1, h2, if_neg (by decide), if_neg (by decide)]
    exact SIM.no1 (by decide)
  rw [h1, h2, if_pos (nI_pos' (by omega)), if_pos (nI_pos' (by omega))]
  simp only
  rcases tool_of (g := g) (mc := mc) (mr := mr) (f := f) (r := r) hH4 b with ⟨t1, t2⟩ | ⟨h, hh, rfl, t1, t2⟩
  · rw [t1, if_pos t2, if_pos t2]
    exact SIM.no2 (by decide)
  rw [t1, if_neg t2, if_neg t2]
  simp only
  obtain ⟨p1, p2, p3, p4, p5, p6, p7, p8⟩ := hF.2.2.1 i hi
  obtain ⟨k1, k2⟩ := hF.2.2.2.1 h hh
  obtain ⟨a1, a2, a3, a4, a5, a6, a7, a8, a9, a10, a11, a12⟩ := hV.2.1 i hi
  obtain ⟨b1, b2, b3, b4⟩ := hV.2.2.2.1 h hh
  have q1 := hF.1.lo (i := i) (by omega)
  have q2 := hF.1.hi (i := i) (by omega)
  rw [blow_eq, hd_eq, sg_eq]
  rw [nI_clamp (show i < 2 ^ 31 by omega), nI_clamp (show h < 2 ^ 31 by omega)]
  unfold X5_isWornOut_r X11_worn_r X7_harden_m
  rw [nI_clamp (show h < 2 ^ 31 by omega), p6, p7, p4, p3, k1, k2]
  by_cases c1 : gA mr (r + 1) (8 * i + 18) = 0
  rotate_left
  · have d1 : gA mr (r + 1) (8 * i + 18) = 1 := by rcases a10 with e | e; exact absurd e c1; exact e
    rw [if_neg c1, if_neg c1, if_pos d1, if_pos d1]
    exact SIM.no4 (by decide)
  have d1 : ¬ gA mr (r + 1) (8 * i + 18) = 1 := (in01 a10).mp c1
  rw [if_pos c1, if_pos c1, if_neg d1, if_neg d1]
  by_cases c2 : gA mr (r + 1) (8 * i + 19) = 0
  rotate_left
  · have d2 : gA mr (r + 1) (8 * i + 19) = 1 := by rcases a11 with e | e; exact absurd e c2; exact e
    rw [if_neg c2, if_neg c2, if_pos d2, if_pos d2]
    exact SIM.no4 (by decide)
  have d2 : ¬ gA mr (r + 1) (8 * i + 19) = 1 := (in01 a11).mp c2
  rw [if_pos c2, if_pos c2, if_neg d2, if_neg d2]
  by_cases c3 : 10 ≤ gA mr (r + 1) (8 * i + 16)
  · have d3 : gA mr (r + 1) (8 * i + 16) = 10 := by
      rw [ti.2.1] at c3
      rw [ti.2.2]
      simp only [tl] at c3 ⊢
      omega
    rw [if_pos c3, if_pos c3, if_pos d3, if_pos d3]
    exact SIM.no4 (by decide)
  have d3 : ¬ gA mr (r + 1) (8 * i + 16) = 10 := fun e => c3 (by rw [e]; decide)
  rw [if_neg c3, if_neg c3, if_neg d3, if_neg d3]
  by_cases c4 : gA mr (r + 1) (2 * h + 78) < 20
  rotate_left
  · have d4 : gA mr (r + 1) (2 * h + 78) = 20 := by
      rw [ti.1] at c4
      rw [ti.2.2]
      simp only [tl] at c4 ⊢
      omega
    rw [if_neg c4, if_neg (by decide), if_neg (by decide), if_pos d4, if_pos d4]
    exact SIM.no4 (by decide)
  have d4 : ¬ gA mr (r + 1) (2 * h + 78) = 20 := fun e => by rw [e] at c4; exact absurd c4 (by decide)
  rw [if_pos c4, if_pos rfl, if_pos rfl, if_neg d4, if_neg d4]
  by_cases c5 : gA mr (r + 1) (8 * i + 15) < 600
  · have d5 : isI (gA mr (r + 1) (8 * i + 15)) 600 1100 = 0 := (isI_b _ _ _).mpr (by
      rw [ti.1] at c5
      simp only [tl] at c5 ⊢
      omega)
    rw [if_pos c5, if_pos c5, if_pos d5, if_pos d5]
    exact SIM.no5 (by decide)
  rw [if_neg c5, if_neg c5]
  by_cases c6 : gA mr (r + 1) (8 * i + 15) ≤ 1100
  rotate_left
  · have d5 : isI (gA mr (r + 1) (8 * i + 15)) 600 1100 = 0 := (isI_b _ _ _).mpr (by
      rw [ti.2.1] at c6
      simp only [tl] at c6 ⊢
      omega)
    rw [if_neg c6, if_neg c6, if_pos d5, if_pos d5]
    exact SIM.no5 (by decide)
  have d5 : ¬ isI (gA mr (r + 1) (8 * i + 15)) 600 1100 = 0 := fun q => (isI_b _ _ _).mp q (by
      rw [ti.2.1] at c6
      rw [ti.1] at c5
      simp only [tl] at c5 c6 ⊢
      omega)
  rw [if_pos c6, if_pos c6, if_neg d5, if_neg d5]
  rw [sk1, sk2, sk3, sk4]
  have gr := gain_rg b1 b2 a4 a5 a6 a7
  rw [k2, p5, hF.2.1.2.2.2.2.2.2.2.1]
  generalize gain (gA mr (r + 1) (2 * h + 77)) (gA mr (r + 1) (8 * i + 15)) (gA mr (r + 1) (8 * i + 16)) = gn at *
  have e17 : gA (sA mr (r + 1) (8 * i + 16) (gA mr (r + 1) (8 * i + 16) + gn)) (r + 1) (8 * i + 17) = gA mr (r + 1) (8 * i + 17) := by rw [gA_same, un (by omega)]
  rw [e17]
  have tS : (gA mr (r + 1) (8 * i + 16) + gn).toInt = (gA mr (r + 1) (8 * i + 16)).toInt + gn.toInt := Kit.i32_add (by omega) (by omega)
  have tH : (gA mr (r + 1) (8 * i + 17) + 2).toInt = (gA mr (r + 1) (8 * i + 17)).toInt + 2 := by
    rw [Kit.i32_add (by simp only [tl]; omega) (by simp only [tl]; omega)]
    simp only [tl]
  have tM : 0 ≤ (imin 99 (gA mr (r + 1) (8 * i + 17) + 2)).toInt ∧ (imin 99 (gA mr (r + 1) (8 * i + 17) + 2)).toInt ≤ 99 := by
    rw [imin_t, tH]
    simp only [tl]
    split <;> omega
  have tW : (gA mr (r + 1) (2 * h + 78) + 1).toInt = (gA mr (r + 1) (2 * h + 78)).toInt + 1 := by
    rw [Kit.i32_add (by simp only [tl]; omega) (by simp only [tl]; omega)]
    simp only [tl]
  generalize imin 99 (gA mr (r + 1) (8 * i + 17) + 2) = hv at *
  have F1 : FR g (sI (sI mc 291 (pa mc f i) (gA mr (r + 1) (8 * i + 16) + gn)) 292 (pa mc f i) hv) f (upd (upd (gA mr (r + 1)) (8 * i + 16) (gA mr (r + 1) (8 * i + 16) + gn)) (8 * i + 17) hv) N H := by
    refine hF.pc hi rfl (fun q hq => mS_tr (mS_I hq) (mS_I hq)) (fun k hk => by rw [un (by omega), un (by omega)]) ?_
    refine ⟨?_, ?_, ?_, ?_, ?_, ?_, ?_, ?_⟩
    all_goals simp only [mm, upd]
    all_goals simp [p1, p2, p3, p4, p5, p6, p7]
    exact p8
  have F2 := F1.hm (m1 := sI (sI (sI mc 291 (pa mc f i) (gA mr (r + 1) (8 * i + 16) + gn)) 292 (pa mc f i) hv) 225 (f + 12 + h) (gA mr (r + 1) (2 * h + 78) + 1)) (w1 := upd (upd (upd (gA mr (r + 1)) (8 * i + 16) (gA mr (r + 1) (8 * i + 16) + gn)) (8 * i + 17) hv) (2 * h + 78) (gA mr (r + 1) (2 * h + 78) + 1)) hh rfl (fun q hq => mS_I hq) (fun k h1 h2 => un h2) (by
    unfold HR
    rw [ui rfl, un (by omega), un (by omega), un (by omega)]
    refine ⟨?_, ?_⟩
    · simp [mm, k1]
    · simp [mm])
  have F3 := F2.sc (m1 := sI (sI (sI (sI mc 291 (pa mc f i) (gA mr (r + 1) (8 * i + 16) + gn)) 292 (pa mc f i) hv) 225 (f + 12 + h) (gA mr (r + 1) (2 * h + 78) + 1)) 167 f (gA mr (r + 1) 7 + 1)) (w1 := upd (upd (upd (upd (gA mr (r + 1)) (8 * i + 16) (gA mr (r + 1) (8 * i + 16) + gn)) (8 * i + 17) hv) (2 * h + 78) (gA mr (r + 1) (2 * h + 78) + 1)) 7 (gA mr (r + 1) 7 + 1)) rfl (fun k => rfl) (fun q h1 h2 => mS_I h1) (fun k hk => un (by omega)) (by
    obtain ⟨s1, s2, s3, s4, s5, s6, s7, s8, s9, s10, s11, s12, s13⟩ := F2.2.1
    generalize upd (upd (upd (gA mr (r + 1)) (8 * i + 16) (gA mr (r + 1) (8 * i + 16) + gn)) (8 * i + 17) hv) (2 * h + 78) (gA mr (r + 1) (2 * h + 78) + 1) = w3 at *
    generalize sI (sI (sI mc 291 (pa mc f i) (gA mr (r + 1) (8 * i + 16) + gn)) 292 (pa mc f i) hv) 225 (f + 12 + h) (gA mr (r + 1) (2 * h + 78) + 1) = m3 at *
    unfold FS
    rw [ui rfl, un (show 0 ≠ 7 by omega), un (show 1 ≠ 7 by omega), un (show 2 ≠ 7 by omega), un (show 3 ≠ 7 by omega), un (show 4 ≠ 7 by omega), un (show 5 ≠ 7 by omega), un (show 6 ≠ 7 by omega), un (show 8 ≠ 7 by omega), un (show 9 ≠ 7 by omega), un (show 10 ≠ 7 by omega), un (show 11 ≠ 7 by omega), un (show 12 ≠ 7 by omega)]
    refine ⟨?_, ?_, ?_, ?_, ?_, ?_, ?_, ?_, ?_, ?_, ?_, ?_, ?_⟩
    all_goals simp [mm, s1, s2, s3, s4, s5, s6, s7, s8, s9, s10, s11, s12, s13])
  have V1 : RV T (upd (upd (gA mr (r + 1)) (8 * i + 16) (gA mr (r + 1) (8 * i + 16) + gn)) (8 * i + 17) hv) N H := by
    refine hV.pc hi (fun k hk => by rw [un (by omega), un (by omega)]) (by rw [un (by omega), un (by omega)]) ?_ ?_
    · have u : ∀ k, k ≠ 8 * i + 16 → k ≠ 8 * i + 17 → upd (upd (gA mr (r + 1)) (8 * i + 16) (gA mr (r + 1) (8 * i + 16) + gn)) (8 * i + 17) hv k = gA mr (r + 1) k := fun k h1 h2 => by rw [un h2, un h1]
      have e16 : upd (upd (gA mr (r + 1)) (8 * i + 16) (gA mr (r + 1) (8 * i + 16) + gn)) (8 * i + 17) hv (8 * i + 16) = gA mr (r + 1) (8 * i + 16) + gn := by rw [un (by omega), ui rfl]
      have e17 : upd (upd (gA mr (r + 1)) (8 * i + 16) (gA mr (r + 1) (8 * i + 16) + gn)) (8 * i + 17) hv (8 * i + 17) = hv := ui rfl
      unfold PV
      rw [e16, e17, u (8 * i + 13) (by omega) (by omega), u 4 (by omega) (by omega), u (8 * i + 14) (by omega) (by omega), u (8 * i + 15) (by omega) (by omega), u (8 * i + 18) (by omega) (by omega), u (8 * i + 19) (by omega) (by omega), u (8 * i + 20) (by omega) (by omega)]
      exact ⟨a1, a2, a3, a4, a5, by omega, by omega, tM.1, tM.2, a10, a11, a12⟩
    · rw [inW_eq N 0 (fun k q1 q2 => by rw [un (by omega), un (by omega)])]
      exact hV.2.2.2.2.1
  have V2 := V1.hm (w1 := upd (upd (upd (gA mr (r + 1)) (8 * i + 16) (gA mr (r + 1) (8 * i + 16) + gn)) (8 * i + 17) hv) (2 * h + 78) (gA mr (r + 1) (2 * h + 78) + 1)) hh (fun k h1 h2 => un h2) (by
    unfold HV
    rw [ui rfl, un (by omega), un (by omega), un (by omega)]
    rw [ti.1] at c4
    simp only [tl] at c4
    omega)
  have V3 := V2.sc (T1 := T) (w1 := upd (upd (upd (upd (gA mr (r + 1)) (8 * i + 16) (gA mr (r + 1) (8 * i + 16) + gn)) (8 * i + 17) hv) (2 * h + 78) (gA mr (r + 1) (2 * h + 78) + 1)) 7 (gA mr (r + 1) 7 + 1)) (fun k hk => un (by omega)) (by rw [un (by omega)]; exact Int.le_refl _) (by
    have hs := V2.1
    unfold SV at hs ⊢
    rw [un (by omega), un (by omega), un (by omega), un (by omega), un (by omega), un (by omega), un (by omega), un (by omega), un (by omega)]
    exact hs)
  refine SIM.ok (N := N) (H := H) (by omega) rfl (by simp [mm, h0]) ?_ ?_
  · simp only [gA_same]
    exact F3
  · simp only [gA_same]
    exact V3
end
