/-! further operations: hammers and pieces that are added, strokes, quenching, tests -/
def VD (g : mG) : Prop := vdA g 0 ≠ vdA g 1 ∧ vdA g 0 ≠ vdA g 2 ∧ vdA g 1 ≠ vdA g 2
section
variable {g : mG} {mc mr : mM} {f r N H T i : Nat} {w : Nat → Int32}
theorem sim_equip (hF : FR g mc f (gA mr (r + 1)) N H) (hV : RV T (gA mr (r + 1)) N H) (h0 : gI mr 384 r = 0) (a : Int32) : SIM g f r (pl5 0 0 1 2 0) T mc (X3_newHammer_m g mc f a H) (X3_newHammer_r g mc f a H) (X11_equips_m g mr r a H) (X11_equips_r g mr r a H) := by
  unfold X3_newHammer_m X3_newHammer_r X11_equips_m X11_equips_r
  by_cases c1 : a < 1
  · have e : isI a 1 9 = 0 := (isI_b _ _ _).mpr (by
      rw [ti.1] at c1
      simp only [tl] at c1 ⊢
      omega)
    rw [if_pos c1, if_pos c1, if_pos e, if_pos e]
    exact SIM.no3 (by decide)
  rw [if_neg c1, if_neg c1]
  by_cases c2 : a ≤ 9
  rotate_left
  · have e : isI a 1 9 = 0 := (isI_b _ _ _).mpr (by
      rw [ti.2.1] at c2
      simp only [tl] at c2 ⊢
      omega)
    rw [if_neg c2, if_neg c2, if_pos e, if_pos e]
    exact SIM.no3 (by decide)
  have e : ¬ isI a 1 9 = 0 := fun c => (isI_b _ _ _).mp c (by
      rw [ti.2.1] at c2
      rw [ti.1] at c1
      simp only [tl] at c1 c2 ⊢
      omega)
  rw [if_pos c2, if_pos c2, if_neg e, if_neg e]
  have hH4 := hF.2.2.2.2.2
  have hN8 := hF.2.2.2.2.1
  have e4 : nI H = 4 ↔ H = 4 := nI_eq (a := H) (b := 4) (by omega) (by omega)
  have l4 : nI H < 4 ↔ H < 4 := nI_ltI (a := H) (b := 4) (by omega) (by omega)
  by_cases c3 : H = 4
  · rw [if_neg (fun q => by have := l4.mp q; omega), if_neg (fun q => by have := l4.mp q; omega), if_pos (e4.mpr c3), if_pos (e4.mpr c3)]
    exact SIM.no4 (by decide)
  rw [if_pos (l4.mpr (by omega)), if_pos (l4.mpr (by omega)), if_neg (fun q => c3 (e4.mp q)), if_neg (fun q => c3 (e4.mp q)), nI_1, nI_pred]
  rw [ti.1] at c1
  rw [ti.2.1] at c2
  simp only [tl] at c1 c2
  obtain ⟨s1, s2, s3, s4, s5, s6, s7, s8, s9, s10, s11, s12, s13⟩ := hF.2.1
  have eW : gA (sA (sA (sA mr (r + 1) (2 * H + 77) a) (r + 1) (2 * H + 78) 0) (r + 1) 6 (nI (H + 1))) (r + 1) = upd (upd (upd (gA mr (r + 1)) (2 * H + 77) a) (2 * H + 78) 0) 6 (nI (H + 1)) := by rw [gA_same, gA_same, gA_same]
  have u : ∀ k, k ≠ 6 → k ≠ 2 * H + 77 → k ≠ 2 * H + 78 → upd (upd (upd (gA mr (r + 1)) (2 * H + 77) a) (2 * H + 78) 0) 6 (nI (H + 1)) k = gA mr (r + 1) k := fun k h1 h2 h3 => by rw [un h1, un h3, un h2]
  refine SIM.ok (N := N) (H := H + 1) (by rw [nI_toInt (by omega)]; omega) rfl (by simp [mm, h0]) ?_ ?_
  · rw [eW]
    unfold X5_begin_m
    refine ⟨hF.1.to rfl rfl rfl rfl rfl, ?_, fun i hi => ?_, fun i hi => ?_, hN8, by omega⟩
    · unfold FS
      rw [ui rfl, u 0 (by omega) (by omega) (by omega), u 1 (by omega) (by omega) (by omega), u 2 (by omega) (by omega) (by omega), u 3 (by omega) (by omega) (by omega), u 4 (by omega) (by omega) (by omega), u 5 (by omega) (by omega) (by omega), u 7 (by omega) (by omega) (by omega), u 8 (by omega) (by omega) (by omega), u 9 (by omega) (by omega) (by omega), u 10 (by omega) (by omega) (by omega), u 11 (by omega) (by omega) (by omega), u 12 (by omega) (by omega) (by omega)]
      refine ⟨?_, ?_, ?_, ?_, ?_, ?_, ?_, ?_, ?_, ?_, ?_, ?_, ?_⟩
      all_goals simp [mm, *]
    · have a1 := hF.1.lo (i := i) (by omega)
      have a2 := hF.1.hi (i := i) (by omega)
      have p := hF.2.2.1 i hi
      show PR g _ (pa mc f i) _ i
      refine PR.row (PR.to p ?_) (fun k hk => u _ (by omega) (by omega) (by omega))
      exact mS_tr (mS_I (by omega)) (mS_tr (mS_I (by omega)) (mS_I (by omega)))
    · by_cases c : i = H
      · subst c
        unfold HR
        rw [un (by omega), un (by omega), ui rfl, un (by omega), ui rfl]
        simp [mm]
      · have p := hF.2.2.2.1 i (by omega)
        have p2 := p.to (m1 := sI (sI (sI mc 224 (f + 12 + H) a) 225 (f + 12 + H) 0) 164 f (nI (H + 1))) (mS_tr (mS_I (by omega)) (mS_tr (mS_I (by omega)) (mS_I (by omega))))
        unfold HR
        rw [u _ (by omega) (by omega) (by omega), u _ (by omega) (by omega) (by omega)]
        exact p2
  · rw [eW]
    obtain ⟨h1, h2, h3, h4, h5, h6, h7⟩ := hV
    refine ⟨?_, fun j hj => (h2 j hj).row (fun k hk => u _ (by omega) (by omega) (by omega)) (u 4 (by omega) (by omega) (by omega)), fun j j2 q1 q2 => ?_, fun j hj => ?_, ?_, h6, by omega⟩
    · unfold SV
      rw [u 1 (by omega) (by omega) (by omega), u 2 (by omega) (by omega) (by omega), u 3 (by omega) (by omega) (by omega), u 4 (by omega) (by omega) (by omega), u 5 (by omega) (by omega) (by omega), u 8 (by omega) (by omega) (by omega), u 9 (by omega) (by omega) (by omega), u 10 (by omega) (by omega) (by omega), ui rfl]
      exact ⟨h1.1, rfl, h1.2.2⟩
    · rw [u _ (by omega) (by omega) (by omega), u _ (by omega) (by omega) (by omega)]
      exact h3 j j2 q1 q2
    · by_cases c : j = H
      · subst c
        unfold HV
        rw [un (by omega), un (by omega), ui rfl, un (by omega), ui rfl]
        simp only [tl]
        omega
      · have p := h4 j (by omega)
        unfold HV
        rw [u _ (by omega) (by omega) (by omega), u _ (by omega) (by omega) (by omega)]
        exact p
    · rw [inW_eq N 0 (fun k q1 q2 => u _ (by omega) (by omega) (by omega))]
      exact h5
/-- the row of a piece that is made -/
theorem mk_l {a : Int32} : ∀ (n j : Nat) (m : mM), j + n = 8 → (X11_makes_l1 g r a N n j m).1 = gA m (r + 1) 4 ∧ gI (X11_makes_l1 g r a N n j m).2 = gI m ∧ ∀ k, gA (X11_makes_l1 g r a N n j m).2 (r + 1) k = upd (upd (upd (upd (upd (upd (fun k => if 8 * N + 13 + j ≤ k ∧ k < 8 * N + 21 then 0 else gA m (r + 1) k) (8 * N + 13) (gA m (r + 1) 4)) (8 * N + 14) a) (8 * N + 15) 20) (8 * N + 17) 10) 5 (nI N + 1)) 4 (gA m (r + 1) 4 + 1) k
  | 0, j, m, hj => by
    rw [X11_makes_l1]
    refine ⟨rfl, rfl, fun k => ?_⟩
    simp only [gA_same]
    have e : (fun k => if 8 * N + 13 + j ≤ k ∧ k < 8 * N + 21 then 0 else gA m (r + 1) k) = gA m (r + 1) := by
      funext k
      rw [if_neg (by omega)]
    rw [e]
  | n + 1, j, m, hj => by
    rw [X11_makes_l1]
    obtain ⟨h1, h2, h3⟩ := mk_l (a := a) n (j + 1) (sA m (r + 1) (8 * N + (13 + j)) 0) (by omega)
    have e4 : gA (sA m (r + 1) (8 * N + (13 + j)) 0) (r + 1) 4 = gA m (r + 1) 4 := by rw [gA_same, un (by omega)]
    refine ⟨h1.trans e4, h2, fun k => ?_⟩
    rw [h3 k, e4, gA_same]
    have e : (fun k => if 8 * N + 13 + (j + 1) ≤ k ∧ k < 8 * N + 21 then 0 else upd (gA m (r + 1)) (8 * N + (13 + j)) 0 k) = (fun k => if 8 * N + 13 + j ≤ k ∧ k < 8 * N + 21 then 0 else gA m (r + 1) k) := by
      funext k
      by_cases c : k = 8 * N + (13 + j)
      · rw [ui c, if_neg (by omega), if_pos (by omega)]
      · rw [un c]
        by_cases d : 8 * N + 13 + (j + 1) ≤ k ∧ k < 8 * N + 21
        · rw [if_pos d, if_pos (by omega)]
        · rw [if_neg d, if_neg (by omega)]
    rw [e]
theorem newp_core (hF : FR g mc f (gA mr (r + 1)) N H) (hV : RV T (gA mr (r + 1)) N H) (h0 : gI mr 384 r = 0) (hT : T + 1 ≤ 9000) (hN : N < 8) {a : Int32} (ha : a = 98 ∨ a = 110 ∨ a = 119) {pl : Int32 → Int32} : SIM g f r pl (T + 1) mc (sI (X7_begin_m g (sI mc 165 f (gI mc 165 f + 1)) (pa mc f N) (gI mc 165 f + 1) a) 163 f (nI N + 1)) (gI (X7_begin_m g (sI mc 165 f (gI mc 165 f + 1)) (pa mc f N) (gI mc 165 f + 1) a) 165 f) (X11_makes_l1 g r a N 8 0 mr).2 (X11_makes_l1 g r a N 8 0 mr).1 := by
  obtain ⟨k1, k2, k3⟩ := mk_l (g := g) (r := r) (N := N) (a := a) 8 0 mr rfl
  obtain ⟨s1, s2, s3, s4, s5, s6, s7, s8, s9, s10, s11, s12, s13⟩ := hF.2.1
  obtain ⟨v1, v2, v3, v4, v5, v6, v7, v8, v9, v10, v11, v12, v13, v14, v15, v16, v17⟩ := hV.1
  have a1 := hF.1.lo (i := N) hN
  have a2 := hF.1.hi (i := N) hN
  have n4 : nI N + 1 = nI (N + 1) := nI_1 N
  rw [s5]
  unfold X7_begin_m
  have hans : gI (sR (sI (sI (sI (sI (sI (sI (sI (sI mc 165 f (gA mr (r + 1) 4)) 288 (pa mc f N) (gA mr (r + 1) 4)) 289 (pa mc f N) a) 290 (pa mc f N) 20) 291 (pa mc f N) 0) 292 (pa mc f N) 10) 293 (pa mc f N) 0) 294 (pa mc f N) 0) 295 (pa mc f N) (some (vdA g 0))) 165 f = gA mr (r + 1) 4 := by simp [mm]
  rw [hans]
  have t4 : (gA mr (r + 1) 4 + 1).toInt = (gA mr (r + 1) 4).toInt + 1 := by
    rw [Kit.i32_add (by simp only [tl]; omega) (by simp only [tl]; omega)]
    simp only [tl]
  generalize gA mr (r + 1) = w at *
  have u : ∀ k, k ≠ 4 → k ≠ 5 → (k < 8 * N + 13 ∨ 8 * N + 21 ≤ k) → gA (X11_makes_l1 g r a N 8 0 mr).2 (r + 1) k = w k := fun k h1 h2 h3 => by
    rw [k3, un h1, un h2, un (by omega), un (by omega), un (by omega), un (by omega), if_neg (by omega)]
  have e4 : gA (X11_makes_l1 g r a N 8 0 mr).2 (r + 1) 4 = w 4 + 1 := by rw [k3, ui rfl]
  have e5 : gA (X11_makes_l1 g r a N 8 0 mr).2 (r + 1) 5 = nI (N + 1) := by rw [k3, un (by omega), ui rfl, n4]
  have f0 : gA (X11_makes_l1 g r a N 8 0 mr).2 (r + 1) (8 * N + 13) = w 4 := by rw [k3, un (by omega), un (by omega), un (by omega), un (by omega), un (by omega), ui rfl]
  have f1 : gA (X11_makes_l1 g r a N 8 0 mr).2 (r + 1) (8 * N + 14) = a := by rw [k3, un (by omega), un (by omega), un (by omega), un (by omega), ui rfl]
  have f2 : gA (X11_makes_l1 g r a N 8 0 mr).2 (r + 1) (8 * N + 15) = 20 := by rw [k3, un (by omega), un (by omega), un (by omega), ui rfl]
  have f3 : gA (X11_makes_l1 g r a N 8 0 mr).2 (r + 1) (8 * N + 16) = 0 := by rw [k3, un (by omega), un (by omega), un (by omega), un (by omega), un (by omega), un (by omega), if_pos (by omega)]
  have f4 : gA (X11_makes_l1 g r a N 8 0 mr).2 (r + 1) (8 * N + 17) = 10 := by rw [k3, un (by omega), un (by omega), ui rfl]
  have f5 : gA (X11_makes_l1 g r a N 8 0 mr).2 (r + 1) (8 * N + 18) = 0 := by rw [k3, un (by omega), un (by omega), un (by omega), un (by omega), un (by omega), un (by omega), if_pos (by omega)]
  have f6 : gA (X11_makes_l1 g r a N 8 0 mr).2 (r + 1) (8 * N + 19) = 0 := by rw [k3, un (by omega), un (by omega), un (by omega), un (by omega), un (by omega), un (by omega), if_pos (by omega)]
  have f7 : gA (X11_makes_l1 g r a N 8 0 mr).2 (r + 1) (8 * N + 20) = 0 := by rw [k3, un (by omega), un (by omega), un (by omega), un (by omega), un (by omega), un (by omega), if_pos (by omega)]
  have hthr : gI (X11_makes_l1 g r a N 8 0 mr).2 384 r = 0 := by rw [k2, h0]
  obtain ⟨w1, hw1⟩ : ∃ w1, gA (X11_makes_l1 g r a N 8 0 mr).2 (r + 1) = w1 := ⟨_, rfl⟩
  rw [hw1] at u e4 e5 f0 f1 f2 f3 f4 f5 f6 f7
  have hk : ∀ q, q ≠ f → q ≠ pa mc f N → mS mc (sI (sR (sI (sI (sI (sI (sI (sI (sI (sI mc 165 f (w 4)) 288 (pa mc f N) (w 4)) 289 (pa mc f N) a) 290 (pa mc f N) 20) 291 (pa mc f N) 0) 292 (pa mc f N) 10) 293 (pa mc f N) 0) 294 (pa mc f N) 0) 295 (pa mc f N) (some (vdA g 0))) 163 f (nI N + 1)) q := fun q h1 h2 => mS_tr (mS_I h1) (mS_tr (mS_I h2) (mS_tr (mS_I h2) (mS_tr (mS_I h2) (mS_tr (mS_I h2) (mS_tr (mS_I h2) (mS_tr (mS_I h2) (mS_tr (mS_I h2) (mS_tr (mS_R h2) (mS_I h1)))))))))
  refine SIM.ok (N := N + 1) (H := H) (by omega) k1 hthr ?_ ?_
  · rw [hw1]
    refine ⟨hF.1.to rfl (by simp [mm]) (by simp [mm]) (by simp [mm]) rfl, ?_, fun i hi => ?_, fun i hi => ?_, by omega, hF.2.2.2.2.2⟩
    · unfold FS
      rw [e4, e5, u 0 (by omega) (by omega) (by omega), u 1 (by omega) (by omega) (by omega), u 2 (by omega) (by omega) (by omega), u 3 (by omega) (by omega) (by omega), u 6 (by omega) (by omega) (by omega), u 7 (by omega) (by omega) (by omega), u 8 (by omega) (by omega) (by omega), u 9 (by omega) (by omega) (by omega), u 10 (by omega) (by omega) (by omega), u 11 (by omega) (by omega) (by omega), u 12 (by omega) (by omega) (by omega)]
      refine ⟨?_, ?_, ?_, ?_, ?_, ?_, ?_, ?_, ?_, ?_, ?_, ?_, ?_⟩
      all_goals simp [mm, n4, s1, s2, s3, s4, s6, s7, s8, s9, s10, s11, s12, s13]
    · show PR g _ (pa mc f i) w1 i
      by_cases c : i = N
      · subst c
        unfold PR
        rw [f0, f1, f2, f3, f4, f5, f6, f7]
        refine ⟨?_, ?_, ?_, ?_, ?_, ?_, ?_, Or.inl ⟨?_, rfl⟩⟩
        all_goals simp [mm]
      · have p := hF.2.2.1 i (by omega)
        have b1 := hF.1.lo (i := i) (by omega)
        have d : pa mc f i ≠ pa mc f N := fun e => c (hF.1.inj (by omega) hN e)
        exact (p.to (hk _ (by omega) d)).row (fun k hk => u _ (by omega) (by omega) (by omega))
    · have p := (hF.2.2.2.1 i hi).to (hk (f + 12 + i) (by omega) (by omega))
      unfold HR
      rw [u _ (by omega) (by omega) (by omega), u _ (by omega) (by omega) (by omega)]
      exact p
  · rw [hw1]
    obtain ⟨h1, h2, h3, h4, h5, h6, h7⟩ := hV
    have hpv : ∀ j, j < N + 1 → PV w1 j := fun j hj => by
      by_cases c : j = N
      · subst c
        unfold PV
        rw [f0, f1, f2, f3, f4, f5, f6, f7, e4, t4]
        simp only [tl]
        refine ⟨by omega, by omega, ha, by omega, by omega, by omega, by omega, by omega, by omega, Or.inl trivial, Or.inl trivial, Or.inl trivial⟩
      · have p := h2 j (by omega)
        unfold PV at p ⊢
        rw [u (8 * j + 13) (by omega) (by omega) (by omega), u (8 * j + 14) (by omega) (by omega) (by omega), u (8 * j + 15) (by omega) (by omega) (by omega), u (8 * j + 16) (by omega) (by omega) (by omega), u (8 * j + 17) (by omega) (by omega) (by omega), u (8 * j + 18) (by omega) (by omega) (by omega), u (8 * j + 19) (by omega) (by omega) (by omega), u (8 * j + 20) (by omega) (by omega) (by omega), e4, t4]
        obtain ⟨b1, b2, b3⟩ := p
        exact ⟨b1, by omega, b3⟩
    refine ⟨?_, hpv, fun j j2 q1 q2 => ?_, fun j hj => ?_, ?_, by omega, h7⟩
    · unfold SV
      rw [e4, e5, t4, u 1 (by omega) (by omega) (by omega), u 2 (by omega) (by omega) (by omega), u 3 (by omega) (by omega) (by omega), u 6 (by omega) (by omega) (by omega), u 8 (by omega) (by omega) (by omega), u 9 (by omega) (by omega) (by omega), u 10 (by omega) (by omega) (by omega)]
      refine ⟨rfl, v2, v3, v4, v5, v6, v7, v8, ?_⟩
      omega
    · rw [u (8 * j + 13) (by omega) (by omega) (by omega)]
      by_cases c : j2 = N
      · subst c
        rw [f0]
        exact (h2 j (by omega)).2.1
      · rw [u _ (by omega) (by omega) (by omega)]
        exact h3 j j2 q1 (by omega)
    · have p := h4 j hj
      unfold HV
      rw [u _ (by omega) (by omega) (by omega), u _ (by omega) (by omega) (by omega)]
      exact p
    · have e : ∀ (n j : Nat), j + n = N → inW w1 (n + 1) j = inW w n j := by
        intro n
        induction n with
        | zero =>
          intro j hj
          have : j = N := by omega
          subst this
          show (if w1 (8 * j + 18) = 0 then 0 else 1) + inW w1 0 (j + 1) = 0
          rw [f5, if_pos rfl]
          rfl
        | succ n ih =>
          intro j hj
          rw [inW, ih (j + 1) (by omega), inW, u _ (by omega) (by omega) (by omega)]
      rw [e N 0 (by omega)]
      exact h5
theorem sim_make (hF : FR g mc f (gA mr (r + 1)) N H) (hV : RV T (gA mr (r + 1)) N H) (h0 : gI mr 384 r = 0) (hT : T + 1 ≤ 9000) (a : Int32) : SIM g f r (pl5 0 0 1 2 0) (T + 1) mc (X3_newPiece_m g mc f a N) (X3_newPiece_r g mc f a N) (X11_makes_m g mr r a N) (X11_makes_r g mr r a N) := by
  unfold X3_newPiece_m X3_newPiece_r X11_makes_m X11_makes_r
  have hN8 := hF.2.2.2.2.1
  have e8 : nI N = 8 ↔ N = 8 := nI_eq (a := N) (b := 8) (by omega) (by omega)
  have l8 : nI N < 8 ↔ N < 8 := nI_ltI (a := N) (b := 8) (by omega) (by omega)
  by_cases c : N = 8
  · have n8 : ¬ nI N < 8 := fun q => by
      have := l8.mp q
      omega
    simp only [if_neg n8, if_pos (e8.mpr c)]
    by_cases d1 : a = 98
    · rw [if_pos d1, if_pos d1, if_pos d1]
      exact SIM.no4 (by decide)
    rw [if_neg d1, if_neg d1, if_neg d1]
    by_cases d2 : a = 110
    · rw [if_pos d2, if_pos d2, if_pos d2]
      exact SIM.no4 (by decide)
    rw [if_neg d2, if_neg d2, if_neg d2]
    by_cases d3 : a = 119
    · rw [if_pos d3, if_pos d3, if_pos d3]
      exact SIM.no4 (by decide)
    rw [if_neg d3, if_neg d3, if_neg d3]
    exact SIM.no3 (by decide)
  · have n8 : nI N < 8 := l8.mpr (by omega)
    have m8 : ¬ nI N = 8 := fun q => c (e8.mp q)
    simp only [if_pos n8, if_neg m8]
    by_cases d1 : a = 98
    · rw [if_pos d1, if_pos d1, if_pos d1]
      exact newp_core hF hV h0 hT (by omega) (Or.inl d1)
    rw [if_neg d1, if_neg d1, if_neg d1]
    by_cases d2 : a = 110
    · rw [if_pos d2, if_pos d2, if_pos d2]
      exact newp_core hF hV h0 hT (by omega) (Or.inr (Or.inl d2))
    rw [if_neg d2, if_neg d2, if_neg d2]
    by_cases d3 : a = 119
    · rw [if_pos d3, if_pos d3, if_pos d3]
      exact newp_core hF hV h0 hT (by omega) (Or.inr (Or.inr d3))
    rw [if_neg d3, if_neg d3, if_neg d3]
    exact SIM.no3 (by decide)
end
