/-! A FORGE IS COPIED; THE ROWS ARE LAID -/
section
variable {g : mG} {m m1 : mM} {f o i r N H T : Nat} {w : Nat → Int32}
def CP7 (m M : mM) (h o : Nat) : Prop := (gI M 288 h = gI m 288 o ∧ gI M 289 h = gI m 289 o ∧ gI M 290 h = gI m 290 o ∧ gI M 291 h = gI m 291 o ∧ gI M 292 h = gI m 292 o ∧ gI M 293 h = gI m 293 o ∧ gI M 294 h = gI m 294 o) ∧ gR M 295 h = gR m 295 o
theorem cp7 (m : mM) (h o : Nat) : CP7 m (X7_copyFrom_m g m h o) h o ∧ ∀ a, a ≠ h → mS m (X7_copyFrom_m g m h o) a := by
  unfold X7_copyFrom_m
  refine ⟨⟨⟨?_, ?_, ?_, ?_, ?_, ?_, ?_⟩, ?_⟩, fun a ha => mS_tr (mS_I ha) (mS_tr (mS_I ha) (mS_tr (mS_I ha) (mS_tr (mS_I ha) (mS_tr (mS_I ha) (mS_tr (mS_I ha) (mS_tr (mS_I ha) (mS_R ha)))))))⟩
  all_goals simp [mm]
theorem CP7.l {m0 m M M2 : mM} {h o : Nat} (c : CP7 m M h o) (e : mS m0 m o) (e2 : mS M M2 h) : CP7 m0 M2 h o := by
  obtain ⟨⟨c1, c2, c3, c4, c5, c6, c7⟩, c8⟩ := c
  exact ⟨⟨(e2.1 _).trans (c1.trans (e.1 _)), (e2.1 _).trans (c2.trans (e.1 _)), (e2.1 _).trans (c3.trans (e.1 _)), (e2.1 _).trans (c4.trans (e.1 _)), (e2.1 _).trans (c5.trans (e.1 _)), (e2.1 _).trans (c6.trans (e.1 _)), (e2.1 _).trans (c7.trans (e.1 _))⟩, (e2.2.2.1 _).trans (c8.trans (e.2.2.1 _))⟩
theorem PR.cp {M : mM} {h q : Nat} (p : PR g m q w i) (c : CP7 m M h q) : PR g M h w i := by
  obtain ⟨⟨c1, c2, c3, c4, c5, c6, c7⟩, c8⟩ := c
  obtain ⟨p1, p2, p3, p4, p5, p6, p7, p8⟩ := p
  refine ⟨c1.trans p1, c2.trans p2, c3.trans p3, c4.trans p4, c5.trans p5, c6.trans p6, c7.trans p7, ?_⟩
  unfold PT at p8 ⊢
  rw [c8]
  exact p8
theorem cf1 : ∀ (n j : Nat) (m : mM), SF m f → SF m o → (f + 16 ≤ o ∨ o + 16 ≤ f) → j + n = 8 → ∃ M, X3_copyFrom_l1 g f o n j m = X3_copyFrom_l2 g f o 4 0 M ∧ gK M = gK m ∧ gQ M = gQ m ∧ (∀ k, k ≠ 295 → ∀ a, gR M k a = gR m k a) ∧ (∀ i, j ≤ i → i < 8 → CP7 m M (pa m f i) (pa m o i)) ∧ ∀ a, (∀ i, j ≤ i → i < 8 → a ≠ pa m f i) → mS m M a
  | 0, j, m, hs, ho, hd, hj => ⟨m, by rw [X3_copyFrom_l1], rfl, rfl, fun _ _ _ => rfl, fun i h1 h2 => by omega, fun _ _ => mS_rf⟩
  | n + 1, j, m, hs, ho, hd, hj => by
    rw [X3_copyFrom_l1]
    obtain ⟨t1, t2⟩ := cp7 (g := g) m (pa m f j) (pa m o j)
    have kK := kK_X7_copyFrom g m (pa m f j) (pa m o j)
    have kQ := kQ_X7_copyFrom g m (pa m f j) (pa m o j)
    have kR := fun k a (h : k ≠ 295) => kR_X7_copyFrom g m (pa m f j) (pa m o j) k a h
    generalize X7_copyFrom_m g m (pa m f j) (pa m o j) = m2 at *
    have l1 := hs.lo (i := j) (by omega)
    have l2 := hs.hi (i := j) (by omega)
    have hs2 : SF m2 f := hs.to kK (kR _ _ (by decide)) (kR _ _ (by decide)) (kR _ _ (by decide)) kQ
    have ho2 : SF m2 o := ho.to kK (kR _ _ (by decide)) (kR _ _ (by decide)) (kR _ _ (by decide)) kQ
    have hp : ∀ i, pa m2 f i = pa m f i := fun i => pa_to (by rw [kQ])
    have hp2 : ∀ i, pa m2 o i = pa m o i := fun i => pa_to (by rw [kQ])
    obtain ⟨M, e1, e2, e3, e4, e5, e6⟩ := cf1 n (j + 1) m2 hs2 ho2 hd (by omega)
    simp only [hp, hp2] at e5 e6
    refine ⟨M, e1, e2.trans kK, e3.trans kQ, fun k hk a => (e4 k hk a).trans (kR k a hk), fun i h1 h2 => ?_, fun a ha => mS_tr (t2 a (ha j (Nat.le_refl _) (by omega))) (e6 a (fun i h1 h2 => ha i (by omega) h2))⟩
    by_cases c : i = j
    · subst c
      exact t1.l mS_rf (e6 _ (fun k h3 h4 e => by
        have := hs.inj (by omega) (by omega) e
        omega))
    · have o1 := ho.lo (i := i) (by omega)
      have o2 := ho.hi (i := i) (by omega)
      exact (e5 i (by omega) h2).l (t2 _ (by omega)) mS_rf
theorem cf2 : ∀ (n j : Nat) (m : mM), (f + 16 ≤ o ∨ o + 16 ≤ f) → j + n = 4 → gK (X3_copyFrom_l2 g f o n j m) = gK m ∧ gQ (X3_copyFrom_l2 g f o n j m) = gQ m ∧ gR (X3_copyFrom_l2 g f o n j m) = gR m ∧ (∀ i, j ≤ i → i < 4 → gI (X3_copyFrom_l2 g f o n j m) 224 (f + 12 + i) = gI m 224 (o + 12 + i) ∧ gI (X3_copyFrom_l2 g f o n j m) 225 (f + 12 + i) = gI m 225 (o + 12 + i)) ∧ (gI (X3_copyFrom_l2 g f o n j m) 163 f = gI m 163 o ∧ gI (X3_copyFrom_l2 g f o n j m) 164 f = gI m 164 o ∧ gI (X3_copyFrom_l2 g f o n j m) 165 f = gI m 165 o ∧ gI (X3_copyFrom_l2 g f o n j m) 166 f = gI m 166 o ∧ gI (X3_copyFrom_l2 g f o n j m) 167 f = gI m 167 o ∧ gI (X3_copyFrom_l2 g f o n j m) 168 f = gI m 168 o ∧ gI (X3_copyFrom_l2 g f o n j m) 169 f = gI m 169 o ∧ gI (X3_copyFrom_l2 g f o n j m) 170 f = gI m 170 o ∧ gJ (X3_copyFrom_l2 g f o n j m) 171 f = gJ m 171 o) ∧ ∀ a, a ≠ f → (∀ i, j ≤ i → i < 4 → a ≠ f + 12 + i) → mS m (X3_copyFrom_l2 g f o n j m) a
  | 0, j, m, hd, hj => by
    rw [X3_copyFrom_l2]
    have d : ¬ f = o := by omega
    refine ⟨rfl, rfl, rfl, fun i h1 h2 => by omega, ⟨?_, ?_, ?_, ?_, ?_, ?_, ?_, ?_, ?_⟩, fun a ha _ => mS_tr (mS_I ha) (mS_tr (mS_I ha) (mS_tr (mS_I ha) (mS_tr (mS_I ha) (mS_tr (mS_I ha) (mS_tr (mS_I ha) (mS_tr (mS_I ha) (mS_tr (mS_I ha) (mS_J ha))))))))⟩
    all_goals simp [mm]
  | n + 1, j, m, hd, hj => by
    rw [X3_copyFrom_l2]
    have hc : ∀ a, a ≠ f + 12 + j → mS m (X5_copyFrom_m g m (f + 12 + j) (o + 12 + j)) a := fun a ha => by
      unfold X5_copyFrom_m
      exact mS_tr (mS_I ha) (mS_I ha)
    have hv : gI (X5_copyFrom_m g m (f + 12 + j) (o + 12 + j)) 224 (f + 12 + j) = gI m 224 (o + 12 + j) ∧ gI (X5_copyFrom_m g m (f + 12 + j) (o + 12 + j)) 225 (f + 12 + j) = gI m 225 (o + 12 + j) := by
      unfold X5_copyFrom_m
      refine ⟨?_, ?_⟩
      all_goals simp [mm]
    have kK : gK (X5_copyFrom_m g m (f + 12 + j) (o + 12 + j)) = gK m := rfl
    have kQ : gQ (X5_copyFrom_m g m (f + 12 + j) (o + 12 + j)) = gQ m := rfl
    have kR : gR (X5_copyFrom_m g m (f + 12 + j) (o + 12 + j)) = gR m := rfl
    generalize X5_copyFrom_m g m (f + 12 + j) (o + 12 + j) = m2 at *
    obtain ⟨e1, e2, e3, e4, e5, e6⟩ := cf2 n (j + 1) m2 hd (by omega)
    have ho := hc o (by omega)
    refine ⟨e1.trans kK, e2.trans kQ, e3.trans kR, fun i h1 h2 => ?_, ?_, fun a ha hb => mS_tr (hc a (hb j (Nat.le_refl _) (by omega))) (e6 a ha (fun i h1 h2 => hb i (by omega) h2))⟩
    · by_cases c : i = j
      · subst c
        have z := e6 (f + 12 + i) (by omega) (fun k h3 h4 => by omega)
        exact ⟨(z.1 _).trans hv.1, (z.1 _).trans hv.2⟩
      · have z := hc (o + 12 + i) (by omega)
        have y := e4 i (by omega) h2
        exact ⟨y.1.trans (z.1 _), y.2.trans (z.1 _)⟩
    · rw [ho.1, ho.1, ho.1, ho.1, ho.1, ho.1, ho.1, ho.1, ho.2.1] at e5
      exact e5
theorem copy_FR (h : FR g m o w N H) (hs : SF m f) (hd : f + 16 ≤ o ∨ o + 16 ≤ f) : FR g (X3_copyFrom_m g m f o) f w N H := by
  obtain ⟨ho, h2, h3, h4, h5, h6⟩ := h
  unfold X3_copyFrom_m
  have hc : ∀ a, a ≠ f + 1 → mS m (X4_copyFrom_m g m (f + 1) (o + 1)) a := fun a ha => by
    unfold X4_copyFrom_m
    exact mS_tr (mS_I ha) (mS_tr (mS_I ha) (mS_tr (mS_I ha) (mS_J ha)))
  have hv : gI (X4_copyFrom_m g m (f + 1) (o + 1)) 192 (f + 1) = gI m 192 (o + 1) ∧ gI (X4_copyFrom_m g m (f + 1) (o + 1)) 193 (f + 1) = gI m 193 (o + 1) ∧ gI (X4_copyFrom_m g m (f + 1) (o + 1)) 194 (f + 1) = gI m 194 (o + 1) ∧ gJ (X4_copyFrom_m g m (f + 1) (o + 1)) 195 (f + 1) = gJ m 195 (o + 1) := by
    unfold X4_copyFrom_m
    refine ⟨?_, ?_, ?_, ?_⟩
    all_goals simp [mm]
  have kK : gK (X4_copyFrom_m g m (f + 1) (o + 1)) = gK m := rfl
  have kQ : gQ (X4_copyFrom_m g m (f + 1) (o + 1)) = gQ m := rfl
  have kR : gR (X4_copyFrom_m g m (f + 1) (o + 1)) = gR m := rfl
  generalize X4_copyFrom_m g m (f + 1) (o + 1) = m2 at *
  have hs2 : SF m2 f := hs.to kK (by rw [kR]) (by rw [kR]) (by rw [kR]) kQ
  have ho2 : SF m2 o := ho.to kK (by rw [kR]) (by rw [kR]) (by rw [kR]) kQ
  have hp : ∀ i, pa m2 f i = pa m f i := fun i => pa_to (by rw [kQ])
  have hp2 : ∀ i, pa m2 o i = pa m o i := fun i => pa_to (by rw [kQ])
  obtain ⟨M, e1, e2, e3, e4, e5, e6⟩ := cf1 (g := g) 8 0 m2 hs2 ho2 hd (by omega)
  obtain ⟨d1, d2, d3, d4, d5, d6⟩ := cf2 (g := g) 4 0 M hd (by omega)
  simp only [hp, hp2] at e5 e6
  rw [e1]
  generalize X3_copyFrom_l2 g f o 4 0 M = R at *
  have np : ∀ a, a < f + 4 ∨ f + 12 ≤ a → ∀ i, 0 ≤ i → i < 8 → a ≠ pa m f i := fun a ha i _ hi => by
    have l1 := hs.lo (i := i) hi
    have l2 := hs.hi (i := i) hi
    omega
  have sm : ∀ a, a ≠ f + 1 → (a < f + 4 ∨ f + 12 ≤ a) → mS m M a := fun a h1 h2 => mS_tr (hc a h1) (e6 a (np a h2))
  refine ⟨hs2.to (d1.trans e2) (by rw [d3, e4 _ (by decide)]) (by rw [d3, e4 _ (by decide)]) (by rw [d3, e4 _ (by decide)]) (d2.trans e3), ?_, fun i hi => ?_, fun i hi => ?_, h5, h6⟩
  · obtain ⟨s1, s2, s3, s4, s5, s6, s7, s8, s9, s10, s11, s12, s13⟩ := h2
    obtain ⟨y1, y2, y3, y4, y5, y6, y7, y8, y9⟩ := d5
    have zo := sm o (by omega) (by omega)
    have zf : mS m2 R (f + 1) := mS_tr (e6 _ (np _ (by omega))) (d6 _ (by omega) (fun i _ _ => by omega))
    refine ⟨y4.trans ((zo.1 _).trans s1), (zf.1 _).trans (hv.1.trans s2), (zf.1 _).trans (hv.2.1.trans s3), (zf.1 _).trans (hv.2.2.1.trans s4), ?_, y1.trans ((zo.1 _).trans s6), y2.trans ((zo.1 _).trans s7), y5.trans ((zo.1 _).trans s8), y6.trans ((zo.1 _).trans s9), (zf.2.1 _).trans (hv.2.2.2.trans s10), y9.trans ((zo.2.1 _).trans s11), y7.trans ((zo.1 _).trans s12), y8.trans ((zo.1 _).trans s13)⟩
    rw [y3, zo.1]
    exact s5
  · have q : pa R f i = pa m f i := (pa_to (by rw [d2, e3])).trans (hp i)
    rw [q]
    have l1 := hs.lo (i := i) (by omega)
    have l2 := hs.hi (i := i) (by omega)
    have o1 := ho.lo (i := i) (by omega)
    have o2 := ho.hi (i := i) (by omega)
    have c := (e5 i (by omega) (by omega)).l (hc _ (by omega)) (d6 _ (by omega) (fun k _ _ => by omega))
    exact (h3 i hi).cp c
  · have y := d4 i (by omega) (by omega)
    have z := sm (o + 12 + i) (by omega) (by omega)
    have p := h4 i hi
    exact ⟨y.1.trans ((z.1 _).trans p.1), y.2.trans ((z.1 _).trans p.2)⟩
/-- a row is laid over another -/
theorem lays_l {u1 u2 : Nat} (hu : u1 ≠ u2) : ∀ (n j : Nat) (m : mM), ∀ k, gA (X11_lays_l1 g u1 u2 n j m) u1 k = if j ≤ k ∧ k < j + n then gA m u2 k else gA m u1 k
  | 0, j, m, k => by
    rw [X11_lays_l1, if_neg (by omega)]
  | n + 1, j, m, k => by
    rw [X11_lays_l1, lays_l hu n (j + 1), gA_same, gA_ne _ _ _ hu.symm]
    by_cases c : j + 1 ≤ k ∧ k < j + 1 + n
    · rw [if_pos c, if_pos (by omega)]
    · rw [if_neg c]
      by_cases d : k = j
      · rw [ui d, if_pos (by omega), d]
      · rw [un d, if_neg (by omega)]
theorem lays_row {u1 u2 : Nat} (hu : u1 ≠ u2) (m : mM) {k : Nat} (hk : k < 85) : gA (X11_lays_m g m u1 u2) u1 k = gA m u2 k := by
  unfold X11_lays_m
  rw [lays_l hu 85 0 m k, if_pos (by omega)]
theorem lays_m : ∀ {u1 u2 : Nat} (n j : Nat) (m : mM) {a : Nat}, a ≠ u1 → mS m (X11_lays_l1 g u1 u2 n j m) a
  | u1, u2, 0, j, m, a, h => by
    rw [X11_lays_l1]
    exact mS_rf
  | u1, u2, n + 1, j, m, a, h => by
    rw [X11_lays_l1]
    exact mS_tr (mS_A h) (lays_m n (j + 1) _ h)
theorem lays_S {u1 u2 : Nat} (m : mM) {a : Nat} (h : a ≠ u1) : Sm m (X11_lays_m g m u1 u2) a := ⟨by rw [kK_X11_lays], lays_m 85 0 m h⟩
end
