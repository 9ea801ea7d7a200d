/-! A MINUTE -/
def tmpH (t hd q : Int32) : Int32 := if q = 0 then hd else if 700 ≤ t then 10 else if 200 ≤ t ∧ t ≤ 400 then imax 0 (hd - 1) else hd
def tmpQ (t q : Int32) : Int32 := if q = 0 then q else if 700 ≤ t then 0 else q
def tmpV (t v q : Int32) : Int32 := if q = 0 then v else if 700 ≤ t then 0 else v
/-- the furnace's temperature a minute on -/
def fuH (h l c : Int32) : Int32 := (if l ≤ c then imin 1200 (h + 20 * l) else h) - ((if l ≤ c then imin 1200 (h + 20 * l) else h) - 20) / 20
def fuL (l c : Int32) : Int32 := if l ≤ c then l else 0
def fuC (l c : Int32) : Int32 := if l ≤ c then c - l else c
section
variable {g : mG} {mc mr : mM} {f r N H T i : Nat} {w : Nat → Int32}
theorem ct_eq {m : mM} {q : Nat} {a : Int32} : X7_changeTemperature_m g m q a = sI m 290 q (lat (gI m 290 q) (gI m 293 q) a) := by
  unfold X7_changeTemperature_m lat
  by_cases c : gI m 293 q = 0
  · rw [if_pos c, if_pos c]
  · rw [if_neg c, if_neg c]
    by_cases d : a ≤ gI m 290 q
    · rw [if_pos d, if_pos d]
    · rw [if_neg d, if_neg d]
theorem lat_rg {t b a : Int32} (h1 : 20 ≤ t.toInt) (h2 : t.toInt ≤ 1200) (h3 : 20 ≤ a.toInt) (h4 : a.toInt ≤ 1200) : 20 ≤ (lat t b a).toInt ∧ (lat t b a).toInt ≤ 1200 := by
  unfold lat
  by_cases c : b = 0
  · rw [if_pos c]
    have e1 : (t - 20).toInt = t.toInt - 20 := by
      rw [Kit.i32_sub (by simp only [tl]; omega) (by simp only [tl]; omega)]
      simp only [tl]
    have e2 : ((t - 20) / 8).toInt = (t.toInt - 20) / 8 := by
      rw [i32_div0 (by omega) (by simp only [tl]; omega), e1]
      simp only [tl]
    rw [Kit.i32_sub (by rw [e2]; omega) (by rw [e2]; omega), e2]
    omega
  · rw [if_neg c]
    by_cases d : a ≤ t
    · rw [if_pos d]
      rw [ti.2.1] at d
      have e1 : (t - a).toInt = t.toInt - a.toInt := Kit.i32_sub (by omega) (by omega)
      have e2 : ((t - a) / 4).toInt = (t.toInt - a.toInt) / 4 := by
        rw [i32_div0 (by omega) (by simp only [tl]; omega), e1]
        simp only [tl]
      rw [Kit.i32_sub (by rw [e2]; omega) (by rw [e2]; omega), e2]
      omega
    · rw [if_neg d]
      rw [ti.2.1] at d
      have e1 : (a - t).toInt = a.toInt - t.toInt := Kit.i32_sub (by omega) (by omega)
      have e2 : ((a - t) / 4).toInt = (a.toInt - t.toInt) / 4 := by
        rw [i32_div0 (by omega) (by simp only [tl]; omega), e1]
        simp only [tl]
      rw [Kit.i32_add (by rw [e2]; omega) (by rw [e2]; omega), e2]
      omega
theorem fu_rg {h l c : Int32} (h1 : 20 ≤ h.toInt) (h2 : h.toInt ≤ 1200) (l1 : 0 ≤ l.toInt) (l2 : l.toInt ≤ 5) : 20 ≤ (fuH h l c).toInt ∧ (fuH h l c).toInt ≤ 1200 := by
  unfold fuH
  have e0 : (20 * l).toInt = 20 * l.toInt := by
    rw [Kit.i32_mul (by simp only [tl]; omega) (by simp only [tl]; omega)]
    simp only [tl]
  have e1 : (h + 20 * l).toInt = h.toInt + 20 * l.toInt := by
    rw [Kit.i32_add (by rw [e0]; omega) (by rw [e0]; omega), e0]
  have e2 : 20 ≤ (if l ≤ c then imin 1200 (h + 20 * l) else h).toInt ∧ (if l ≤ c then imin 1200 (h + 20 * l) else h).toInt ≤ 1200 := by
    by_cases d : l ≤ c
    · rw [if_pos d, imin_t, e1]
      simp only [tl]
      split <;> omega
    · rw [if_neg d]
      omega
  generalize (if l ≤ c then imin 1200 (h + 20 * l) else h) = x at e2 ⊢
  have e3 : (x - 20).toInt = x.toInt - 20 := by
    rw [Kit.i32_sub (by simp only [tl]; omega) (by simp only [tl]; omega)]
    simp only [tl]
  have e4 : ((x - 20) / 20).toInt = (x.toInt - 20) / 20 := by
    rw [i32_div0 (by omega) (by simp only [tl]; omega), e3]
    simp only [tl]
  rw [Kit.i32_sub (by rw [e4]; omega) (by rw [e4]; omega), e4]
  omega
/-- the class's furnace -/
theorem fu_cls (m : mM) (q : Nat) : gI (X4_passMinute_m g m q) 192 q = fuH (gI m 192 q) (gI m 193 q) (gI m 194 q) ∧ gI (X4_passMinute_m g m q) 193 q = fuL (gI m 193 q) (gI m 194 q) ∧ gI (X4_passMinute_m g m q) 194 q = fuC (gI m 193 q) (gI m 194 q) ∧ gJ (X4_passMinute_m g m q) 195 q = (if gI m 193 q ≤ gI m 194 q then gJ m 195 q + (gI m 193 q).toInt64 else gJ m 195 q) ∧ (∀ k, k ≠ 192 → k ≠ 193 → k ≠ 194 → gI (X4_passMinute_m g m q) k q = gI m k q) ∧ (∀ a, a ≠ q → mS m (X4_passMinute_m g m q) a) ∧ gK (X4_passMinute_m g m q) = gK m ∧ gR (X4_passMinute_m g m q) = gR m := by
  unfold X4_passMinute_m X4_burn_m fuH fuL fuC
  by_cases c : gI m 193 q ≤ gI m 194 q
  · simp only [if_pos c]
    refine ⟨?_, ?_, ?_, ?_, fun k h1 h2 h3 => ?_, fun a ha => mS_tr (mS_I ha) (mS_tr (mS_J ha) (mS_tr (mS_I ha) (mS_I ha))), rfl, rfl⟩
    all_goals simp [mm, *]
  · simp only [if_neg c]
    refine ⟨?_, ?_, ?_, ?_, fun k h1 h2 h3 => ?_, fun a ha => mS_tr (mS_I ha) (mS_I ha), rfl, rfl⟩
    all_goals simp [mm, *]
/-- the reference's furnace -/
theorem fu_ref (m : mM) (c n : Nat) (h1 : 20 ≤ (gA m c 1).toInt) (h2 : (gA m c 1).toInt ≤ 1200) (l1 : 0 ≤ (gA m c 2).toInt) (c0 : 0 ≤ (gA m c 3).toInt) : gA (X11_burns_m g m c n) c 1 = fuH (gA m c 1) (gA m c 2) (gA m c 3) ∧ gA (X11_burns_m g m c n) c 2 = fuL (gA m c 2) (gA m c 3) ∧ gA (X11_burns_m g m c n) c 3 = fuC (gA m c 2) (gA m c 3) ∧ gA (X11_burns_m g m c n) c 9 = (if gA m c 2 ≤ gA m c 3 then gA m c 9 + gA m c 2 else gA m c 9) ∧ (∀ k, k ≠ 1 → k ≠ 2 → k ≠ 3 → k ≠ 9 → gA (X11_burns_m g m c n) c k = gA m c k) ∧ (∀ a, a ≠ c → mS m (X11_burns_m g m c n) a) ∧ gK (X11_burns_m g m c n) = gK m ∧ gR (X11_burns_m g m c n) = gR m ∧ gI (X11_burns_m g m c n) = gI m ∧ gN (X11_burns_m g m c n) = gN m := by
  unfold X11_burns_m
  by_cases q1 : gA m c 2 ≤ 0
  · have z : gA m c 2 = 0 := by
      rw [ti.2.1] at q1
      rw [ti.2.2]
      simp only [tl] at q1 ⊢
      omega
    have q2 : (0 : Int32) ≤ gA m c 3 := by
      rw [ti.2.1]
      simp only [tl]
      exact c0
    have e1 : imin 1200 (gA m c 1 + 20 * 0) = gA m c 1 := by
      rw [Int32.mul_zero, Int32.add_zero]
      refine Int32.toInt_inj.mp ?_
      rw [imin_t]
      simp only [tl]
      split <;> omega
    simp only [if_pos q1]
    unfold fuH fuL fuC
    rw [z, if_pos q2, if_pos q2, if_pos q2, if_pos q2, e1, Int32.sub_zero, Int32.add_zero]
    refine ⟨?_, ?_, ?_, ?_, fun k a1 a2 a3 a4 => ?_, fun a ha => mS_tr (mS_A ha) (mS_A ha), rfl, rfl, rfl, rfl⟩
    all_goals simp [mm, *]
  · simp only [if_neg q1]
    by_cases q2 : gA m c 3 < gA m c 2
    · have q3 : ¬ gA m c 2 ≤ gA m c 3 := Int32.not_le.mpr q2
      simp only [if_pos q2]
      unfold fuH fuL fuC
      rw [if_neg q3, if_neg q3, if_neg q3, if_neg q3]
      refine ⟨?_, ?_, ?_, ?_, fun k a1 a2 a3 a4 => ?_, fun a ha => mS_tr (mS_A ha) (mS_A ha), rfl, rfl, rfl, rfl⟩
      all_goals simp [mm, *]
    · have q3 : gA m c 2 ≤ gA m c 3 := Int32.not_lt.mp q2
      simp only [if_neg q2]
      unfold fuH fuL fuC
      rw [if_pos q3, if_pos q3, if_pos q3, if_pos q3]
      by_cases q4 : 1200 ≤ gA m c 1 + 20 * gA m c 2
      · have e1 : imin 1200 (gA m c 1 + 20 * gA m c 2) = 1200 := by
          unfold imin
          rw [if_neg (Int32.not_lt.mpr q4)]
        simp only [if_pos q4]
        rw [e1]
        refine ⟨?_, ?_, ?_, ?_, fun k a1 a2 a3 a4 => ?_, fun a ha => mS_tr (mS_A ha) (mS_tr (mS_A ha) (mS_tr (mS_A ha) (mS_A ha))), rfl, rfl, rfl, rfl⟩
        all_goals simp [mm, *]
      · have e1 : imin 1200 (gA m c 1 + 20 * gA m c 2) = gA m c 1 + 20 * gA m c 2 := by
          unfold imin
          rw [if_pos (Int32.not_le.mp q4)]
        simp only [if_neg q4]
        rw [e1]
        refine ⟨?_, ?_, ?_, ?_, fun k a1 a2 a3 a4 => ?_, fun a ha => mS_tr (mS_A ha) (mS_tr (mS_A ha) (mS_tr (mS_A ha) (mS_A ha))), rfl, rfl, rfl, rfl⟩
        all_goals simp [mm, *]
theorem fu_all {h l c b a : Int32} (hl : 0 ≤ l.toInt ∧ l.toInt ≤ 5) (hc : 0 ≤ c.toInt ∧ c.toInt ≤ 99) (hb : 0 ≤ b.toInt ∧ b.toInt ≤ 1000000) : (0 ≤ (fuL l c).toInt ∧ (fuL l c).toInt ≤ 5) ∧ (0 ≤ (fuC l c).toInt ∧ (fuC l c).toInt ≤ 99) ∧ (fuC l c).toInt + (if l ≤ c then b + l else b).toInt = c.toInt + b.toInt ∧ 0 ≤ (if l ≤ c then b + l else b).toInt ∧ (if l ≤ c then b.toInt64 + l.toInt64 else b.toInt64) = (if l ≤ c then b + l else b).toInt64 := by
  unfold fuL fuC
  by_cases d : l ≤ c
  · simp only [if_pos d]
    rw [ti.2.1] at d
    have e1 : (c - l).toInt = c.toInt - l.toInt := Kit.i32_sub (by omega) (by omega)
    have e2 : (b + l).toInt = b.toInt + l.toInt := Kit.i32_add (by omega) (by omega)
    refine ⟨hl, by omega, by omega, by omega, (i64_sum (by omega) (by omega)).symm⟩
  · simp only [if_neg d]
    refine ⟨by decide, hc, by first | trivial | omega, hb.1, by first | trivial | rfl⟩
theorem tp_cls (m : mM) (q : Nat) : gI (X7_temper_m g m q) 292 q = tmpH (gI m 290 q) (gI m 292 q) (gI m 294 q) ∧ gI (X7_temper_m g m q) 294 q = tmpQ (gI m 290 q) (gI m 294 q) ∧ gR (X7_temper_m g m q) 295 q = (if gI m 294 q = 0 then gR m 295 q else if 700 ≤ gI m 290 q then some (vdA g 0) else gR m 295 q) ∧ (∀ a, a ≠ q → mS m (X7_temper_m g m q) a) := by
  unfold X7_temper_m tmpH tmpQ
  by_cases c1 : gI m 294 q = 0
  · simp only [if_pos c1]
    exact ⟨trivial, trivial, trivial, fun a _ => mS_rf⟩
  simp only [if_neg c1]
  by_cases c2 : gI m 290 q < 200
  · have d2 : ¬ (200 ≤ gI m 290 q ∧ gI m 290 q ≤ 400) := fun z => absurd c2 (Int32.not_lt.mpr z.1)
    have d3 : ¬ 700 ≤ gI m 290 q := fun z => by
      rw [ti.1] at c2
      rw [ti.2.1] at z
      simp only [tl] at c2 z
      omega
    have d4 : gI m 290 q < 700 := Int32.not_le.mp d3
    simp only [if_pos c2, if_pos d4, if_neg d3, if_neg d2]
    exact ⟨trivial, trivial, trivial, fun a _ => mS_rf⟩
  simp only [if_neg c2]
  by_cases c3 : 400 < gI m 290 q
  · have d2 : ¬ (200 ≤ gI m 290 q ∧ gI m 290 q ≤ 400) := fun z => absurd c3 (Int32.not_lt.mpr z.2)
    by_cases c4 : gI m 290 q < 700
    · have d3 : ¬ 700 ≤ gI m 290 q := Int32.not_le.mpr c4
      simp only [if_pos c3, if_pos c4, if_neg d3, if_neg d2]
      exact ⟨trivial, trivial, trivial, fun a _ => mS_rf⟩
    · have d3 : 700 ≤ gI m 290 q := Int32.not_lt.mp c4
      simp only [if_pos c3, if_neg c4, if_pos d3]
      refine ⟨?_, ?_, ?_, fun a ha => mS_tr (mS_I ha) (mS_tr (mS_R ha) (mS_I ha))⟩
      all_goals simp [mm]
  · have d2 : 200 ≤ gI m 290 q ∧ gI m 290 q ≤ 400 := ⟨Int32.not_lt.mp c2, Int32.not_lt.mp c3⟩
    have d3 : ¬ 700 ≤ gI m 290 q := fun z => by
      have y := d2.2
      rw [ti.2.1] at y z
      simp only [tl] at y z
      omega
    have d4 : gI m 290 q < 700 := Int32.not_le.mp d3
    simp only [if_neg c3, if_pos d4, if_neg d3, if_pos d2]
    refine ⟨?_, ?_, ?_, fun a ha => mS_I ha⟩
    all_goals simp [mm]
/-- all temperatures -/
theorem pm1 : ∀ (n j : Nat) (m : mM), SF m f → j + n = N → N ≤ 8 → ∃ M, X3_passMinute_l1 g f N n j m = X3_passMinute_l2 g f N N 0 M ∧ gK M = gK m ∧ gJ M = gJ m ∧ gR M = gR m ∧ gQ M = gQ m ∧ gA M = gA m ∧ (∀ k, k ≠ 290 → ∀ a, gI M k a = gI m k a) ∧ (∀ i, j ≤ i → i < N → gI M 290 (pa m f i) = lat (gI m 290 (pa m f i)) (gI m 293 (pa m f i)) (gI m 192 (f + 1))) ∧ ∀ a, (∀ i, j ≤ i → i < N → a ≠ pa m f i) → gI M 290 a = gI m 290 a
  | 0, j, m, hs, hj, hN => ⟨m, by rw [X3_passMinute_l1], rfl, rfl, rfl, rfl, rfl, fun _ _ _ => rfl, fun i h1 h2 => by omega, fun _ _ => rfl⟩
  | n + 1, j, m, hs, hj, hN => by
    rw [X3_passMinute_l1, ct_eq]
    obtain ⟨M, e1, e2, e3, e4, e5, e6, e7, e8, e9⟩ := pm1 n (j + 1) (sI m 290 (pa m f j) (lat (gI m 290 (pa m f j)) (gI m 293 (pa m f j)) (gI m 192 (f + 1)))) (hs.to rfl rfl rfl rfl rfl) (by omega) hN
    have hp : ∀ i, pa (sI m 290 (pa m f j) (lat (gI m 290 (pa m f j)) (gI m 293 (pa m f j)) (gI m 192 (f + 1)))) f i = pa m f i := fun i => rfl
    simp only [hp] at e8 e9
    refine ⟨M, e1, e2, e3, e4, e5, e6, fun k hk a => ?_, fun i h1 h2 => ?_, fun a ha => ?_⟩
    · rw [e7 k hk a]
      simp [mm, hk]
    · by_cases c : i = j
      · subst c
        rw [e9 _ (fun k h3 h4 e => by
          have := hs.inj (by omega) (by omega) e
          omega)]
        simp [mm]
      · have d : pa m f i ≠ pa m f j := fun e => c (hs.inj (by omega) (by omega) e)
        rw [e8 i (by omega) h2]
        simp [mm, d]
    · have d : a ≠ pa m f j := ha j (Nat.le_refl _) (by omega)
      rw [e9 a (fun i h1 h2 => ha i (by omega) h2)]
      simp [mm, d]
/-- all tempering -/
theorem pm2 : ∀ (n j : Nat) (m : mM), SF m f → j + n = N → N ≤ 8 → (∀ i, j ≤ i → i < N → gI (X3_passMinute_l2 g f N n j m) 292 (pa m f i) = tmpH (gI m 290 (pa m f i)) (gI m 292 (pa m f i)) (gI m 294 (pa m f i)) ∧ gI (X3_passMinute_l2 g f N n j m) 294 (pa m f i) = tmpQ (gI m 290 (pa m f i)) (gI m 294 (pa m f i)) ∧ gR (X3_passMinute_l2 g f N n j m) 295 (pa m f i) = (if gI m 294 (pa m f i) = 0 then gR m 295 (pa m f i) else if 700 ≤ gI m 290 (pa m f i) then some (vdA g 0) else gR m 295 (pa m f i))) ∧ ∀ a, (∀ i, j ≤ i → i < N → a ≠ pa m f i) → mS m (X3_passMinute_l2 g f N n j m) a
  | 0, j, m, hs, hj, hN => by
    rw [X3_passMinute_l2]
    exact ⟨fun i h1 h2 => by omega, fun _ _ => mS_rf⟩
  | n + 1, j, m, hs, hj, hN => by
    rw [X3_passMinute_l2]
    obtain ⟨t1, t2, t3, t4⟩ := tp_cls (g := g) m (pa m f j)
    have l1 := hs.lo (i := j) (by omega)
    have l2 := hs.hi (i := j) (by omega)
    have hs1 : SF (X7_temper_m g m (pa m f j)) f := hs.to (by rw [kK_X7_temper]) (by rw [kR_X7_temper _ _ _ _ _ (by decide)]) (by rw [kR_X7_temper _ _ _ _ _ (by decide)]) (by rw [kR_X7_temper _ _ _ _ _ (by decide)]) (by rw [kQ_X7_temper])
    have hp : ∀ i, pa (X7_temper_m g m (pa m f j)) f i = pa m f i := fun i => pa_to (by rw [kQ_X7_temper])
    obtain ⟨e1, e2⟩ := pm2 n (j + 1) (X7_temper_m g m (pa m f j)) hs1 (by omega) hN
    simp only [hp] at e1 e2
    refine ⟨fun i h1 h2 => ?_, fun a ha => mS_tr (t4 a (ha j (Nat.le_refl _) (by omega))) (e2 a (fun i h1 h2 => ha i (by omega) h2))⟩
    by_cases c : i = j
    · subst c
      have q := e2 (pa m f i) (fun k h3 h4 e => by
        have := hs.inj (by omega) (by omega) e
        omega)
      rw [q.1, q.1, q.2.2.1]
      exact ⟨t1, t2, t3⟩
    · have d : pa m f i ≠ pa m f j := fun e => c (hs.inj (by omega) (by omega) e)
      have q := e1 i (by omega) h2
      have z := t4 _ d
      rw [z.1 290, z.1 292, z.1 294, z.2.2.1 295] at q
      exact q
/-- one piece of the reference, from its new temperature t on -/
theorem half (C : mM → mM) (m : mM) (j : Nat) (t : Int32) (h0 : 0 ≤ (gA m (r + 1) (8 * j + 17)).toInt) : ∃ M, (if (gA m (r + 1) (8 * j + 19)) = 0 then C (sA m (r + 1) (8 * j + 15) t) else (if (isI t 200 400) = 0 then (if 700 ≤ t then C (sA (sA (sA (sA m (r + 1) (8 * j + 15) t) (r + 1) (8 * j + 19) 0) (r + 1) (8 * j + 20) 0) (r + 1) (8 * j + 17) 10) else C (sA m (r + 1) (8 * j + 15) t)) else (if (gA m (r + 1) (8 * j + 17)) ≤ 0 then (if 700 ≤ t then C (sA (sA (sA (sA m (r + 1) (8 * j + 15) t) (r + 1) (8 * j + 19) 0) (r + 1) (8 * j + 20) 0) (r + 1) (8 * j + 17) 10) else C (sA m (r + 1) (8 * j + 15) t)) else (if 700 ≤ t then C (sA (sA (sA (sA (sA m (r + 1) (8 * j + 15) t) (r + 1) (8 * j + 17) ((gA m (r + 1) (8 * j + 17)) - 1)) (r + 1) (8 * j + 19) 0) (r + 1) (8 * j + 20) 0) (r + 1) (8 * j + 17) 10) else C (sA (sA m (r + 1) (8 * j + 15) t) (r + 1) (8 * j + 17) ((gA m (r + 1) (8 * j + 17)) - 1)))))) = C M ∧ gI M = gI m ∧ gA M (r + 1) (8 * j + 15) = t ∧ gA M (r + 1) (8 * j + 17) = tmpH t (gA m (r + 1) (8 * j + 17)) (gA m (r + 1) (8 * j + 19)) ∧ gA M (r + 1) (8 * j + 19) = tmpQ t (gA m (r + 1) (8 * j + 19)) ∧ gA M (r + 1) (8 * j + 20) = tmpV t (gA m (r + 1) (8 * j + 20)) (gA m (r + 1) (8 * j + 19)) ∧ ∀ k, k ≠ 8 * j + 15 → k ≠ 8 * j + 17 → k ≠ 8 * j + 19 → k ≠ 8 * j + 20 → gA M (r + 1) k = gA m (r + 1) k := by
  unfold tmpH tmpQ tmpV
  by_cases c1 : gA m (r + 1) (8 * j + 19) = 0
  · simp only [if_pos c1]
    refine ⟨_, rfl, rfl, ?_, ?_, ?_, ?_, fun k h1 h2 h3 h4 => ?_⟩
    all_goals simp [gA_same, upd, *]
  simp only [if_neg c1]
  have hI := isI_b t 200 400
  simp only [tl] at hI
  by_cases c2 : isI t 200 400 = 0
  · have d2 : ¬ (200 ≤ t ∧ t ≤ 400) := fun z => by
      rw [ti.2.1, ti.2.1] at z
      simp only [tl] at z
      exact hI.mp c2 z
    simp only [if_pos c2, if_neg d2]
    by_cases c3 : 700 ≤ t
    · simp only [if_pos c3]
      refine ⟨_, rfl, rfl, ?_, ?_, ?_, ?_, fun k h1 h2 h3 h4 => ?_⟩
      all_goals simp [gA_same, upd, *]
    · simp only [if_neg c3]
      refine ⟨_, rfl, rfl, ?_, ?_, ?_, ?_, fun k h1 h2 h3 h4 => ?_⟩
      all_goals simp [gA_same, upd, *]
  · have d2 : 200 ≤ t ∧ t ≤ 400 := by
      rw [ti.2.1, ti.2.1]
      simp only [tl]
      exact Decidable.byContradiction fun z => c2 (hI.mpr z)
    have d3 : ¬ 700 ≤ t := fun z => by
      have y := d2.2
      rw [ti.2.1] at y z
      simp only [tl] at y z
      omega
    simp only [if_neg c2, if_pos d2, if_neg d3]
    by_cases c4 : gA m (r + 1) (8 * j + 17) ≤ 0
    · have z : gA m (r + 1) (8 * j + 17) = 0 := by
        rw [ti.2.1] at c4
        rw [ti.2.2]
        simp only [tl] at c4 ⊢
        omega
      have y : imax 0 (0 - 1) = 0 := by decide
      simp only [if_pos c4]
      refine ⟨_, rfl, rfl, ?_, ?_, ?_, ?_, fun k h1 h2 h3 h4 => ?_⟩
      · simp [gA_same, upd]
      · rw [z, y, gA_same, un (by omega), z]
      · simp [gA_same, upd]
      · simp [gA_same, upd]
      · simp [gA_same, upd, *]
    · have y : imax 0 (gA m (r + 1) (8 * j + 17) - 1) = gA m (r + 1) (8 * j + 17) - 1 := by
        refine Int32.toInt_inj.mp ?_
        rw [ti.2.1] at c4
        simp only [tl] at c4
        have e : (gA m (r + 1) (8 * j + 17) - 1).toInt = (gA m (r + 1) (8 * j + 17)).toInt - 1 := by
          have := i32_rg (gA m (r + 1) (8 * j + 17))
          rw [Kit.i32_sub (by simp only [tl]; omega) (by simp only [tl]; omega)]
          simp only [tl]
        rw [imax_t, e]
        simp only [tl]
        split <;> omega
      simp only [if_neg c4]
      rw [y]
      refine ⟨_, rfl, rfl, ?_, ?_, ?_, ?_, fun k h1 h2 h3 h4 => ?_⟩
      all_goals simp [gA_same, upd, *]
/-- all pieces of the reference -/
theorem liv_l : ∀ (n j : Nat) (m : mM), j + n = N → (∀ i, j ≤ i → i < N → 0 ≤ (gA m (r + 1) (8 * i + 17)).toInt ∧ (gA m (r + 1) (8 * i + 18) = 0 ∨ gA m (r + 1) (8 * i + 18) = 1)) → gI (X11_lives_l1 g r N n j m) = gI m ∧ (∀ i, j ≤ i → i < N → gA (X11_lives_l1 g r N n j m) (r + 1) (8 * i + 15) = lat (gA m (r + 1) (8 * i + 15)) (gA m (r + 1) (8 * i + 18)) (gA m (r + 1) 1) ∧ gA (X11_lives_l1 g r N n j m) (r + 1) (8 * i + 17) = tmpH (lat (gA m (r + 1) (8 * i + 15)) (gA m (r + 1) (8 * i + 18)) (gA m (r + 1) 1)) (gA m (r + 1) (8 * i + 17)) (gA m (r + 1) (8 * i + 19)) ∧ gA (X11_lives_l1 g r N n j m) (r + 1) (8 * i + 19) = tmpQ (lat (gA m (r + 1) (8 * i + 15)) (gA m (r + 1) (8 * i + 18)) (gA m (r + 1) 1)) (gA m (r + 1) (8 * i + 19)) ∧ gA (X11_lives_l1 g r N n j m) (r + 1) (8 * i + 20) = tmpV (lat (gA m (r + 1) (8 * i + 15)) (gA m (r + 1) (8 * i + 18)) (gA m (r + 1) 1)) (gA m (r + 1) (8 * i + 20)) (gA m (r + 1) (8 * i + 19))) ∧ ∀ k, (∀ i, j ≤ i → i < N → k ≠ 8 * i + 15 ∧ k ≠ 8 * i + 17 ∧ k ≠ 8 * i + 19 ∧ k ≠ 8 * i + 20) → gA (X11_lives_l1 g r N n j m) (r + 1) k = gA m (r + 1) k
  | 0, j, m, hj, h => by
    rw [X11_lives_l1]
    exact ⟨rfl, fun i h1 h2 => by omega, fun _ _ => rfl⟩
  | n + 1, j, m, hj, h => by
    obtain ⟨g0, g1⟩ := h j (Nat.le_refl _) (by omega)
    have hM : ∃ M, X11_lives_l1 g r N (n + 1) j m = X11_lives_l1 g r N n (j + 1) M ∧ gI M = gI m ∧ gA M (r + 1) (8 * j + 15) = lat (gA m (r + 1) (8 * j + 15)) (gA m (r + 1) (8 * j + 18)) (gA m (r + 1) 1) ∧ gA M (r + 1) (8 * j + 17) = tmpH (lat (gA m (r + 1) (8 * j + 15)) (gA m (r + 1) (8 * j + 18)) (gA m (r + 1) 1)) (gA m (r + 1) (8 * j + 17)) (gA m (r + 1) (8 * j + 19)) ∧ gA M (r + 1) (8 * j + 19) = tmpQ (lat (gA m (r + 1) (8 * j + 15)) (gA m (r + 1) (8 * j + 18)) (gA m (r + 1) 1)) (gA m (r + 1) (8 * j + 19)) ∧ gA M (r + 1) (8 * j + 20) = tmpV (lat (gA m (r + 1) (8 * j + 15)) (gA m (r + 1) (8 * j + 18)) (gA m (r + 1) 1)) (gA m (r + 1) (8 * j + 20)) (gA m (r + 1) (8 * j + 19)) ∧ ∀ k, k ≠ 8 * j + 15 → k ≠ 8 * j + 17 → k ≠ 8 * j + 19 → k ≠ 8 * j + 20 → gA M (r + 1) k = gA m (r + 1) k := by
      rw [X11_lives_l1]
      rcases g1 with c | c
      · rw [c, if_neg (by decide)]
        exact half (fun M => X11_lives_l1 g r N n (j + 1) M) m j _ g0
      · rw [c, if_pos rfl]
        exact half (fun M => X11_lives_l1 g r N n (j + 1) M) m j _ g0
    obtain ⟨M, e0, e1, e2, e3, e4, e5, e6⟩ := hM
    rw [e0]
    obtain ⟨k1, k2, k3⟩ := liv_l n (j + 1) M (by omega) (fun i h1 h2 => by
      rw [e6 _ (by omega) (by omega) (by omega) (by omega), e6 _ (by omega) (by omega) (by omega) (by omega)]
      exact h i (by omega) h2)
    refine ⟨k1.trans e1, fun i h1 h2 => ?_, fun k hk => ?_⟩
    · by_cases c : i = j
      · subst c
        rw [k3 _ (fun q a1 a2 => by omega), k3 _ (fun q a1 a2 => by omega), k3 _ (fun q a1 a2 => by omega), k3 _ (fun q a1 a2 => by omega)]
        exact ⟨e2, e3, e4, e5⟩
      · have q := k2 i (by omega) h2
        rw [e6 (8 * i + 15) (by omega) (by omega) (by omega) (by omega), e6 (8 * i + 17) (by omega) (by omega) (by omega) (by omega), e6 (8 * i + 18) (by omega) (by omega) (by omega) (by omega), e6 (8 * i + 19) (by omega) (by omega) (by omega) (by omega), e6 (8 * i + 20) (by omega) (by omega) (by omega) (by omega), e6 1 (by omega) (by omega) (by omega) (by omega)] at q
        exact q
    · have q := hk j (Nat.le_refl _) (by omega)
      rw [k3 k (fun i a1 a2 => hk i (by omega) a2), e6 k q.1 q.2.1 q.2.2.1 q.2.2.2]
theorem sim_minute (hF : FR g mc f (gA mr (r + 1)) N H) (hV : RV T (gA mr (r + 1)) N H) : FR g (X3_passMinute_m g mc f N) f (gA (X11_lives_m g mr r N) (r + 1)) N H ∧ RV T (gA (X11_lives_m g mr r N) (r + 1)) N H ∧ gI (X11_lives_m g mr r N) = gI mr := by
  have hN8 := hF.2.2.2.2.1
  unfold X3_passMinute_m X11_lives_m
  -- the furnace
  have hA : ∃ mc1 mr1, X4_passMinute_m g (sI mc 166 f (gI mc 166 f + 1)) (f + 1) = mc1 ∧ X11_burns_m g (sA mr (r + 1) 0 (gA mr (r + 1) 0 + 1)) (r + 1) 85 = mr1 ∧ FR g mc1 f (gA mr1 (r + 1)) N H ∧ RV T (gA mr1 (r + 1)) N H ∧ gI mr1 = gI mr := by
    refine ⟨_, _, rfl, rfl, ?_⟩
    obtain ⟨s1, s2, s3, s4, s5, s6, s7, s8, s9, s10, s11, s12, s13⟩ := hF.2.1
    obtain ⟨o1, o2, o3, o4, o5, o6, o7, o8, o9, o10, o11, o12, o13, o14, o15, o16, o17⟩ := hV.1
    have a0 : ∀ k, k ≠ 0 → gA (sA mr (r + 1) 0 (gA mr (r + 1) 0 + 1)) (r + 1) k = gA mr (r + 1) k := fun k hk => by rw [gA_same, un hk]
    have a00 : gA (sA mr (r + 1) 0 (gA mr (r + 1) 0 + 1)) (r + 1) 0 = gA mr (r + 1) 0 + 1 := by rw [gA_same, ui rfl]
    obtain ⟨c1, c2, c3, c4, c5, c6, c7, c8⟩ := fu_cls (g := g) (sI mc 166 f (gI mc 166 f + 1)) (f + 1)
    obtain ⟨d1, d2, d3, d4, d5, d6, d7, d8, d9, d10⟩ := fu_ref (g := g) (sA mr (r + 1) 0 (gA mr (r + 1) 0 + 1)) (r + 1) 85 (by rw [a0 1 (by omega)]; exact o3) (by rw [a0 1 (by omega)]; exact o4) (by rw [a0 2 (by omega)]; exact o5) (by rw [a0 3 (by omega)]; exact o7)
    rw [a0 1 (by omega), a0 2 (by omega), a0 3 (by omega)] at d1
    rw [a0 2 (by omega), a0 3 (by omega)] at d2 d3
    rw [a0 2 (by omega), a0 3 (by omega), a0 9 (by omega)] at d4
    have b : ∀ k, k ≠ 166 → ∀ q, gI (sI mc 166 f (gI mc 166 f + 1)) k q = gI mc k q := fun k hk q => by simp [mm, hk]
    have bJ : gJ (sI mc 166 f (gI mc 166 f + 1)) = gJ mc := rfl
    have b0 : gI (sI mc 166 f (gI mc 166 f + 1)) 166 f = gA mr (r + 1) 0 + 1 := by
      rw [s1]
      simp [mm]
    rw [b 192 (by decide), b 193 (by decide), b 194 (by decide), s2, s3, s4] at c1
    rw [b 193 (by decide), b 194 (by decide), s3, s4] at c2 c3
    rw [b 193 (by decide), b 194 (by decide), s3, s4, bJ, s10] at c4
    have u : ∀ k, k ≠ 0 → k ≠ 1 → k ≠ 2 → k ≠ 3 → k ≠ 9 → gA (X11_burns_m g (sA mr (r + 1) 0 (gA mr (r + 1) 0 + 1)) (r + 1) 85) (r + 1) k = gA mr (r + 1) k := fun k h0 h1 h2 h3 h4 => by rw [d5 k h1 h2 h3 h4, a0 k h0]
    have u0 : gA (X11_burns_m g (sA mr (r + 1) 0 (gA mr (r + 1) 0 + 1)) (r + 1) 85) (r + 1) 0 = gA mr (r + 1) 0 + 1 := by rw [d5 0 (by omega) (by omega) (by omega) (by omega), a00]
    have kf : ∀ k, gI (X4_passMinute_m g (sI mc 166 f (gI mc 166 f + 1)) (f + 1)) k f = gI (sI mc 166 f (gI mc 166 f + 1)) k f := fun k => (c6 f (by omega)).1 k
    obtain ⟨e1, e2, e3, e4, e5⟩ := fu_all (h := 0) (a := 0) (l := gA mr (r + 1) 2) (c := gA mr (r + 1) 3) (b := gA mr (r + 1) 9) ⟨o5, o6⟩ ⟨o7, o8⟩ ⟨o11, by omega⟩
    have hr := fu_rg (c := gA mr (r + 1) 3) o3 o4 o5 o6
    have hmr : gI (X11_burns_m g (sA mr (r + 1) 0 (gA mr (r + 1) 0 + 1)) (r + 1) 85) = gI mr := d9.trans rfl
    refine ⟨?_, ?_, hmr⟩
    · refine hF.sc (c7.trans rfl) (fun k => by rw [c8]; rfl) (fun q h1 h2 => mS_tr (mS_I h1) (c6 q h2)) (fun k hk => u k (by omega) (by omega) (by omega) (by omega) (by omega)) ?_
      unfold FS
      rw [u0, d1, d2, d3, d4, u 4 (by omega) (by omega) (by omega) (by omega) (by omega), u 5 (by omega) (by omega) (by omega) (by omega) (by omega), u 6 (by omega) (by omega) (by omega) (by omega) (by omega), u 7 (by omega) (by omega) (by omega) (by omega) (by omega), u 8 (by omega) (by omega) (by omega) (by omega) (by omega), u 10 (by omega) (by omega) (by omega) (by omega) (by omega), u 11 (by omega) (by omega) (by omega) (by omega) (by omega), u 12 (by omega) (by omega) (by omega) (by omega) (by omega), kf, kf, kf, kf, kf, kf, kf, kf, b0, b 165 (by decide), b 163 (by decide), b 164 (by decide), b 167 (by decide), b 168 (by decide), b 169 (by decide), b 170 (by decide), c1, c2, c3, c4, (c6 f (by omega)).2.1, bJ]
      exact ⟨rfl, rfl, rfl, rfl, s5, s6, s7, s8, s9, e5, s11, s12, s13⟩
    · refine hV.sc (fun k hk => u k (by omega) (by omega) (by omega) (by omega) (by omega)) (by rw [u 4 (by omega) (by omega) (by omega) (by omega) (by omega)]; exact Int.le_refl _) ?_
      unfold SV
      rw [d1, d2, d3, d4, u 4 (by omega) (by omega) (by omega) (by omega) (by omega), u 5 (by omega) (by omega) (by omega) (by omega) (by omega), u 6 (by omega) (by omega) (by omega) (by omega) (by omega), u 8 (by omega) (by omega) (by omega) (by omega) (by omega), u 10 (by omega) (by omega) (by omega) (by omega) (by omega)]
      exact ⟨o1, o2, hr.1, hr.2, e1.1, e1.2, e2.1, e2.2, o9, o10, e4, o12, o13, by omega, o15, o16, o17⟩
  obtain ⟨mc1, mr1, q1, q2, F1, V1, I1⟩ := hA
  rw [q1, q2]
  clear q1 q2
  -- the pieces
  obtain ⟨M, e1, e2, e3, e4, e5, e6, e7, e8, e9⟩ := pm1 (g := g) N 0 mc1 F1.1 (by omega) hN8
  rw [e1]
  have sM : SF M f := F1.1.to e2 (by rw [e4]) (by rw [e4]) (by rw [e4]) e5
  have pM : ∀ i, pa M f i = pa mc1 f i := fun i => pa_to (by rw [e5])
  obtain ⟨t1, t2⟩ := pm2 (g := g) N 0 M sM (by omega) hN8
  simp only [pM] at t1 t2
  have F2 := F1
  obtain ⟨h1, h2, h3, h4, -, h6⟩ := F2
  have V2 := V1
  obtain ⟨v1, v2, v3, v4, v5, v6, v7⟩ := V2
  obtain ⟨w1, w2, w3⟩ := liv_l (g := g) (r := r) (N := N) N 0 mr1 (by omega) (fun i _ hi => ⟨(v2 i hi).2.2.2.2.2.2.2.1, (v2 i hi).2.2.2.2.2.2.2.2.2.1⟩)
  have hpa : ∀ i, pa (X3_passMinute_l2 g f N N 0 M) f i = pa mc1 f i := fun i => (pa_to (by rw [kQ_X3_passMinute_l2])).trans (pM i)
  have u : ∀ k, (k < 13 ∨ 77 ≤ k) → gA (X11_lives_l1 g r N N 0 mr1) (r + 1) k = gA mr1 (r + 1) k := fun k hk => w3 k (fun i _ hi => by omega)
  have uu : ∀ i d, i < N → (d = 13 ∨ d = 14 ∨ d = 16 ∨ d = 18) → gA (X11_lives_l1 g r N N 0 mr1) (r + 1) (8 * i + d) = gA mr1 (r + 1) (8 * i + d) := fun i d hi hd => w3 _ (fun k _ hk => by omega)
  have out : ∀ a, (∀ i, i < N → a ≠ pa mc1 f i) → (∀ k, gI (X3_passMinute_l2 g f N N 0 M) k a = gI mc1 k a) ∧ gJ (X3_passMinute_l2 g f N N 0 M) = gJ mc1 := fun a ha => by
    have z := t2 a (fun i _ hi => ha i hi)
    refine ⟨fun k => ?_, by rw [kJ_X3_passMinute_l2, e3]⟩
    rw [z.1 k]
    by_cases c : k = 290
    · rw [c, e9 a (fun i _ hi => ha i hi)]
    · rw [e7 k c]
  have nf : ∀ q, q < f + 4 ∨ f + 12 ≤ q → ∀ i, i < N → q ≠ pa mc1 f i := fun q hq i hi => by
    have a1 := h1.lo (i := i) (by omega)
    have a2 := h1.hi (i := i) (by omega)
    omega
  have sR : SF (X3_passMinute_l2 g f N N 0 M) f := sM.to (by rw [kK_X3_passMinute_l2]) (by rw [kR_X3_passMinute_l2 _ _ _ _ _ (by decide)]) (by rw [kR_X3_passMinute_l2 _ _ _ _ _ (by decide)]) (by rw [kR_X3_passMinute_l2 _ _ _ _ _ (by decide)]) (by rw [kQ_X3_passMinute_l2])
  have hheat : gI mc1 192 (f + 1) = gA mr1 (r + 1) 1 := h2.2.1
  have pc : ∀ i, i < N → PR g (X3_passMinute_l2 g f N N 0 M) (pa mc1 f i) (gA (X11_lives_l1 g r N N 0 mr1) (r + 1)) i := fun i hi => by
    obtain ⟨p1, p2, p3, p4, p5, p6, p7, p8⟩ := h3 i hi
    obtain ⟨x1, x2, x3⟩ := t1 i (by omega) hi
    obtain ⟨y1, y2, y3, y4⟩ := w2 i (by omega) hi
    have z := e8 i (by omega) hi
    rw [p3, p6, hheat] at z
    rw [e7 292 (by decide), e7 294 (by decide), z, p5, p7] at x1
    rw [e7 294 (by decide), z, p7] at x2
    rw [e7 294 (by decide), z, p7, e4] at x3
    have kI := fun k (h1 : k ≠ 292) (h2 : k ≠ 294) (h3 : k ≠ 290) => (kI_X3_passMinute_l2 g f N k (pa mc1 f i) h1 h2 N 0 M).trans (e7 k h3 _)
    unfold PR
    rw [y1, y2, y3, y4, uu i 13 hi (by omega), uu i 14 hi (by omega), uu i 16 hi (by omega), uu i 18 hi (by omega), kI 288 (by decide) (by decide) (by decide), kI 289 (by decide) (by decide) (by decide), kI 291 (by decide) (by decide) (by decide), kI 293 (by decide) (by decide) (by decide), kI_X3_passMinute_l2 g f N 290 (pa mc1 f i) (by decide) (by decide) N 0 M, z, x1, x2]
    refine ⟨p1, p2, rfl, p4, rfl, p6, rfl, ?_⟩
    unfold PT tmpV
    rw [x3]
    by_cases c1 : gA mr1 (r + 1) (8 * i + 19) = 0
    · rw [if_pos c1, if_pos c1]
      exact p8
    · rw [if_neg c1, if_neg c1]
      by_cases c2 : 700 ≤ lat (gA mr1 (r + 1) (8 * i + 15)) (gA mr1 (r + 1) (8 * i + 18)) (gA mr1 (r + 1) 1)
      · rw [if_pos c2, if_pos c2]
        exact Or.inl ⟨rfl, rfl⟩
      · rw [if_neg c2, if_neg c2]
        exact p8
  refine ⟨⟨sR, ?_, fun i hi => ?_, fun i hi => ?_, hN8, h6⟩, ⟨?_, fun i hi => ?_, fun i j a1 a2 => ?_, fun i hi => ?_, ?_, v6, v7⟩, w1.trans I1⟩
  · have o1 := out f (nf f (by omega))
    have o2 := out (f + 1) (nf (f + 1) (by omega))
    unfold FS
    rw [o1.1, o1.1, o1.1, o1.1, o1.1, o1.1, o1.1, o1.1, o2.1, o2.1, o2.1, o1.2, u 0 (by omega), u 1 (by omega), u 2 (by omega), u 3 (by omega), u 4 (by omega), u 5 (by omega), u 6 (by omega), u 7 (by omega), u 8 (by omega), u 9 (by omega), u 10 (by omega), u 11 (by omega), u 12 (by omega)]
    exact h2
  · rw [hpa]
    exact pc i hi
  · have o := out (f + 12 + i) (nf _ (by omega))
    have p := h4 i hi
    unfold HR at p ⊢
    rw [o.1, o.1, u _ (by omega), u _ (by omega)]
    exact p
  · unfold SV at v1 ⊢
    rw [u 1 (by omega), u 2 (by omega), u 3 (by omega), u 4 (by omega), u 5 (by omega), u 6 (by omega), u 8 (by omega), u 9 (by omega), u 10 (by omega)]
    exact v1
  · obtain ⟨a1, a2, a3, a4, a5, a6, a7, a8, a9, a10, a11, a12⟩ := v2 i hi
    obtain ⟨y1, y2, y3, y4⟩ := w2 i (by omega) hi
    have lr := lat_rg (b := gA mr1 (r + 1) (8 * i + 18)) a4 a5 v1.2.2.1 v1.2.2.2.1
    unfold PV
    rw [y1, y2, y3, y4, uu i 13 hi (by omega), uu i 14 hi (by omega), uu i 16 hi (by omega), uu i 18 hi (by omega), u 4 (by omega)]
    generalize lat (gA mr1 (r + 1) (8 * i + 15)) (gA mr1 (r + 1) (8 * i + 18)) (gA mr1 (r + 1) 1) = t at lr ⊢
    have hH : 0 ≤ (tmpH t (gA mr1 (r + 1) (8 * i + 17)) (gA mr1 (r + 1) (8 * i + 19))).toInt ∧ (tmpH t (gA mr1 (r + 1) (8 * i + 17)) (gA mr1 (r + 1) (8 * i + 19))).toInt ≤ 99 := by
      unfold tmpH
      have e : (gA mr1 (r + 1) (8 * i + 17) - 1).toInt = (gA mr1 (r + 1) (8 * i + 17)).toInt - 1 := by
        rw [Kit.i32_sub (by simp only [tl]; omega) (by simp only [tl]; omega)]
        simp only [tl]
      split
      · exact ⟨a8, a9⟩
      · split
        · decide
        · split
          · rw [imax_t, e]
            simp only [tl]
            split <;> omega
          · exact ⟨a8, a9⟩
    refine ⟨a1, a2, a3, lr.1, lr.2, a6, a7, hH.1, hH.2, a10, ?_, ?_⟩
    · unfold tmpQ
      split
      · exact a11
      · split
        · exact Or.inl rfl
        · exact a11
    · unfold tmpV tmpQ
      by_cases c1 : gA mr1 (r + 1) (8 * i + 19) = 0
      · rw [if_pos c1, if_pos c1]
        exact a12
      · rw [if_neg c1, if_neg c1]
        by_cases c2 : 700 ≤ t
        · rw [if_pos c2, if_pos c2]
          exact Or.inl rfl
        · rw [if_neg c2, if_neg c2]
          exact a12
  · rw [uu i 13 (by omega) (by omega), uu j 13 (by omega) (by omega)]
    exact v3 i j a1 a2
  · have p := v4 i hi
    unfold HV at p ⊢
    rw [u _ (by omega), u _ (by omega)]
    exact p
  · rw [inW_eq N 0 (fun k _ hk => uu k 18 (by omega) (by omega))]
    exact v5
theorem mins_l {a : Int32} : ∀ (n j : Nat) (mc mr : mM), FR g mc f (gA mr (r + 1)) N H → RV T (gA mr (r + 1)) N H → FR g (X3_passMinutes_l1 g f a N n j mc).2 f (gA (X11_passes_l1 g r a N n j mr).2 (r + 1)) N H ∧ RV T (gA (X11_passes_l1 g r a N n j mr).2 (r + 1)) N H ∧ gI (X11_passes_l1 g r a N n j mr).2 = gI mr ∧ (X3_passMinutes_l1 g f a N n j mc).1 = gI (X3_passMinutes_l1 g f a N n j mc).2 192 (f + 1) ∧ (X11_passes_l1 g r a N n j mr).1 = gA (X11_passes_l1 g r a N n j mr).2 (r + 1) 1
  | 0, j, mc, mr, hF, hV => by
    rw [X3_passMinutes_l1, X11_passes_l1]
    exact ⟨hF, hV, rfl, rfl, rfl⟩
  | n + 1, j, mc, mr, hF, hV => by
    rw [X3_passMinutes_l1, X11_passes_l1]
    obtain ⟨h1, h2, h3⟩ := sim_minute hF hV
    obtain ⟨k1, k2, k3, k4⟩ := mins_l (a := a) n (j + 1) _ _ h1 h2
    exact ⟨k1, k2, k3.trans h3, k4⟩
theorem sim_mins (hF : FR g mc f (gA mr (r + 1)) N H) (hV : RV T (gA mr (r + 1)) N H) (h0 : gI mr 384 r = 0) (a : Int32) : SIM g f r (pl5 0 0 1 0 0) T mc (X3_passMinutes_m g mc f a N) (X3_passMinutes_r g mc f a N) (X11_passes_m g mr r a N) (X11_passes_r g mr r a N) := by
  unfold X3_passMinutes_m X3_passMinutes_r X11_passes_m X11_passes_r
  by_cases c1 : a < 1
  · have e : isI a 1 60 = 0 := (isI_b _ _ _).mpr (by
      rw [ti.1] at c1
      simp only [tl] at c1 ⊢
      omega)
    rw [if_pos c1, if_pos e]
    exact SIM.no3 (by decide)
  rw [if_neg c1]
  by_cases c2 : a ≤ 60
  rotate_left
  · have e : isI a 1 60 = 0 := (isI_b _ _ _).mpr (by
      rw [ti.2.1] at c2
      simp only [tl] at c2 ⊢
      omega)
    rw [if_neg c2, if_pos e]
    exact SIM.no3 (by decide)
  have e : ¬ isI a 1 60 = 0 := fun c => (isI_b _ _ _).mp c (by
      rw [ti.2.1] at c2
      rw [ti.1] at c1
      simp only [tl] at c1 c2 ⊢
      omega)
  rw [if_pos c2, if_neg e]
  obtain ⟨k1, k2, k3, k4, k5⟩ := mins_l (a := a) a.toNatClampNeg 0 mc mr hF hV
  have hh := k1.2.1.2.1
  have hv := k2.1.2.2.1
  refine SIM.ok (N := N) (H := H) ?_ ?_ ?_ k1 k2
  · rw [k4, hh]
    omega
  · rw [k5, k4, hh]
  · rw [k3, h0]
end
