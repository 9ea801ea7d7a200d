/-! LOOKING AHEAD -/
def coolN (deg ins : Int32) : Nat → Nat → Int32 → Int32 → Int32 → Int32 → Int32
  | 0, _, _, _, _, _ => -1
  | n + 1, j, w, h, l, c => if deg < w then coolN deg ins n (j + 1) (lat w ins (fuH h l c)) (fuH h l c) (fuL l c) (fuC l c) else nI j
section
variable {g : mG} {mc mr m m1 mr1 : mM} {b r T N H c f i : Nat}
theorem OBJ.fc (h : OBJ g mc mr b r T) (hSB : SB m1 b) (e : ∀ a, (a < b + 195 ∨ b + 214 ≤ a) → Sm mc m1 a) : OBJ g m1 mr b r T := by
  obtain ⟨h1, h2, h3, h4, h5, h6, h7, ⟨nx, C, h8⟩, h9, h10, h11⟩ := h
  have hv : b + 231 ≤ vaO mc (b + 230) := by
    obtain ⟨L, -, -, hv, -⟩ := h11
    exact hv
  exact ⟨hSB, h2.below (fun a q1 q2 => e a (by omega)), h3.sm (e _ (by omega)), h4, h5, h6.toC (fun a q1 q2 => e a (by omega)), h7.toC ((e b (by omega)).gI _) (fun a q1 q2 => e a (by omega)), ⟨nx, C, h8.toC (fun a q1 q2 => e a (by omega))⟩, h9.toC (fun a q1 q2 => e a (by omega)), h10.toC ((e b (by omega)).gI _) ((e b (by omega)).gI _), h11.toC (e _ (by omega)) (e _ (by omega))⟩
theorem OBJ.tt (h : OBJ g mc mr b r T) (e : ∀ a, a ≠ r → a ≠ r + 5 → Sm mr mr1 a) (eI : ∀ k, k ≠ 384 → gI mr1 k r = gI mr k r) (eK : gK mr1 = gK mr) (eR : gR mr1 = gR mr) : OBJ g mc mr1 b r T := by
  obtain ⟨nx, C, hH⟩ := h.2.2.2.2.2.2.2.1
  exact h.asm h.1 (fun a _ => Sm.rf) rfl rfl (h.2.2.2.2.2.1.toR (e _ (by omega) (by omega)).gA) (h.2.2.2.2.2.2.1.toR (eI _ (by decide)) (e _ (by omega) (by omega)).gA) ⟨nx, C, hH.toR (eI _ (by decide)) (e _ (by omega) (by omega)).gA⟩ eK eR (fun a q1 q2 => (e a (by omega) (by omega)).gA) (fun k hk _ _ => eI k hk)
/-- what a minute does to one piece of a forge -/
theorem pmT (hs : SF m f) (hi : i < N) (hN : N ≤ 8) : gI (X3_passMinute_m g m f N) 290 (pa m f i) = lat (gI m 290 (pa m f i)) (gI m 293 (pa m f i)) (fuH (gI m 192 (f + 1)) (gI m 193 (f + 1)) (gI m 194 (f + 1))) ∧ gI (X3_passMinute_m g m f N) 293 (pa m f i) = gI m 293 (pa m f i) ∧ gI (X3_passMinute_m g m f N) 192 (f + 1) = fuH (gI m 192 (f + 1)) (gI m 193 (f + 1)) (gI m 194 (f + 1)) ∧ gI (X3_passMinute_m g m f N) 193 (f + 1) = fuL (gI m 193 (f + 1)) (gI m 194 (f + 1)) ∧ gI (X3_passMinute_m g m f N) 194 (f + 1) = fuC (gI m 193 (f + 1)) (gI m 194 (f + 1)) ∧ SF (X3_passMinute_m g m f N) f ∧ pa (X3_passMinute_m g m f N) f i = pa m f i := by
  have hp : pa (X3_passMinute_m g m f N) f i = pa m f i := pa_to (by rw [kQ_X3_passMinute])
  have hF : SF (X3_passMinute_m g m f N) f := hs.to (by rw [kK_X3_passMinute]) (by rw [kR_X3_passMinute _ _ _ _ _ _ (by decide)]) (by rw [kR_X3_passMinute _ _ _ _ _ _ (by decide)]) (by rw [kR_X3_passMinute _ _ _ _ _ _ (by decide)]) (by rw [kQ_X3_passMinute])
  have h293 : gI (X3_passMinute_m g m f N) 293 (pa m f i) = gI m 293 (pa m f i) := kI_X3_passMinute g m f N 293 (pa m f i) (by decide) (by decide) (by decide) (by decide) (by decide) (by decide) (by decide)
  have lo := hs.lo (i := i) (by omega)
  have hi2 := hs.hi (i := i) (by omega)
  refine ⟨?_, h293, ?_, ?_, ?_, hF, hp⟩
  all_goals clear hp hF h293
  all_goals unfold X3_passMinute_m
  all_goals obtain ⟨c1, c2, c3, c4, c5, c6, c7, c8⟩ := fu_cls (g := g) (sI m 166 f (gI m 166 f + 1)) (f + 1)
  all_goals have b : ∀ k, k ≠ 166 → ∀ q, gI (sI m 166 f (gI m 166 f + 1)) k q = gI m k q := fun k hk q => by simp [mm, hk]
  all_goals rw [b 192 (by decide), b 193 (by decide), b 194 (by decide)] at c1
  all_goals rw [b 193 (by decide), b 194 (by decide)] at c2 c3
  all_goals have u := fun k => (c6 (pa m f i) (by omega)).1 k
  all_goals have hsA : SF (X4_passMinute_m g (sI m 166 f (gI m 166 f + 1)) (f + 1)) f := hs.to (c7.trans rfl) (by rw [c8]; rfl) (by rw [c8]; rfl) (by rw [c8]; rfl) (by rw [kQ_X4_passMinute]; rfl)
  all_goals have hpA : ∀ i, pa (X4_passMinute_m g (sI m 166 f (gI m 166 f + 1)) (f + 1)) f i = pa m f i := fun i => pa_to (by rw [kQ_X4_passMinute]; rfl)
  all_goals have u290 := (u 290).trans (b 290 (by decide) _)
  all_goals have u293 := (u 293).trans (b 293 (by decide) _)
  all_goals generalize X4_passMinute_m g (sI m 166 f (gI m 166 f + 1)) (f + 1) = mA at *
  all_goals obtain ⟨M, e1, e2, e3, e4, e5, e6, e7, e8, e9⟩ := pm1 (g := g) N 0 mA hsA (by omega) hN
  all_goals simp only [hpA] at e8 e9
  all_goals rw [e1]
  · rw [kI_X3_passMinute_l2 g f N 290 _ (by decide) (by decide) N 0 M, e8 i (by omega) hi, u290, u293, c1]
  · rw [kI_X3_passMinute_l2 g f N 192 _ (by decide) (by decide) N 0 M, e7 192 (by decide), c1]
  · rw [kI_X3_passMinute_l2 g f N 193 _ (by decide) (by decide) N 0 M, e7 193 (by decide), c2]
  · rw [kI_X3_passMinute_l2 g f N 194 _ (by decide) (by decide) N 0 M, e7 194 (by decide), c3]
theorem onC {a d : Int32} : ∀ (n j : Nat) (m : mM), SF m (c + 1) → i < N → N ≤ 8 → (X2_minutesOnCopy_l1 g c f a d N n j (pa m (c + 1) i) m).1 = coolN d (gI m 293 (pa m (c + 1) i)) n j (gI m 290 (pa m (c + 1) i)) (gI m 192 (c + 1 + 1)) (gI m 193 (c + 1 + 1)) (gI m 194 (c + 1 + 1))
  | 0, j, m, hs, hi, hN => by
    rw [X2_minutesOnCopy_l1, coolN]
  | n + 1, j, m, hs, hi, hN => by
    rw [X2_minutesOnCopy_l1, coolN]
    by_cases q : d < gI m 290 (pa m (c + 1) i)
    · rw [if_pos q, if_pos q]
      obtain ⟨t1, t2, t3, t4, t5, t6, t7⟩ := pmT (g := g) hs hi hN
      have e := onC (a := a) (d := d) n (j + 1) (X3_passMinute_m g m (c + 1) N) t6 hi hN
      rw [t7] at e
      rw [e, t1, t2, t3, t4, t5]
    · rw [if_neg q, if_neg q]
theorem alo {a d : Int32} {p : Nat} : ∀ (n j : Nat) (m : mM), (X2_minutesAlone_l1 g c f a d N n j p m).1 = coolN d (gI m 293 (c + 18)) n j (gI m 290 (c + 18)) (gI m 192 (c + 17)) (gI m 193 (c + 17)) (gI m 194 (c + 17))
  | 0, j, m => by
    rw [X2_minutesAlone_l1, coolN]
  | n + 1, j, m => by
    rw [X2_minutesAlone_l1, coolN]
    by_cases q : d < gI m 290 (c + 18)
    · rw [if_pos q, if_pos q, alo (a := a) (d := d) n (j + 1), ct_eq]
      obtain ⟨c1, c2, c3, c4, c5, c6, c7, c8⟩ := fu_cls (g := g) m (c + 17)
      have u := fun k => (c6 (c + 18) (by omega)).1 k
      have w : ∀ (M : mM) (x : Int32) k, k ≠ 290 → ∀ q, gI (sI M 290 (c + 18) x) k q = gI M k q := fun M x k hk q => by simp [mm, hk]
      have w0 : ∀ (M : mM) (x : Int32), gI (sI M 290 (c + 18) x) 290 (c + 18) = x := fun M x => by simp [mm]
      rw [w0, w _ _ 293 (by decide), w _ _ 192 (by decide), w _ _ 193 (by decide), w _ _ 194 (by decide), c1, c2, c3, u, u]
    · rw [if_neg q, if_neg q]
/-- the reference's thought furnace -/
def FU (mr : mM) (c : Nat) : Prop := 20 ≤ (gA mr c 1).toInt ∧ (gA mr c 1).toInt ≤ 1200 ∧ 0 ≤ (gA mr c 2).toInt ∧ (gA mr c 2).toInt ≤ 5 ∧ 0 ≤ (gA mr c 3).toInt ∧ (gA mr c 3).toInt ≤ 99
theorem FU.st (h : FU m c) (n : Nat) : FU (X11_burns_m g m c n) c ∧ gA (X11_burns_m g m c n) c 1 = fuH (gA m c 1) (gA m c 2) (gA m c 3) ∧ gA (X11_burns_m g m c n) c 2 = fuL (gA m c 2) (gA m c 3) ∧ gA (X11_burns_m g m c n) c 3 = fuC (gA m c 2) (gA m c 3) ∧ (∀ a, a ≠ c → Sm m (X11_burns_m g m c n) a) ∧ gI (X11_burns_m g m c n) = gI m ∧ gK (X11_burns_m g m c n) = gK m ∧ gR (X11_burns_m g m c n) = gR m := by
  obtain ⟨h1, h2, h3, h4, h5, h6⟩ := h
  obtain ⟨d1, d2, d3, d4, d5, d6, d7, d8, d9, d10⟩ := fu_ref (g := g) m c n h1 h2 h3 h5
  have r1 := fu_rg (c := gA m c 3) h1 h2 h3 h4
  obtain ⟨e1, e2, -⟩ := fu_all (a := 0) (h := 0) (b := 0) (l := gA m c 2) (c := gA m c 3) ⟨h3, h4⟩ ⟨h5, h6⟩ ⟨by decide, by decide⟩
  refine ⟨?_, d1, d2, d3, fun a ha => ⟨by rw [d7], d6 a ha⟩, d9, d7, d8⟩
  unfold FU
  rw [d1, d2, d3]
  exact ⟨r1.1, r1.2, e1.1, e1.2, e2.1, e2.2⟩
theorem nI_nm {n : Nat} (h : n < 2 ^ 31) : nI n ≠ -1 := fun q => by
  have e := congrArg Int32.toInt q
  rw [nI_toInt h] at e
  have e2 : ((-1 : Int32)).toInt = -1 := by decide
  rw [e2] at e
  omega
/-- the reference's walk ahead: mr1 the memory behind it -/
def RT (r : Nat) (mr mr1 : mM) : Prop := (∀ a, a ≠ r → a ≠ r + 5 → Sm mr mr1 a) ∧ (∀ k, k ≠ 384 → gI mr1 k r = gI mr k r) ∧ gK mr1 = gK mr ∧ gR mr1 = gR mr
theorem RT.tr {m2 : mM} (h : RT r m m1) (q : RT r m1 m2) : RT r m m2 := ⟨fun a h1 h2 => (h.1 a h1 h2).tr (q.1 a h1 h2), fun k hk => (q.2.1 k hk).trans (h.2.1 k hk), q.2.2.1.trans h.2.2.1, q.2.2.2.trans h.2.2.2⟩
theorem RT.th (v : Int32) : RT r m (sI m 384 r v) := ⟨fun a h1 _ => Sm_I h1, fun k hk => by simp [mm, hk], by simp only [mm], by simp only [mm]⟩
theorem RT.A {k : Nat} {x : Int32} : RT r m (sA m (r + 5) k x) := ⟨fun a _ h2 => Sm_A h2, fun k hk => by simp only [mm], by simp only [mm], by simp only [mm]⟩
theorem RT.burn (h : FU m (r + 5)) (n : Nat) : RT r m (X11_burns_m g m (r + 5) n) := by
  obtain ⟨-, -, -, -, e1, e2, e3, e4⟩ := h.st (g := g) n
  exact ⟨fun a _ h2 => e1 a h2, fun k hk => by rw [e2], e3, e4⟩
theorem refC {a d ins : Int32} (hi : i < 8) (h01 : ins = 0 ∨ ins = 1) : ∀ (n j : Nat) (wm : Int32) (m : mM), FU m (r + 5) → gA m (r + 1) (8 * i + 18) = ins → j + n ≤ 1000 → RT r m (X11_minutesToCool_l1 g r a d N n j (nI i) wm m).2 ∧ ((coolN d ins (n + 1) j wm (gA m (r + 5) 1) (gA m (r + 5) 2) (gA m (r + 5) 3) = -1 ∧ gI (X11_minutesToCool_l1 g r a d N n j (nI i) wm m).2 384 r = 3) ∨ (coolN d ins (n + 1) j wm (gA m (r + 5) 1) (gA m (r + 5) 2) (gA m (r + 5) 3) ≠ -1 ∧ (X11_minutesToCool_l1 g r a d N n j (nI i) wm m).1 = coolN d ins (n + 1) j wm (gA m (r + 5) 1) (gA m (r + 5) 2) (gA m (r + 5) 3) ∧ gI (X11_minutesToCool_l1 g r a d N n j (nI i) wm m).2 384 r = 0))
  | 0, j, wm, m, hF, hg, hj => by
    rw [X11_minutesToCool_l1, coolN]
    by_cases q : wm ≤ d
    · have q2 : ¬ d < wm := Int32.not_lt.mpr q
      simp only [if_pos q, if_neg q2]
      exact ⟨RT.th 0, Or.inr ⟨nI_nm (by omega), trivial, by simp [mm]⟩⟩
    · have q2 : d < wm := Int32.not_le.mp q
      simp only [if_neg q, if_pos q2, coolN]
      exact ⟨RT.th 3, Or.inl ⟨trivial, by simp [mm]⟩⟩
  | n + 1, j, wm, m, hF, hg, hj => by
    rw [X11_minutesToCool_l1, coolN]
    by_cases q : wm ≤ d
    · have q2 : ¬ d < wm := Int32.not_lt.mpr q
      simp only [if_pos q, if_neg q2]
      exact ⟨RT.th 0, Or.inr ⟨nI_nm (by omega), trivial, by simp [mm]⟩⟩
    · have q2 : d < wm := Int32.not_le.mp q
      rw [if_neg q, if_pos q2, nI_clamp (show i < 2 ^ 31 by omega), hg]
      obtain ⟨s0, s1, s2, s3, s4, s5, s6, s7⟩ := hF.st (g := g) 16
      have hb := RT.burn (g := g) hF 16
      have hg2 : gA (X11_burns_m g m (r + 5) 16) (r + 1) (8 * i + 18) = ins := by
        rw [(s4 (r + 1) (by omega)).gA]
        exact hg
      have ih := fun w => refC (a := a) (d := d) hi h01 n (j + 1) w (X11_burns_m g m (r + 5) 16) s0 hg2 (by omega)
      rw [s1, s2, s3] at ih
      rcases h01 with rfl | rfl
      · rw [if_neg (by decide)]
        rw [s1]
        obtain ⟨k1, k2⟩ := ih (lat wm 0 (fuH (gA m (r + 5) 1) (gA m (r + 5) 2) (gA m (r + 5) 3)))
        exact ⟨hb.tr k1, k2⟩
      · rw [if_pos rfl]
        rw [s1]
        obtain ⟨k1, k2⟩ := ih (lat wm 1 (fuH (gA m (r + 5) 1) (gA m (r + 5) 2) (gA m (r + 5) 3)))
        exact ⟨hb.tr k1, k2⟩
theorem think_l : ∀ (n j : Nat) (m : mM), j + n = 13 → RT r m (X11_thinks_l1 g r n j m) ∧ (∀ k, gA (X11_thinks_l1 g r n j m) (r + 5) k = if j ≤ k ∧ k < 13 then gA m (r + 1) k else gA m (r + 5) k) ∧ gI (X11_thinks_l1 g r n j m) = gI m
  | 0, j, m, hj => by
    rw [X11_thinks_l1]
    exact ⟨⟨fun _ _ _ => Sm.rf, fun _ _ => rfl, rfl, rfl⟩, fun k => by rw [if_neg (by omega)], rfl⟩
  | n + 1, j, m, hj => by
    rw [X11_thinks_l1]
    obtain ⟨h1, h2, h3⟩ := think_l n (j + 1) (sA m (r + 5) j (gA m (r + 1) j)) (by omega)
    refine ⟨RT.A.tr h1, fun k => ?_, h3.trans (by simp only [mm])⟩
    rw [h2, gA_same, gA_ne _ _ _ (by omega)]
    by_cases d : j + 1 ≤ k ∧ k < 13
    · rw [if_pos d, if_pos (by omega)]
    · rw [if_neg d]
      by_cases e : k = j
      · rw [ui e, if_pos (by omega), e]
      · rw [un e, if_neg (by omega)]
/-- behind 'thinks' -/
theorem think_f (V0 : RV T (gA mr (r + 1)) N H) : RT r mr (X11_thinks_m g (sI mr 384 r 0) r) ∧ FU (X11_thinks_m g (sI mr 384 r 0) r) (r + 5) ∧ gA (X11_thinks_m g (sI mr 384 r 0) r) (r + 5) 1 = gA mr (r + 1) 1 ∧ gA (X11_thinks_m g (sI mr 384 r 0) r) (r + 5) 2 = gA mr (r + 1) 2 ∧ gA (X11_thinks_m g (sI mr 384 r 0) r) (r + 5) 3 = gA mr (r + 1) 3 ∧ gI (X11_thinks_m g (sI mr 384 r 0) r) 384 r = 0 := by
  unfold X11_thinks_m
  obtain ⟨h1, h2, h3⟩ := think_l (g := g) (r := r) 13 0 (sI mr 384 r 0) (by omega)
  have e : gA (sI mr 384 r 0) = gA mr := by simp only [mm]
  rw [e] at h2
  have e1 := h2 1
  have e2 := h2 2
  have e3 := h2 3
  rw [if_pos (by omega)] at e1 e2 e3
  obtain ⟨v1, v2, v3, v4, v5, v6, v7, v8, -⟩ := V0.1
  refine ⟨(RT.th 0).tr h1, ?_, e1, e2, e3, ?_⟩
  · unfold FU
    rw [e1, e2, e3]
    exact ⟨v3, v4, v5, v6, v7, v8⟩
  · rw [h3]
    simp [mm]
end
