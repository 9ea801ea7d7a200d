/-! THE LAW: A CALL BESIDE THE REFERENCE'S, IN ONE MEMORY -/
/-- the object and the reference, with their counts -/
def VW (g : mG) (mc mr : mM) (b r T N H nx C : Nat) : Prop := OBJ g mc mr b r T ∧ FR g mc (b + 1) (gA mr (r + 1)) N H ∧ RV T (gA mr (r + 1)) N H ∧ HIS g mc mr b r T nx C
/-- where the object, the reference and the law's two arrays lie -/
def PL (m : mM) (b r o d : Nat) : Prop := b + 232 ≤ r ∧ r + 12 ≤ o ∧ r + 12 ≤ d ∧ gK m o = some (.inr (4, 1)) ∧ gK m d = some (.inr (5, 1))
/-- a call of the class, from m (the reference at mr) -/
def CL (g : mG) (b r o d T : Nat) (mc mr mc1 mr1 : mM) (tab : List (String × Int32)) (x : Option String) (same : Prop) : Prop :=
  OBJ g mc1 mr1 b r T ∧ (∀ a, ((r ≤ a ∧ a < r + 12) ∨ a = o ∨ a = d) → Sm mc mc1 a) ∧ (∀ a, (a < r ∨ r + 12 ≤ a) → Sm mr mr1 a) ∧ ((x = none ∧ gI mr1 384 r = 0 ∧ same) ∨ ∃ E k, x = some E ∧ tab.lookup E = some k ∧ gI mr1 384 r = k)
section
variable {g : mG} {m mc mr mc1 mr1 m1 M R : mM} {b r o d q T T1 N H nx C i : Nat} {tab : List (String × Int32)} {x : Option String} {same : Prop} {a : Int32}
theorem VW.of (h : OBJ g mc mr b r T) : ∃ N H nx C, VW g mc mr b r T N H nx C := by
  obtain ⟨N, H, h1, h2⟩ := h.2.2.2.2.2.1
  obtain ⟨nx, C, h3⟩ := h.2.2.2.2.2.2.2.1
  exact ⟨N, H, nx, C, h, h1, h2, h3⟩
theorem VW.toR (h : VW g mc mr b r T N H nx C) (e : ∀ a, r ≤ a → a < r + 12 → Sm mr mr1 a) : VW g mc mr1 b r T N H nx C := by
  obtain ⟨h1, h2, h3, h4⟩ := h
  have e1 := (e (r + 1) (by omega) (by omega)).gA
  exact ⟨h1.toR e, by rw [e1]; exact h2, by rw [e1]; exact h3, h4.toR ((e r (by omega) (by omega)).gI _) (e (r + 4) (by omega) (by omega)).gA⟩
theorem VW.N8 (h : VW g mc mr b r T N H nx C) : N ≤ 8 := h.2.2.1.2.2.2.2.2.1
theorem VW.H4 (h : VW g mc mr b r T N H nx C) : H ≤ 4 := h.2.2.1.2.2.2.2.2.2
theorem VW.hN (h : VW g mc mr b r T N H nx C) : gI mc 163 (b + 1) = nI N := by
  obtain ⟨-, ⟨-, ⟨-, -, -, -, -, f5, -⟩, -⟩, ⟨⟨s5, -⟩, -⟩, -⟩ := h
  exact f5.trans s5
theorem VW.hH (h : VW g mc mr b r T N H nx C) : gI mc 164 (b + 1) = nI H := by
  obtain ⟨-, ⟨-, ⟨-, -, -, -, -, -, f6, -⟩, -⟩, ⟨⟨-, s6, -⟩, -⟩, -⟩ := h
  exact f6.trans s6
theorem VW.n9 (h : VW g mc mr b r T N H nx C) : nx < 9 := h.2.2.2.1
theorem VW.hn (h : VW g mc mr b r T N H nx C) : gI mc 257 (b + 49) = nI nx := h.2.2.2.2.2.1
theorem VW.C8 (h : VW g mc mr b r T N H nx C) : C ≤ 8 := h.2.2.2.2.1
theorem VW.hC (h : VW g mc mr b r T N H nx C) : gI mr 385 r = nI C := h.2.2.2.2.2.2.2.1
theorem VW.rN (h : VW g mc mr b r T N H nx C) : gA mr (r + 1) 5 = nI N := h.2.2.1.1.1
theorem VW.rH (h : VW g mc mr b r T N H nx C) : gA mr (r + 1) 6 = nI H := h.2.2.1.1.2.1
theorem VW.sb (h : VW g mc mr b r T N H nx C) : SB mc b := h.1.1
theorem VW.sp (h : VW g mc mr b r T N H nx C) : SP mc (b + 214) := h.1.2.1
theorem VW.cq (h : VW g mc mr b r T N H nx C) : CQ g mc (b + 214) := h.1.2.2.1
theorem VW.sr (h : VW g mc mr b r T N H nx C) : SR mr r := h.1.2.2.2.1
theorem VW.wd (h : VW g mc mr b r T N H nx C) : WD mr r := h.1.2.2.2.2.1
theorem VW.tL (h : VW g mc mr b r T N H nx C) : okI (gI mc 323 (b + 214)) 60 := by
  obtain ⟨L, h1, h2, -⟩ := h.1.2.2.2.2.2.2.2.2.1
  exact okI_of h2 h1 (by decide)
theorem VW.rT (h : VW g mc mr b r T N H nx C) : okI (gI mr 400 r) 60 := by
  obtain ⟨L, h1, -, h2, -⟩ := h.1.2.2.2.2.2.2.2.2.1
  exact okI_of h2 h1 (by decide)
theorem VW.slo (h : VW g mc mr b r T N H nx C) : SLo mc (b + 230) := by
  obtain ⟨L, -, h1, -⟩ := h.1.2.2.2.2.2.2.2.2.2.2
  exact h1
theorem VW.rL (h : VW g mc mr b r T N H nx C) : okI (gI mr 403 r) 50 := by
  obtain ⟨L, h1, -, -, -, h2, -⟩ := h.1.2.2.2.2.2.2.2.2.2.2
  exact okI_of h2 h1 (by decide)
theorem VW.No (h : VW g mc mr b r T N H nx C) : okI (gI mc 163 (b + 1)) 8 := okI_of h.hN h.N8 (by decide)
theorem VW.Ho (h : VW g mc mr b r T N H nx C) : okI (gI mc 164 (b + 1)) 4 := okI_of h.hH h.H4 (by decide)
theorem VW.ri (h : VW g mc mr b r T N H nx C) : RI mr r := ⟨okI_of h.rN h.N8 (by decide), okI_of h.rH h.H4 (by decide)⟩
theorem okI_t {y : Int32} {B : Nat} (h1 : 0 ≤ y.toInt) (h2 : y.toInt ≤ B) (hB : B < 2 ^ 31) : okI y B := by
  refine okI_of (n := y.toInt.toNat) (Int32.toInt_inj.mp ?_) (by omega) hB
  rw [nI_toInt (by omega)]
  omega
theorem VW.pv (h : VW g mc mr b r T N H nx C) (hi : i < N) : PV (gA mr (r + 1)) i ∧ (gA mr (r + 1) (8 * i + 13)).toInt ≤ 9000 := by
  have hv := h.2.2.1.2.1 i hi
  refine ⟨hv, ?_⟩
  obtain ⟨-, -, -, -, -, -, -, -, s1, s2, -, -, -, -, s3, -⟩ := h.2.2.1.1
  have := hv.2.1
  omega
theorem VW.rp (h : VW g mc mr b r T N H nx C) : ∀ i, i < N → ∀ k, k = 0 ∨ k = 2 ∨ k = 3 ∨ k = 4 → okI (gA mr (r + 1) (8 * i + 13 + k)) 9999 := fun i hi k hk => by
  obtain ⟨⟨v1, v2, v3, v4, v5, v6, v7, v8, v9, -⟩, v0⟩ := h.pv hi
  rcases hk with rfl | rfl | rfl | rfl
  · exact okI_t (show 0 ≤ (gA mr (r + 1) (8 * i + 13)).toInt by omega) (show (gA mr (r + 1) (8 * i + 13)).toInt ≤ (9999 : Nat) by omega) (by decide)
  · exact okI_t (show 0 ≤ (gA mr (r + 1) (8 * i + 15)).toInt by omega) (show (gA mr (r + 1) (8 * i + 15)).toInt ≤ (9999 : Nat) by omega) (by decide)
  · exact okI_t (show 0 ≤ (gA mr (r + 1) (8 * i + 16)).toInt by omega) (show (gA mr (r + 1) (8 * i + 16)).toInt ≤ (9999 : Nat) by omega) (by decide)
  · exact okI_t (show 0 ≤ (gA mr (r + 1) (8 * i + 17)).toInt by omega) (show (gA mr (r + 1) (8 * i + 17)).toInt ≤ (9999 : Nat) by omega) (by decide)
theorem VW.rn (h : VW g mc mr b r T N H nx C) : ∀ i, i < N → okI (gA mr (r + 1) (8 * i + 13)) 9999 := fun i hi => h.rp i hi 0 (Or.inl rfl)
theorem VW.r3 (h : VW g mc mr b r T N H nx C) : okI (gA mr (r + 1) 1) 9999 ∧ okI (gA mr (r + 1) 2) 9999 ∧ okI (gA mr (r + 1) 3) 9999 := by
  obtain ⟨-, -, t1, t2, v1, v2, o1, o2, -⟩ := h.2.2.1.1
  exact ⟨okI_t (by omega) (by omega) (by decide), okI_t (by omega) (by omega) (by decide), okI_t (by omega) (by omega) (by decide)⟩
theorem inC_e {w : Nat → Int32} (hw : ∀ k, gA mr (r + 1) k = w k) : ∀ (n j : Nat), inC mr r n j = inW w n j
  | 0, j => by
    rw [inC, inW]
  | n + 1, j => by
    rw [inC, inW, hw, inC_e hw n (j + 1)]
theorem VW.i3 (h : VW g mc mr b r T N H nx C) : inC mr r N 0 ≤ 3 := by
  rw [inC_e (w := gA mr (r + 1)) (fun _ => rfl) N 0]
  exact h.2.2.1.2.2.2.2.1
theorem VW.cn (h : VW g mc mr b r T N H nx C) : ∀ i, i < N → okI (gI mc 288 (pa mc (b + 1) i)) 9999 := fun i hi => by
  rw [(h.2.1.2.2.1 i hi).1]
  exact h.rn i hi
theorem VW.c3 (h : VW g mc mr b r T N H nx C) : okI (gI mc 192 (b + 1 + 1)) 9999 ∧ okI (gI mc 193 (b + 1 + 1)) 9999 ∧ okI (gI mc 194 (b + 1 + 1)) 9999 := by
  obtain ⟨-, f1, f2, f3, -⟩ := h.2.1.2.1
  rw [f1, f2, f3]
  exact h.r3
theorem VW.wp (h : VW g mc mr b r T N H nx C) : ∀ p, X3_find_r g mc (b + 1) a N = some p → wpR mc p := fun p hp => by
  rcases (fi_of h.2.1 a).no h.N8 with ⟨-, hf⟩ | ⟨i, hi, hf, -⟩
  · rw [hf] at hp
    cases hp
  · rw [hf] at hp
    cases hp
    obtain ⟨p1, p2, p3, p4, p5, -⟩ := h.2.1.2.2.1 i hi
    have hr := h.rp i hi
    obtain ⟨-, -, v3, -⟩ := (h.pv hi).1
    refine ⟨by rw [p1]; exact hr 0 (by omega), by rw [p3]; exact hr 2 (by omega), by rw [p4]; exact hr 3 (by omega), by rw [p5]; exact hr 4 (by omega), ?_⟩
    rw [p2]
    rcases v3 with z | z | z <;> (rw [z]; decide)
theorem CALL.toCL (h : CALL g b r T mc mr mc1 mr1 tab x same) (hp : PL m b r o d) : CL g b r o d T mc mr mc1 mr1 tab x same := by
  obtain ⟨h1, h2, h3, h4⟩ := h
  obtain ⟨p1, p2, p3, -⟩ := hp
  refine ⟨h1, fun a ha => h2 a ?_, h3, h4⟩
  rcases ha with ha | rfl | rfl <;> omega
theorem CALLL.toCL (h : CALLL g b r T m mr mc1 mr1 tab x same) (hp : PL m b r o d) (hs : SR m r) : CL g b r o d T m mr mc1 mr1 tab x same := by
  obtain ⟨h1, h2, h3, h4⟩ := h
  obtain ⟨p1, p2, p3, p4, p5⟩ := hp
  refine ⟨h1, fun a ha => h2.sm ?_, h3, h4⟩
  rcases ha with ha | rfl | rfl
  · exact hs.gd ha.1 ha.2
  · exact gdk.ar p4 (by decide)
  · exact gdk.ar p5 (by decide)
theorem CL.ko (h : CL g b r o d T m mr mc1 mr1 tab x same) (hp : PL m b r o d) : gK mc1 o = some (.inr (4, 1)) := (h.2.1 o (Or.inr (Or.inl rfl))).1.trans hp.2.2.2.1
theorem CL.kd (h : CL g b r o d T m mr mc1 mr1 tab x same) (hp : PL m b r o d) : gK mc1 d = some (.inr (5, 1)) := (h.2.1 d (Or.inr (Or.inr rfl))).1.trans hp.2.2.2.2
theorem lk0 {E : String} {k : Int32} (h : ([] : List (String × Int32)).lookup E = some k) : False := by cases h
theorem lkc {E e : String} {k z : Int32} {t : List (String × Int32)} (h : ((e, z) :: t).lookup E = some k) : E = e ∨ t.lookup E = some k := by
  rw [List.lookup_cons] at h
  by_cases c : E = e
  · exact Or.inl c
  · have c2 : (E == e) = false := by simp [c]
    rw [c2] at h
    exact Or.inr h
theorem CL.e1 {e1 : String} {k1 : Int32} (h : CL g b r o d T mc mr mc1 mr1 [(e1, k1)] x same) : ∀ E, x = some E → E = e1 := fun E hE => by
  rcases h.2.2.2 with ⟨q, -⟩ | ⟨E', k, q, ql, -⟩
  · rw [hE] at q
    cases q
  · rw [hE] at q
    cases q
    rcases lkc ql with z | z
    · exact z
    · exact (lk0 z).elim
theorem CL.e2 {e1 e2 : String} {k1 k2 : Int32} (h : CL g b r o d T mc mr mc1 mr1 [(e1, k1), (e2, k2)] x same) : ∀ E, x = some E → E = e1 ∨ E = e2 := fun E hE => by
  rcases h.2.2.2 with ⟨q, -⟩ | ⟨E', k, q, ql, -⟩
  · rw [hE] at q
    cases q
  · rw [hE] at q
    cases q
    rcases lkc ql with z | z
    · exact Or.inl z
    · rcases lkc z with z | z
      · exact Or.inr z
      · exact (lk0 z).elim
theorem CL.e3 {e1 e2 e3 : String} {k1 k2 k3 : Int32} (h : CL g b r o d T mc mr mc1 mr1 [(e1, k1), (e2, k2), (e3, k3)] x same) : ∀ E, x = some E → E = e1 ∨ E = e2 ∨ E = e3 := fun E hE => by
  rcases h.2.2.2 with ⟨q, -⟩ | ⟨E', k, q, ql, -⟩
  · rw [hE] at q
    cases q
  · rw [hE] at q
    cases q
    rcases lkc ql with z | z
    · exact Or.inl z
    · rcases lkc z with z | z
      · exact Or.inr (Or.inl z)
      · rcases lkc z with z | z
        · exact Or.inr (Or.inr z)
        · exact (lk0 z).elim
theorem CL.e4 {e1 e2 e3 e4 : String} {k1 k2 k3 k4 : Int32} (h : CL g b r o d T mc mr mc1 mr1 [(e1, k1), (e2, k2), (e3, k3), (e4, k4)] x same) : ∀ E, x = some E → E = e1 ∨ E = e2 ∨ E = e3 ∨ E = e4 := fun E hE => by
  rcases h.2.2.2 with ⟨q, -⟩ | ⟨E', k, q, ql, -⟩
  · rw [hE] at q
    cases q
  · rw [hE] at q
    cases q
    rcases lkc ql with z | z
    · exact Or.inl z
    · rcases lkc z with z | z
      · exact Or.inr (Or.inl z)
      · rcases lkc z with z | z
        · exact Or.inr (Or.inr (Or.inl z))
        · rcases lkc z with z | z
          · exact Or.inr (Or.inr (Or.inr z))
          · exact (lk0 z).elim
/-- what the law's own method leaves: M the class's memory, m1 the one behind; q one of the two arrays -/
def WK (x : Option String) (tab : List (String × Int32)) (M m1 : mM) (q : Nat) (kk : Int32) (ok : Prop) : Prop := gK m1 = gK M ∧ (∀ a, a ≠ q → Sm M m1 a) ∧ ((x = none ∧ kk = 0 ∧ ok) ∨ ∃ E, x = some E ∧ tab.lookup E = some kk)
theorem wkL {v : Int64} {u : Option Value} (h : (x = none ∧ u = some (.int 0) ∧ m1 = sL M o 0 v) ∨ ∃ (E : String) (k : Int32) (n9 : Nat), x = some E ∧ u = some (.int k) ∧ tab.lookup E = some k ∧ gN M ≤ n9 ∧ m1 = sN M n9) : ∃ kk, u = some (.int kk) ∧ WK x tab M m1 o kk (gL m1 o 0 = v) := by
  rcases h with ⟨h1, h2, rfl⟩ | ⟨E, k, n9, h1, h2, h3, -, rfl⟩
  · exact ⟨0, h2, by simp only [mm], fun a ha => ⟨by simp only [mm], fun _ => rfl, fun _ => rfl, fun _ => rfl, rfl, rfl, funext fun _ => m2_nk ha, rfl⟩, Or.inl ⟨h1, rfl, by simp [mm]⟩⟩
  · exact ⟨k, h2, by simp only [mm], fun a _ => ⟨by simp only [mm], fun _ => rfl, fun _ => rfl, fun _ => rfl, rfl, rfl, rfl, rfl⟩, Or.inr ⟨E, h1, h3⟩⟩
theorem wkD {v : UInt64} {u : Option Value} (h : (x = none ∧ u = some (.int 0) ∧ m1 = sD M d 0 v) ∨ ∃ (E : String) (k : Int32) (n9 : Nat), x = some E ∧ u = some (.int k) ∧ tab.lookup E = some k ∧ gN M ≤ n9 ∧ m1 = sN M n9) : ∃ kk, u = some (.int kk) ∧ WK x tab M m1 d kk (gD m1 d 0 = v) := by
  rcases h with ⟨h1, h2, rfl⟩ | ⟨E, k, n9, h1, h2, h3, -, rfl⟩
  · exact ⟨0, h2, by simp only [mm], fun a ha => ⟨by simp only [mm], fun _ => rfl, fun _ => rfl, fun _ => rfl, rfl, rfl, rfl, funext fun _ => m2_nk ha⟩, Or.inl ⟨h1, rfl, by simp [mm]⟩⟩
  · exact ⟨k, h2, by simp only [mm], fun a _ => ⟨by simp only [mm], fun _ => rfl, fun _ => rfl, fun _ => rfl, rfl, rfl, rfl, rfl⟩, Or.inr ⟨E, h1, h3⟩⟩
theorem wk0 {u : Option Value} (h : (x = none ∧ u = some (.int 0) ∧ m1 = M) ∨ ∃ (E : String) (k : Int32) (n9 : Nat), x = some E ∧ u = some (.int k) ∧ tab.lookup E = some k ∧ gN M ≤ n9 ∧ m1 = sN M n9) : ∃ kk, u = some (.int kk) ∧ WK x tab M m1 o kk True := by
  rcases h with ⟨h1, h2, rfl⟩ | ⟨E, k, n9, h1, h2, h3, -, rfl⟩
  · exact ⟨0, h2, rfl, fun a _ => Sm.rf, Or.inl ⟨h1, rfl, trivial⟩⟩
  · exact ⟨k, h2, by simp only [mm], fun a _ => ⟨by simp only [mm], fun _ => rfl, fun _ => rfl, fun _ => rfl, rfl, rfl, rfl, rfl⟩, Or.inr ⟨E, h1, h3⟩⟩
/-- the reference's cells behind the class's call -/
theorem CL.keep (h : CL g b r o d T m mr M R tab x same) (hp : PL m b r o d) (hq : r + 12 ≤ q) (hg : gK m1 = gK M) (hs : ∀ a, a ≠ q → Sm M m1 a) : ∀ a, r ≤ a → a < r + 12 → Sm m m1 a := fun a h1 h2 => (h.2.1 a (Or.inl ⟨h1, h2⟩)).tr (hs a (by omega))
/-- the reference has answered too: one memory again -/
theorem CL.next (h : CL g b r o d T1 m m1 M R tab x same) (hp : PL m b r o d) (v : SR m1 r) (hq : q = o ∨ q = d) (hg : gK m1 = gK M) (hs : ∀ a, a ≠ q → Sm M m1 a) : OBJ g R R b r T1 ∧ PL R b r o d ∧ gL R o = gL m1 o ∧ gD R d = gD m1 d := by
  have ko := h.ko hp
  have kd := h.kd hp
  obtain ⟨h1, h2, h3, -⟩ := h
  obtain ⟨p1, p2, p3, p4, p5⟩ := hp
  have hq12 : r + 12 ≤ q := by rcases hq with rfl | rfl <;> omega
  have so := h3 o (by omega)
  have sd := h3 d (by omega)
  have lin := h1.2.2.2.2.2.2.2.2.2.2
  have e : ∀ a, (a < r ∨ r + 12 ≤ a) → a ≠ q → Sm M R a := fun a q1 q2 => (hs a q2).tr (h3 a q1)
  refine ⟨h1.toC (fun a q1 q2 => e a (by omega) (by omega)) ?_, ⟨p1, p2, p3, ?_, ?_⟩, so.2.2.2.2.2.2.1, sd.2.2.2.2.2.2.2⟩
  · obtain ⟨L, -, hl, -⟩ := lin
    have kv := hl.kv
    have n1 : ∀ a, gdk M a → vaO M (b + 230) ≠ a := fun a ha => ha.ne kv
    refine e _ ?_ ?_
    · by_cases c : r ≤ vaO M (b + 230) ∧ vaO M (b + 230) < r + 12
      · have z := v.gd c.1 c.2
        have z2 : gdk M (vaO M (b + 230)) := by
          unfold gdk at z ⊢
          rw [hg] at z
          exact z
        exact absurd rfl (n1 _ z2)
      · omega
    · rcases hq with rfl | rfl
      · exact n1 _ (gdk.ar ko (by decide))
      · exact n1 _ (gdk.ar kd (by decide))
  · rw [so.1, hg]
    exact ko
  · rw [sd.1, hg]
    exact kd
/-- how both ended -/
theorem CL.out {kk : Int32} {ok : Prop} (h : CL g b r o d T1 m m1 M R tab x same) (w : WK x tab M m1 q kk ok) (ht : tab.all (fun z => z.2 != 0) = true) : gI R 384 r = kk ∧ (kk = 0 → ok ∧ same) := by
  obtain ⟨-, -, w⟩ := w
  obtain ⟨-, -, -, h⟩ := h
  rcases w with ⟨w1, w2, w3⟩ | ⟨E, w1, w2⟩
  · rcases h with ⟨-, h2, h3⟩ | ⟨E, k, h1, -⟩
    · exact ⟨h2.trans w2.symm, fun _ => ⟨w3, h3⟩⟩
    · rw [w1] at h1
      cases h1
  · rcases h with ⟨h1, -⟩ | ⟨E', k, h1, h2, h3⟩
    · rw [w1] at h1
      cases h1
    · rw [w1] at h1
      cases h1
      rw [w2] at h2
      cases h2
      refine ⟨h3, fun z => ?_⟩
      have : ∀ (t : List (String × Int32)), t.all (fun z => z.2 != 0) = true → t.lookup E = some kk → kk ≠ 0 := by
        intro t
        induction t with
        | nil => intro _ q; cases q
        | cons y t ih =>
          intro q1 q2
          obtain ⟨e, v⟩ := y
          simp only [List.all_cons, Bool.and_eq_true, bne_iff_ne, ne_eq] at q1
          rw [List.lookup_cons] at q2
          cases c : (E == e) with
          | true =>
            rw [c] at q2
            cases q2
            exact q1.1
          | false =>
            rw [c] at q2
            exact ih q1.2 q2
      exact absurd z (this tab ht w2)
/-- no exception in the table -/
theorem CL.same0 (h : CL g b r o d T1 m m1 M R [] none same) : same := by
  rcases h.2.2.2 with ⟨-, -, q⟩ | ⟨E, k, q, -⟩
  · exact q
  · cases q
end
theorem nI_k {i k : Nat} {a : Int32} (h : a = nI k) : nI i + a = nI (i + k) := by rw [h, nI_add]
theorem lg_self (a : Int64) : lg_cmp a a = 0 := by
  unfold lg_cmp
  rw [if_neg (fun h : a > a => absurd h (Int64.lt_irrefl)), if_pos rfl]
theorem dc_self {a : UInt64} (h : vf_n64 a) (op : CmpOp) : Op.cmpValue (FP.dcmp a a) op = 0 := by
  have e : FP.dcmp a a = some .eq := by
    show FP.Core.dcmp a a = some .eq
    refine FP.Core.dcmp_self (fun q => ?_)
    have h1 := (FP.Core.isNaN_bits a).mp ((FP.Core.dIsNaN_iff a).mpr q)
    unfold vf_n64 at h
    rw [UInt64.le_iff_toNat_le, mk_64] at h
    have e : (0x7ff0000000000000 : UInt64).toNat = 9218868437227405312 := rfl
    omega
  rw [e]
  cases op <;> rfl
theorem nch (a : Int32) : narrow .char (.int ((a.toUInt32 % 65536).toInt32)) = .int ((a.toUInt32 % 65536).toInt32) := nar_c _
theorem mh_n (g : mG) (m : mM) (b N : Nat) : vf_n64 (X10_meanHardness_r g m b N) := by
  unfold X10_meanHardness_r
  by_cases c : nI N = 0
  · rw [if_pos c]
    show (0 : UInt64) &&& 0x7fffffffffffffff ≤ 0x7ff0000000000000
    decide
  · rw [if_neg c]
    exact n64_div c
/-- the law's own name -/
abbrev yLw (nm : String) : MethodName := ⟨"BirdForgeLaw", nm, "([I)Z"⟩
theorem lh_back2 {ls ls' : Array Slot} {n i : Nat} {v : Value} {lv : List (Nat × Value)} (h : lh ls n lv) (h2 : ∀ (j : Nat) (w : Value), lv.lookup j = some w → w.category = 1) (h3 : lv.lookup (i + 1) = none) (e2 : lv_has ls' n ((i, v) :: (lfull ls).filter (fun q => !(q.1 == i) && (!(q.1 == i + 1) && !(q.1 + 1 == i && q.2.category == 2))))) : lh ls' n ((i, v) :: lv) := by
  refine ⟨e2.1, e2.2.1, fun j w hj => ?_⟩
  rw [List.lookup_cons] at hj
  by_cases e : j = i
  · subst e
    simp at hj
    rw [← hj]
    exact e2.2.2 (j, v) List.mem_cons_self
  · have e' : (j == i) = false := by simp [e]
    rw [e'] at hj
    have hcw := h2 j w hj
    have en : j ≠ i + 1 := fun q => by
      rw [q] at hj
      rw [h3] at hj
      cases hj
    exact e2.2.2 (j, w) (List.mem_cons_of_mem _ (List.mem_filter.mpr ⟨lfull_in.mpr (h.2.2 j w hj), by simp [e, en, hcw]⟩))
theorem v_dstore {l : Launch} {g : mG} {x : mCx} {m : mM} {cc : ByteArray} {y : MethodName} {rm : Room} {nL : Nat} {ce sl pc : Nat} {lv : List (Nat × Value)} {st : List Value} {i : Nat} {v : UInt64} (hX : mX l g x cc y rm nL) (hdg : decode cc pc = .ok (.dstore i, 2)) (hi : i + 1 < nL) (hc : lc1 lv = true) (h3 : lv.lookup (i + 1) = none) (k : mV g x m ce sl (pc + 2) ((i, .double v) :: lv) st) : mV g x m ce sl pc lv (.double v :: st) := by
  obtain ⟨p, l', e, R, s, md, args, below, meth, c, Q⟩ := x
  obtain ⟨rfl, hx, hb, hml, ⟨hown, hnm⟩, hts, hvm, hR, hO, hh⟩ := hX
  exact fun H locs ls hP hz hL hl => lv_dstore hx hb hdg (lh_full hl) (by rw [hml]; exact hi) rfl (fun ls' h' => k H locs ls' hP hz hL (lh_back2 hl (lc1_of hc) h3 h'))
