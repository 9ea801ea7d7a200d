/-! THE LINES: WHAT STAYS -/
/-- a cell that the line's writing leaves alone -/
def gdk (m : mM) (a : Nat) : Prop := ∃ kd, gK m a = some kd ∧ (∀ n, kd ≠ .inr (2, n)) ∧ kd ≠ .inl 1
section
variable {m m1 : mM} {a f h p c b r : Nat}
theorem gdk.o {ci : Nat} (hk : gK m a = some (.inl ci)) (hc : ci ≠ 1) : gdk m a := ⟨_, hk, fun _ q => (by cases q), fun q => hc (Sum.inl.inj q)⟩
theorem gdk.ar {t n : Nat} (hk : gK m a = some (.inr (t, n))) (hc : t ≠ 2) : gdk m a := ⟨_, hk, fun _ q => hc (Prod.mk.inj (Sum.inr.inj q)).1, fun q => (by cases q)⟩
theorem KF.sm (h : KF m m1) (hk : gdk m a) : Sm m m1 a := by
  obtain ⟨kd, e, h1, h2⟩ := hk
  have q := h.2 a kd e h1 h2
  exact ⟨q.1.trans e.symm, q.2⟩
theorem gdk.ne {va n : Nat} (hk : gdk m a) (hv : gK m va = some (.inr (2, n))) : va ≠ a := by
  intro q
  obtain ⟨kd, e, h1, h2⟩ := hk
  rw [q, e] at hv
  exact h1 n (Option.some.inj hv)
theorem SF.gd (s : SF m f) (h1 : f ≤ a) (h2 : a < f + 16) : gdk m a := by
  by_cases c0 : a = f
  · rw [c0]
    exact gdk.o s.k (by decide)
  by_cases c1 : a = f + 1
  · rw [c1]
    exact gdk.o s.k1 (by decide)
  by_cases c2 : a = f + 2
  · rw [c2]
    exact gdk.ar s.k2 (by decide)
  by_cases c3 : a = f + 3
  · rw [c3]
    exact gdk.ar s.k3 (by decide)
  by_cases c4 : a < f + 12
  · obtain ⟨i, rfl⟩ : ∃ i, a = f + 4 + i := ⟨a - (f + 4), by omega⟩
    exact gdk.o (s.2.2.2.2.2.2.2.1 i (by omega)) (by decide)
  · obtain ⟨i, rfl⟩ : ∃ i, a = f + 12 + i := ⟨a - (f + 12), by omega⟩
    exact gdk.o (s.kh (i := i) (by omega)) (by decide)
theorem SH.gd (s : SH m h) (h1 : h ≤ a) (h2 : a < h + 146) : gdk m a := by
  by_cases c0 : a = h
  · rw [c0]
    exact gdk.o s.k (by decide)
  by_cases c1 : a = h + 1
  · rw [c1]
    exact gdk.ar s.k1 (by decide)
  have hi : (a - (h + 2)) / 16 < 9 := by omega
  exact (s.f hi).gd (by omega) (by omega)
theorem SC.gd (s : SC m c) (h1 : c ≤ a) (h2 : a < c + 19) : gdk m a := by
  by_cases c0 : a = c
  · rw [c0]
    exact gdk.o s.k (by decide)
  by_cases c1 : a = c + 17
  · rw [c1]
    exact gdk.o s.k1 (by decide)
  by_cases c2 : a = c + 18
  · rw [c2]
    exact gdk.o s.k2 (by decide)
  exact s.f.gd (by omega) (by omega)
theorem SP.gd (s : SP m p) (h1 : p ≤ a) (h2 : a < p + 16) : gdk m a := by
  by_cases c0 : a = p
  · rw [c0]
    exact gdk.o s.k (by decide)
  by_cases c1 : a = p + 1
  · rw [c1]
    exact gdk.ar s.k1 (by decide)
  by_cases c2 : a = p + 2
  · rw [c2]
    exact gdk.ar s.k2 (by decide)
  by_cases c3 : a = p + 3
  · rw [c3]
    exact gdk.ar s.k3 (by decide)
  obtain ⟨i, rfl⟩ : ∃ i, a = p + 4 + i := ⟨a - (p + 4), by omega⟩
  exact gdk.ar (s.kr (i := i) (by omega)) (by decide)
theorem SB.gd (s : SB m b) (s2 : SP m (b + 214)) (h1 : b ≤ a) (h2 : a < b + 230) : gdk m a := by
  by_cases c0 : a = b
  · rw [c0]
    exact gdk.o s.k (by decide)
  by_cases c1 : a < b + 17
  · exact s.f1.gd (by omega) (by omega)
  by_cases c2 : a < b + 33
  · exact s.f2.gd (by omega) (by omega)
  by_cases c3 : a < b + 49
  · exact s.f3.gd (by omega) (by omega)
  by_cases c4 : a < b + 195
  · exact s.h.gd (by omega) (by omega)
  by_cases c5 : a < b + 214
  · exact s.c.gd (by omega) (by omega)
  exact s2.gd (by omega) (by omega)
theorem SR.gd (s : SR m r) (h1 : r ≤ a) (h2 : a < r + 12) : gdk m a := by
  have : a = r ∨ a = r + 1 ∨ a = r + 2 ∨ a = r + 3 ∨ a = r + 4 ∨ a = r + 5 ∨ a = r + 6 ∨ a = r + 7 ∨ a = r + 8 ∨ a = r + 9 ∨ a = r + 10 ∨ a = r + 11 := by omega
  rcases this with q | q | q | q | q | q | q | q | q | q | q | q <;> rw [q]
  · exact gdk.o s.k (by decide)
  · exact gdk.ar s.k1 (by decide)
  · exact gdk.ar s.k2 (by decide)
  · exact gdk.ar s.k3 (by decide)
  · exact gdk.ar s.k4 (by decide)
  · exact gdk.ar s.k5 (by decide)
  · exact gdk.ar s.k6 (by decide)
  · exact gdk.ar s.k7 (by decide)
  · exact gdk.ar s.k8 (by decide)
  · exact gdk.ar s.k9 (by decide)
  · exact gdk.ar s.k10 (by decide)
  · exact gdk.ar s.k11 (by decide)
end
/-- where the bytes lie: as before, or in a new cell -/
def LV (m0 m : mM) (sb : Nat) : Prop := (vaO m sb = vaO m0 sb ∨ gN m0 ≤ vaO m sb) ∧ gN m0 ≤ gN m
section
variable {g : mG} {m0 m E : mM} {sb : Nat}
theorem LV.rf : LV m m sb := ⟨Or.inl rfl, Nat.le_refl _⟩
theorem LV.ens (h : LV m0 m sb) (e : (vaO E sb = vaO m sb ∨ vaO E sb = gN m) ∧ gN m ≤ gN E) : LV m0 E sb := by
  obtain ⟨h1, h2⟩ := h
  obtain ⟨e1, e2⟩ := e
  refine ⟨?_, by omega⟩
  rcases e1 with q | q
  · rw [q]
    exact h1
  · exact Or.inr (by omega)
theorem ens_v {k va cap c : Nat} : (vaO (J5_ensureCapacityInternal_d00df_m g m sb k va cap c) sb = vaO m sb ∨ vaO (J5_ensureCapacityInternal_d00df_m g m sb k va cap c) sb = gN m) ∧ gN m ≤ gN (J5_ensureCapacityInternal_d00df_m g m sb k va cap c) := by
  unfold J5_ensureCapacityInternal_d00df_m
  split
  · exact ⟨Or.inl rfl, Nat.le_refl _⟩
  · refine ⟨Or.inr ?_, ?_⟩
    · unfold vaO
      simp [mm]
    · simp only [mm]
      unfold J7_copyOf_9075b_m
      simp only [mw, mm]
      omega
theorem LV.C (h : LV m0 m sb) (a : Int32) : LV m0 (apC g m sb a) sb := by
  have e := ens_v (g := g) (m := m) (sb := sb) (k := cnO m sb + 1) (va := vaO m sb) (cap := caO m sb) (c := cnO m sb)
  unfold apC J4_append_cf468_m J5_append_3fe6f_m
  generalize J5_ensureCapacityInternal_d00df_m g m sb (cnO m sb + 1) (vaO m sb) (caO m sb) (cnO m sb) = E at e ⊢
  refine h.ens ?_
  have v : ∀ x y : Int32, ∀ i, vaO (sA (sI E 35 sb x) (vaO E sb) i y) sb = vaO E sb := fun x y i => by
    unfold vaO
    simp only [mm]
  rw [v]
  simp only [mm]
  exact e
theorem gc_R {n k v cap : Nat} : gR (J6_getChars_ba4f3_m g m n k v cap) = gR m := by
  unfold J6_getChars_ba4f3_m
  repeat' split
  all_goals rfl
theorem LV.I (h : LV m0 m sb) (n : Nat) : LV m0 (apI g m sb n) sb := by
  have e := ens_v (g := g) (m := m) (sb := sb) (k := cnO m sb + digs n) (va := vaO m sb) (cap := caO m sb) (c := cnO m sb)
  unfold apI J4_append_bf812_m J5_append_c97b9_m
  generalize J5_ensureCapacityInternal_d00df_m g m sb (cnO m sb + digs n) (vaO m sb) (caO m sb) (cnO m sb) = E at e ⊢
  have w1 := gc_R (g := g) (m := E) (n := n) (k := cnO m sb + digs n) (v := vaO E sb) (cap := caO E sb)
  have w2 := gc_N (g := g) (m := E) (n := n) (k := cnO m sb + digs n) (v := vaO E sb) (cap := caO E sb)
  generalize J6_getChars_ba4f3_m g E n (cnO m sb + digs n) (vaO E sb) (caO E sb) = W at w1 w2 ⊢
  refine h.ens ?_
  have v : ∀ x : Int32, vaO (sI W 35 sb x) sb = vaO E sb := fun x => by
    unfold vaO
    simp only [mm]
    rw [w1]
  rw [v]
  simp only [mm]
  rw [w2]
  exact e
theorem LV.ite {c : Prop} [Decidable c] {A B : mM} (h1 : LV m0 A sb) (h2 : LV m0 B sb) : LV m0 (if c then A else B) sb := by
  split <;> assumption
theorem wp_LV {p nn tt ss hh : Nat} (h : LV m0 m sb) : LV m0 (X7_writeTo_m g m p sb nn tt ss hh) sb := by
  have e8 := (((((((h.I (g := g) nn).C (g := g) (gI m 289 p)).C (g := g) 58).I (g := g) tt).C (g := g) 47).I (g := g) ss).C (g := g) 47).I (g := g) hh
  unfold X7_writeTo_m
  generalize (apI g (apC g (apI g (apC g (apI g (apC g (apC g (apI g m sb nn) sb (gI m 289 p)) sb 58) sb tt) sb 47) sb ss) sb 47) sb hh) = M8 at e8 ⊢
  repeat' (first | with_reducible exact e8 | with_reducible refine LV.ite ?_ ?_ | with_reducible refine LV.C ?_ _)
theorem wf_LV_l {f N tt vv oo : Nat} : ∀ (n j : Nat) (m : mM), LV m0 m sb → LV m0 (X3_writeFurnaceTo_l1 g f sb N tt vv oo n j m) sb
  | 0, j, m, h => by
    rw [X3_writeFurnaceTo_l1]
    exact h
  | n + 1, j, m, h => by
    rw [X3_writeFurnaceTo_l1]
    refine LV.ite ?_ ?_
    · exact wf_LV_l n (j + 1) m h
    · exact wf_LV_l n (j + 1) _ ((h.C (g := g) 32).I (g := g) _)
theorem wf_LV {f N tt vv oo : Nat} (h : LV m0 m sb) : LV m0 (X3_writeFurnaceTo_m g m f sb N tt vv oo) sb :=
  wf_LV_l N 0 _ (((((h.I (g := g) tt).C (g := g) 64).I (g := g) vv).C (g := g) 35).I (g := g) oo)
theorem slO_LV : LV m (slO g m sb) sb := by
  unfold slO J4_setLength_d00df_m J5_setLength_d00df_m
  refine LV.ite ?_ ?_
  · refine LV.rf.ens ⟨Or.inl ?_, ?_⟩
    · unfold vaO
      simp only [mm]
    · simp only [mm]
      exact Nat.le_refl _
  · refine LV.rf.ens ⟨Or.inl ?_, ?_⟩
    · unfold vaO
      simp only [mm]
    · simp only [mm]
      exact Nat.le_refl _
end
/-- the reference's place in its line: no other cell has it -/
def R4 (r : Nat) (m m1 : mM) : Prop := ∀ a, a ≠ r → gI m1 403 a = gI m 403 a
section
variable {g : mG} {m0 m : mM} {r : Nat}
theorem R4.rf : R4 r m m := fun _ _ => rfl
theorem R4.S (h : R4 r m0 m) (k : Nat) (x : Int32) : R4 r m0 (sI m k r x) := fun a ha => by
  simp only [mm]
  rw [if_neg (fun q => ha q.2)]
  exact h a ha
theorem R4.w (h : R4 r m0 m) (x : Int32) : R4 r m0 (X11_writes_m g m r x) := fun a ha => by
  unfold X11_writes_m
  simp only [mm]
  rw [if_neg (fun q => ha q.2)]
  exact h a ha
theorem R4.ite {c : Prop} [Decidable c] {A B : mM} (h1 : R4 r m0 A) (h2 : R4 r m0 B) : R4 r m0 (if c then A else B) := by
  split <;> assumption
theorem R4.n (h : R4 r m0 m) (x : Nat) : R4 r m0 (X11_writesNumber_m g m r x) := by
  unfold X11_writesNumber_m
  repeat' (first | with_reducible exact h | with_reducible refine R4.ite ?_ ?_ | with_reducible refine R4.w ?_ _)
theorem wp_R4 {a : Int32} {N : Nat} : R4 r m (X11_writePiece_m g m r a N) := by
  have h := (R4.rf (r := r) (m := m)).S 384 0
  have h2 := (h.S 403 0).n (g := g) a.toNatClampNeg
  have h3 := (((((((h2.w (g := g) (gA m (r + 1) (8 * (X11_find_r g m r a N).toNatClampNeg + 14))).w (g := g) 58).n (g := g) (gA m (r + 1) (8 * (X11_find_r g m r a N).toNatClampNeg + 15)).toNatClampNeg).w (g := g) 47).n (g := g) (gA m (r + 1) (8 * (X11_find_r g m r a N).toNatClampNeg + 16)).toNatClampNeg).w (g := g) 47).n (g := g) (gA m (r + 1) (8 * (X11_find_r g m r a N).toNatClampNeg + 17)).toNatClampNeg)
  unfold X11_writePiece_m
  generalize (X11_writesNumber_m g (X11_writes_m g (X11_writesNumber_m g (X11_writes_m g (X11_writesNumber_m g (X11_writes_m g (X11_writes_m g (X11_writesNumber_m g (sI (sI m 384 r 0) 403 r 0) r a.toNatClampNeg) r (gA m (r + 1) (8 * (X11_find_r g m r a N).toNatClampNeg + 14))) r 58) r (gA m (r + 1) (8 * (X11_find_r g m r a N).toNatClampNeg + 15)).toNatClampNeg) r 47) r (gA m (r + 1) (8 * (X11_find_r g m r a N).toNatClampNeg + 16)).toNatClampNeg) r 47) r (gA m (r + 1) (8 * (X11_find_r g m r a N).toNatClampNeg + 17)).toNatClampNeg) = M8 at h3 ⊢
  repeat' (first | with_reducible exact h3 | with_reducible refine R4.ite ?_ ?_ | with_reducible refine R4.w ?_ _)
  exact R4.rf.S 384 1
theorem wf_R4_l {N : Nat} : ∀ (n j : Nat) (m : mM), R4 r m0 m → R4 r m0 (X11_writeFurnace_l1 g r N n j m).2
  | 0, j, m, h => by
    rw [X11_writeFurnace_l1]
    exact h
  | n + 1, j, m, h => by
    rw [X11_writeFurnace_l1]
    by_cases c : gA m (r + 1) (8 * j + 18) = 0
    · rw [if_pos c]
      exact wf_R4_l n (j + 1) m h
    · rw [if_neg c]
      exact wf_R4_l n (j + 1) _ ((h.w (g := g) 32).n (g := g) _)
theorem wf_R4 {N : Nat} : R4 r m (X11_writeFurnace_m g m r N) :=
  wf_R4_l N 0 _ (((((((R4.rf (r := r) (m := m)).S 384 0).S 403 0).n (g := g) (gA m (r + 1) 1).toNatClampNeg).w (g := g) 64).n (g := g) (gA m (r + 1) 2).toNatClampNeg).w (g := g) 35 |>.n (g := g) (gA m (r + 1) 3).toNatClampNeg)
end
