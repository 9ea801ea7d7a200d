/-! THE OBJECT AND THE REFERENCE -/
def hsl (nx C c : Nat) : Nat := (nx + 9 - (C - c)) % 9
def pastW (mr : mM) (r c : Nat) : Nat → Int32 := fun k => gA mr (r + 4) (c * 85 + k)
def CUR (g : mG) (mc mr : mM) (b r T : Nat) : Prop := ∃ N H, FR g mc (b + 1) (gA mr (r + 1)) N H ∧ RV T (gA mr (r + 1)) N H
def SAV (g : mG) (mc mr : mM) (b r T : Nat) : Prop := (gI mc 359 b = 0 ∧ gI mr 388 r = 0) ∨ (gI mc 359 b = 1 ∧ gI mr 388 r = 1 ∧ ∃ N H, FR g mc (b + 17) (gA mr (r + 3)) N H ∧ RV T (gA mr (r + 3)) N H)
def HIS (g : mG) (mc mr : mM) (b r T nx C : Nat) : Prop := nx < 9 ∧ C ≤ 8 ∧ gI mc 257 (b + 49) = nI nx ∧ gI mc 258 (b + 49) = nI C ∧ gI mr 385 r = nI C ∧ ∀ c, c < C → ∃ N H, FR g mc (b + 49 + 2 + 16 * hsl nx C c) (pastW mr r c) N H ∧ RV T (pastW mr r c) N H
def TXT (mc mr : mM) (b r : Nat) : Prop := ∃ L, L ≤ 60 ∧ gI mc 323 (b + 214) = nI L ∧ gI mr 400 r = nI L ∧ ∀ i, i < L → gA mc (b + 214 + 1) i = gA mr (r + 6) i
def ERR (mc mr : mM) (b r : Nat) : Prop := gI mc 360 b = gI mr 386 r ∧ gI mc 361 b = gI mr 387 r ∧ (gI mr 386 r = -1 ∨ 0 ≤ (gI mr 386 r).toInt) ∧ (gI mr 387 r = -1 ∨ 0 ≤ (gI mr 387 r).toInt)
def LIN (mc mr : mM) (b r : Nat) : Prop := ∃ L : Nat, L ≤ 50 ∧ SLo mc (b + 230) ∧ b + 231 ≤ vaO mc (b + 230) ∧ cnO mc (b + 230) = L ∧ gI mr 403 r = nI L ∧ ∀ i, i < L → byO mc (b + 230) i = gA mr (r + 7) i ∧ 0 ≤ (gA mr (r + 7) i).toInt ∧ (gA mr (r + 7) i).toInt < 128
def OBJ (g : mG) (mc mr : mM) (b r T : Nat) : Prop := SB mc b ∧ SP mc (b + 214) ∧ CQ g mc (b + 214) ∧ SR mr r ∧ WD mr r ∧ CUR g mc mr b r T ∧ SAV g mc mr b r T ∧ (∃ nx C, HIS g mc mr b r T nx C) ∧ TXT mc mr b r ∧ ERR mc mr b r ∧ LIN mc mr b r
section
variable {g : mG} {mc mr mc1 mr1 m m1 : mM} {b r T N H nx C : Nat}
theorem Sm_I {a k : Nat} {x : Int32} (h : N ≠ a) : Sm m (sI m k a x) N := ⟨rfl, mS_I h⟩
theorem Sm_A {a k : Nat} {x : Int32} (h : N ≠ a) : Sm m (sA m a k x) N := ⟨rfl, mS_A h⟩
theorem Sm.gI (h : Sm m m1 N) (k : Nat) : gI m1 k N = gI m k N := h.2.1 k
theorem Sm.gR (h : Sm m m1 N) (k : Nat) : gR m1 k N = gR m k N := h.2.2.2.1 k
theorem Sm.gA (h : Sm m m1 N) : gA m1 N = gA m N := h.2.2.2.2.1
theorem Sm.gQ (h : Sm m m1 N) : gQ m1 N = gQ m N := h.2.2.2.2.2.1
theorem Sm.of {lo hi a : Nat} (h : Fr lo hi m m1) (ha : a < lo ∨ hi ≤ a) : Sm m m1 a := ⟨by rw [h.1], h.2.2 a ha⟩
theorem FR.sm {f : Nat} {w : Nat → Int32} (h : FR g m f w N H) (e : ∀ a, f ≤ a → a < f + 16 → Sm m m1 a) : FR g m1 f w N H := h.to e
theorem CQ.sm (h : CQ g m N) (e : Sm m m1 (N + 2)) : CQ g m1 N := fun i hi => by
  rw [e.gQ]
  exact h i hi
theorem TXT.toC (h : TXT mc mr b r) (e : ∀ a, b + 214 ≤ a → a < b + 230 → Sm mc mc1 a) : TXT mc1 mr b r := by
  obtain ⟨L, h1, h2, h3, h4⟩ := h
  exact ⟨L, h1, ((e _ (by omega) (by omega)).gI _).trans h2, h3, fun i hi => by rw [(e (b + 214 + 1) (by omega) (by omega)).gA]; exact h4 i hi⟩
theorem TXT.toR (h : TXT mc mr b r) (e : gI mr1 400 r = gI mr 400 r) (e6 : gA mr1 (r + 6) = gA mr (r + 6)) : TXT mc mr1 b r := by
  obtain ⟨L, h1, h2, h3, h4⟩ := h
  exact ⟨L, h1, h2, e.trans h3, fun i hi => by rw [e6]; exact h4 i hi⟩
theorem ERR.toC (h : ERR mc mr b r) (e : gI mc1 360 b = gI mc 360 b) (e2 : gI mc1 361 b = gI mc 361 b) : ERR mc1 mr b r := ⟨e.trans h.1, e2.trans h.2.1, h.2.2⟩
theorem ERR.toR (h : ERR mc mr b r) (e : gI mr1 386 r = gI mr 386 r) (e2 : gI mr1 387 r = gI mr 387 r) : ERR mc mr1 b r := by
  unfold ERR
  rw [e, e2]
  exact h
theorem SLo.sm {sb : Nat} (h : SLo m sb) (e : Sm m m1 sb) (e2 : Sm m m1 (vaO m sb)) : SLo m1 sb ∧ vaO m1 sb = vaO m sb ∧ cnO m1 sb = cnO m sb ∧ ∀ i, byO m1 sb i = byO m sb i := by
  have v : vaO m1 sb = vaO m sb := by
    unfold vaO
    rw [e.gR]
  have c : cnO m1 sb = cnO m sb := by
    unfold cnO
    rw [e.gI]
  have k : caO m1 sb = caO m sb := by
    unfold caO
    rw [v, e2.1]
  refine ⟨?_, v, c, fun i => ?_⟩
  · unfold SLo
    rw [v, c, k]
    exact SL.below h e e2
  · unfold byO
    rw [v, e2.gA]
theorem LIN.toC (h : LIN mc mr b r) (e : Sm mc mc1 (b + 230)) (e2 : Sm mc mc1 (vaO mc (b + 230))) : LIN mc1 mr b r := by
  obtain ⟨L, h1, h2, h3, h4, h5, h6⟩ := h
  obtain ⟨s1, s2, s3, s4⟩ := h2.sm e e2
  exact ⟨L, h1, s1, by rw [s2]; exact h3, s3.trans h4, h5, fun i hi => by rw [s4]; exact h6 i hi⟩
theorem LIN.toR (h : LIN mc mr b r) (e : gI mr1 403 r = gI mr 403 r) (e7 : gA mr1 (r + 7) = gA mr (r + 7)) : LIN mc mr1 b r := by
  obtain ⟨L, h1, h2, h3, h4, h5, h6⟩ := h
  exact ⟨L, h1, h2, h3, h4, e.trans h5, fun i hi => by rw [e7]; exact h6 i hi⟩
theorem SAV.toC (h : SAV g mc mr b r T) (e : gI mc1 359 b = gI mc 359 b) (e2 : ∀ a, b + 17 ≤ a → a < b + 33 → Sm mc mc1 a) : SAV g mc1 mr b r T := by
  rcases h with ⟨h1, h2⟩ | ⟨h1, h2, N, H, h3, h4⟩
  · exact Or.inl ⟨e.trans h1, h2⟩
  · exact Or.inr ⟨e.trans h1, h2, N, H, h3.sm (fun a q1 q2 => e2 a q1 (by omega)), h4⟩
theorem SAV.toR (h : SAV g mc mr b r T) (e : gI mr1 388 r = gI mr 388 r) (e3 : gA mr1 (r + 3) = gA mr (r + 3)) : SAV g mc mr1 b r T := by
  rcases h with ⟨h1, h2⟩ | ⟨h1, h2, N, H, h3, h4⟩
  · exact Or.inl ⟨h1, e.trans h2⟩
  · exact Or.inr ⟨h1, e.trans h2, N, H, by rw [e3]; exact h3, by rw [e3]; exact h4⟩
theorem SAV.mono {T1 : Nat} (h : SAV g mc mr b r T) (ht : T ≤ T1) (h9 : T1 ≤ 9000) : SAV g mc mr b r T1 := by
  rcases h with h | ⟨h1, h2, N, H, h3, h4⟩
  · exact Or.inl h
  · exact Or.inr ⟨h1, h2, N, H, h3, h4.mono ht h9⟩
theorem CUR.toC (h : CUR g mc mr b r T) (e : ∀ a, b + 1 ≤ a → a < b + 17 → Sm mc mc1 a) : CUR g mc1 mr b r T := by
  obtain ⟨N, H, h1, h2⟩ := h
  exact ⟨N, H, h1.sm (fun a q1 q2 => e a q1 (by omega)), h2⟩
theorem CUR.toR (h : CUR g mc mr b r T) (e : gA mr1 (r + 1) = gA mr (r + 1)) : CUR g mc mr1 b r T := by
  unfold CUR
  rw [e]
  exact h
theorem HIS.toC (h : HIS g mc mr b r T nx C) (e : ∀ a, b + 49 ≤ a → a < b + 195 → Sm mc mc1 a) : HIS g mc1 mr b r T nx C := by
  obtain ⟨h1, h2, h3, h4, h5, h6⟩ := h
  refine ⟨h1, h2, ((e _ (by omega) (by omega)).gI _).trans h3, ((e _ (by omega) (by omega)).gI _).trans h4, h5, fun c hc => ?_⟩
  obtain ⟨N, H, q1, q2⟩ := h6 c hc
  have : hsl nx C c < 9 := Nat.mod_lt _ (by decide)
  exact ⟨N, H, q1.sm (fun a z1 z2 => e a (by omega) (by omega)), q2⟩
theorem HIS.toR (h : HIS g mc mr b r T nx C) (e : gI mr1 385 r = gI mr 385 r) (e4 : gA mr1 (r + 4) = gA mr (r + 4)) : HIS g mc mr1 b r T nx C := by
  obtain ⟨h1, h2, h3, h4, h5, h6⟩ := h
  refine ⟨h1, h2, h3, h4, e.trans h5, fun c hc => ?_⟩
  have w : pastW mr1 r c = pastW mr r c := by
    unfold pastW
    rw [e4]
  rw [w]
  exact h6 c hc
theorem SB.sm (s : SB mc b) (e : ∀ a, b ≤ a → a < b + 214 → Sm mc mc1 a) : SB mc1 b := by
  obtain ⟨s1, s2, s3, s4, s5, s6, s7, s8, s9, s10, s11, s12, s13⟩ := s
  have e0 := e b (by omega) (by omega)
  exact ⟨e0.1.trans s1, (e0.gR _).trans s2, (e0.gR _).trans s3, (e0.gR _).trans s4, (e0.gR _).trans s5, (e0.gR _).trans s6, (e0.gR _).trans s7, (e0.gR _).trans s8, s9.below (fun a h1 h2 => e a (by omega) (by omega)), s10.below (fun a h1 h2 => e a (by omega) (by omega)), s11.below (fun a h1 h2 => e a (by omega) (by omega)), s12.below (fun a h1 h2 => e a (by omega) (by omega)), s13.below (fun a h1 h2 => e a (by omega) (by omega))⟩
theorem SR.sm (s : SR m r) (e : ∀ a, r ≤ a → a < r + 12 → gK m1 a = gK m a) (e2 : ∀ k, gR m1 k r = gR m k r) : SR m1 r := by
  unfold SR at s ⊢
  simp only [e2, e r (by omega) (by omega), e (r + 1) (by omega) (by omega), e (r + 2) (by omega) (by omega), e (r + 3) (by omega) (by omega), e (r + 4) (by omega) (by omega), e (r + 5) (by omega) (by omega), e (r + 6) (by omega) (by omega), e (r + 7) (by omega) (by omega), e (r + 8) (by omega) (by omega), e (r + 9) (by omega) (by omega), e (r + 10) (by omega) (by omega), e (r + 11) (by omega) (by omega)]
  exact s
theorem WD.sm (s : WD m r) (e : gA m1 (r + 10) = gA m (r + 10)) (e2 : gA m1 (r + 11) = gA m (r + 11)) : WD m1 r := by
  unfold WD
  rw [e, e2]
  exact s
/-- another memory that holds the object -/
theorem OBJ.toC (h : OBJ g mc mr b r T) (e : ∀ a, b ≤ a → a < b + 231 → Sm mc mc1 a) (e2 : Sm mc mc1 (vaO mc (b + 230))) : OBJ g mc1 mr b r T := by
  obtain ⟨h1, h2, h3, h4, h5, h6, h7, ⟨nx, C, h8⟩, h9, h10, h11⟩ := h
  exact ⟨h1.sm (fun a q1 q2 => e a q1 (by omega)), h2.below (fun a q1 q2 => e a (by omega) (by omega)), h3.sm (e _ (by omega) (by omega)), h4, h5, h6.toC (fun a q1 q2 => e a (by omega) (by omega)), h7.toC ((e b (by omega) (by omega)).gI _) (fun a q1 q2 => e a (by omega) (by omega)), ⟨nx, C, h8.toC (fun a q1 q2 => e a (by omega) (by omega))⟩, h9.toC (fun a q1 q2 => e a (by omega) (by omega)), h10.toC ((e b (by omega) (by omega)).gI _) ((e b (by omega) (by omega)).gI _), h11.toC (e _ (by omega) (by omega)) e2⟩
theorem OBJ.toR (h : OBJ g mc mr b r T) (e : ∀ a, r ≤ a → a < r + 12 → Sm mr mr1 a) : OBJ g mc mr1 b r T := by
  obtain ⟨h1, h2, h3, h4, h5, h6, h7, ⟨nx, C, h8⟩, h9, h10, h11⟩ := h
  have e0 := e r (by omega) (by omega)
  exact ⟨h1, h2, h3, h4.sm (fun a q1 q2 => (e a q1 q2).1) (fun k => e0.gR k), h5.sm (e _ (by omega) (by omega)).gA (e _ (by omega) (by omega)).gA, h6.toR (e _ (by omega) (by omega)).gA, h7.toR (e0.gI _) (e _ (by omega) (by omega)).gA, ⟨nx, C, h8.toR (e0.gI _) (e _ (by omega) (by omega)).gA⟩, h9.toR (e0.gI _) (e _ (by omega) (by omega)).gA, h10.toR (e0.gI _) (e0.gI _), h11.toR (e0.gI _) (e _ (by omega) (by omega)).gA⟩
end
