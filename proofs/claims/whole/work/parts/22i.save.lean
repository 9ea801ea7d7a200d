/-! save -/
section
variable {g : mG} {mc mr mc1 mr1 m m1 : mM} {b r T T1 N H nx C c : Nat}
theorem call_save (h : OBJ g mc mr b r T) : CALL g b r T mc mr (X10_save_m g mc b) (X11_save_m g mr r) [] none True := by
  have h1 := h.1
  obtain ⟨N, H, F, V⟩ := h.2.2.2.2.2.1
  obtain ⟨nx, C, hH⟩ := h.2.2.2.2.2.2.2.1
  unfold X10_save_m X11_save_m
  have F2 := copy_FR F h1.f2 (by omega)
  have hF := fr_X3_copyFrom g mc (b + 17) (b + 1) h1.f2 h1.f1
  have s2 := fun a (ha : a < b + 17 ∨ b + 17 + 16 ≤ a) => Sm.of hF ha
  have hSB : SB (X3_copyFrom_m g mc (b + 17) (b + 1)) b := by
    obtain ⟨z1, z2, z3, z4, z5, z6, z7, z8, z9, z10, z11, z12, z13⟩ := h1
    have e0 := s2 b (by omega)
    exact ⟨e0.1.trans z1, (e0.gR _).trans z2, (e0.gR _).trans z3, (e0.gR _).trans z4, (e0.gR _).trans z5, (e0.gR _).trans z6, (e0.gR _).trans z7, (e0.gR _).trans z8, z9.below (fun a h1 h2 => s2 a (by omega)), F2.1, z11.below (fun a h1 h2 => s2 a (by omega)), z12.below (fun a h1 h2 => s2 a (by omega)), z13.below (fun a h1 h2 => s2 a (by omega))⟩
  clear hF
  obtain ⟨M, hM⟩ : ∃ M, X3_copyFrom_m g mc (b + 17) (b + 1) = M := ⟨_, rfl⟩
  rw [hM] at F2 s2 hSB ⊢
  clear hM
  have s3 : ∀ a, a ≠ b → Sm M (sI M 359 b 1) a := fun a ha => Sm_I ha
  have hSB2 : SB (sI M 359 b 1) b := hSB.to rfl (fun _ _ _ => rfl) rfl
  have row : ∀ k, k < 85 → gA (X11_lays_m g (sI mr 384 r 0) (r + 3) (r + 1)) (r + 3) k = gA mr (r + 1) k := fun k hk => by
    rw [lays_row (by omega) _ hk]
    simp only [mm]
  have sL := fun a (ha : a ≠ r + 3) => lays_S (g := g) (u1 := r + 3) (u2 := r + 1) (sI mr 384 r 0) ha
  have eK : gK (X11_lays_m g (sI mr 384 r 0) (r + 3) (r + 1)) = gK mr := by
    rw [kK_X11_lays]
    rfl
  have eR : gR (X11_lays_m g (sI mr 384 r 0) (r + 3) (r + 1)) = gR mr := by
    rw [kR_X11_lays]
    rfl
  have eI : ∀ k, gI (X11_lays_m g (sI mr 384 r 0) (r + 3) (r + 1)) k r = gI (sI mr 384 r 0) k r := fun k => by rw [kI_X11_lays]
  generalize X11_lays_m g (sI mr 384 r 0) (r + 3) (r + 1) = E at *
  have j1 : gI (sI E 388 r 1) 384 r = 0 := by
    have e := eI 384
    simp [mm] at e
    simp [mm, e]
  have j2 : ∀ k, k ≠ 384 → k ≠ 388 → gI (sI E 388 r 1) k r = gI mr k r := fun k q1 q2 => by
    have e := eI k
    simp [mm, q1] at e
    simp [mm, q2, e]
  have sR : ∀ a, a ≠ r → a ≠ r + 3 → Sm mr (sI E 388 r 1) a := fun a q1 q2 => ((Sm_I q1).tr (sL a q2)).tr (Sm_I q1)
  have sC : ∀ a, a ≠ b → (a < b + 17 ∨ b + 33 ≤ a) → Sm mc (sI M 359 b 1) a := fun a q1 q2 => (s2 a (by omega)).tr (s3 a q1)
  have k0 : ∀ k, k ≠ 359 → gI (sI M 359 b 1) k b = gI mc k b := fun k hk => by
    have e := (s2 b (by omega)).gI k
    simp [mm, hk, e]
  refine ⟨h.asm hSB2 (fun a q => sC a (by omega) (by omega)) (k0 _ (by decide)) (k0 _ (by decide)) ⟨N, H, ?_, ?_⟩ (Or.inr ⟨by simp [mm], by simp [mm], N, H, ?_, ?_⟩) ⟨nx, C, (hH.toC (fun a q1 q2 => sC a (by omega) (by omega))).toR (j2 _ (by decide) (by decide)) (sR _ (by omega) (by omega)).gA⟩ (by simp only [mm]; exact eK) (by simp only [mm]; exact eR) (fun a q1 q2 => (sR a (by omega) (by omega)).gA) (fun k q1 _ q3 => j2 k q1 q3), fun a ha => sC a (by omega) (by omega), fun a ha => sR a (by omega) (by omega), Or.inl ⟨rfl, j1, trivial⟩⟩
  · rw [(sR (r + 1) (by omega) (by omega)).gA]
    exact F.sm (fun a q1 q2 => sC a (by omega) (by omega))
  · rw [(sR (r + 1) (by omega) (by omega)).gA]
    exact V
  · exact (F2.sm (fun a q1 q2 => s3 a (by omega))).row (fun k hk => by simp only [mm]; exact row k hk)
  · exact V.row (fun k hk => by simp only [mm]; exact row k hk)
end
