/-! restore -/
section
variable {g : mG} {mc mr mc1 mr1 m m1 : mM} {b r T T1 N H nx C c : Nat}
theorem call_restore (h : OBJ g mc mr b r T) : CALL g b r T mc mr (X10_restore_m g mc b) (X11_restore_m g mr r) [("java/lang/IllegalStateException", 1)] (X10_restore_x g mc b) True := by
  have h1 := h.1
  obtain ⟨N0, H0, F0, V0⟩ := h.2.2.2.2.2.1
  have hsv := h.2.2.2.2.2.2.1
  obtain ⟨nx, C, hn9, hC8, k1, k2, k3, k4⟩ := h.2.2.2.2.2.2.2.1
  unfold X10_restore_m X10_restore_x X11_restore_m
  rcases hsv with ⟨a1, a2⟩ | ⟨a1, a2, N, H, F, V⟩
  · rw [a1, a2, if_pos rfl, if_pos rfl, if_pos rfl]
    refine ⟨h.asm h1 (fun a _ => Sm.rf) rfl rfl (h.2.2.2.2.2.1.toR rfl) (Or.inl ⟨a1, by simp [mm, a2]⟩) ⟨nx, C, hn9, hC8, k1, k2, ?_, k4⟩ rfl rfl (fun a _ _ => rfl) (fun k hk _ _ => by simp [mm, hk]), fun a _ => Sm.rf, fun a ha => Sm_I (by omega), Or.inr ⟨_, 1, rfl, rfl, by simp [mm]⟩⟩
    show gI (sI mr 384 r 1) 385 r = nI C
    rw [← k3]
    simp [mm]
  · rw [a1, a2, if_neg (by decide), if_neg (by decide), if_neg (by decide)]
    have F2 := copy_FR F h1.f1 (by omega)
    have hF := fr_X3_copyFrom g mc (b + 1) (b + 17) h1.f1 h1.f2
    have s2 := fun a (ha : a < b + 1 ∨ b + 1 + 16 ≤ a) => Sm.of hF ha
    have hSB : SB (X3_copyFrom_m g mc (b + 1) (b + 17)) b := h1.forge (fun a q => s2 a (by omega)) F2.1
    clear hF
    obtain ⟨M, hM⟩ : ∃ M, X3_copyFrom_m g mc (b + 1) (b + 17) = M := ⟨_, rfl⟩
    rw [hM] at F2 s2 hSB ⊢
    clear hM
    unfold X6_forget_m
    have s3 : ∀ a, a ≠ b + 49 → Sm M (sI M 258 (b + 49) 0) a := fun a ha => Sm_I ha
    have row : ∀ k, k < 85 → gA (X11_lays_m g (sI mr 384 r 0) (r + 1) (r + 3)) (r + 1) k = gA mr (r + 3) k := fun k hk => by
      rw [lays_row (by omega) _ hk]
      simp only [mm]
    have sL := fun a (ha : a ≠ r + 1) => lays_S (g := g) (u1 := r + 1) (u2 := r + 3) (sI mr 384 r 0) ha
    have eK : gK (X11_lays_m g (sI mr 384 r 0) (r + 1) (r + 3)) = gK mr := by
      rw [kK_X11_lays]
      rfl
    have eR : gR (X11_lays_m g (sI mr 384 r 0) (r + 1) (r + 3)) = gR mr := by
      rw [kR_X11_lays]
      rfl
    have eI : ∀ k, gI (X11_lays_m g (sI mr 384 r 0) (r + 1) (r + 3)) k r = gI (sI mr 384 r 0) k r := fun k => by rw [kI_X11_lays]
    generalize X11_lays_m g (sI mr 384 r 0) (r + 1) (r + 3) = E at *
    have j1 : gI (sI E 385 r 0) 384 r = 0 := by
      have e := eI 384
      simp [mm] at e
      simp [mm, e]
    have j2 : ∀ k, k ≠ 384 → k ≠ 385 → gI (sI E 385 r 0) k r = gI mr k r := fun k q1 q2 => by
      have e := eI k
      simp [mm, q1] at e
      simp [mm, q2, e]
    have sR : ∀ a, a ≠ r → a ≠ r + 1 → Sm mr (sI E 385 r 0) a := fun a q1 q2 => ((Sm_I q1).tr (sL a q2)).tr (Sm_I q1)
    have sC : ∀ a, a ≠ b + 49 → (a < b + 1 ∨ b + 17 ≤ a) → Sm mc (sI M 258 (b + 49) 0) a := fun a q1 q2 => (s2 a (by omega)).tr (s3 a q1)
    have i1 : gI (sI M 258 (b + 49) 0) 257 (b + 49) = nI nx := by
      have e := (s2 (b + 49) (by omega)).gI 257
      simp [mm, e, k1]
    refine ⟨h.asm (hSB.hist s3 rfl rfl) (fun a q => sC a (by omega) (by omega)) ((sC b (by omega) (by omega)).gI _) ((sC b (by omega) (by omega)).gI _) ⟨N, H, (F2.sm (fun a q1 q2 => s3 a (by omega))).row (fun k hk => by simp only [mm]; exact row k hk), V.row (fun k hk => by simp only [mm]; exact row k hk)⟩ (Or.inr ⟨((sC b (by omega) (by omega)).gI _).trans a1, (j2 _ (by decide) (by decide)).trans a2, N, H, ?_, ?_⟩) ⟨nx, 0, hn9, by omega, i1, by simp [mm]; rfl, by simp [mm]; rfl, fun d hd => by omega⟩ (by simp only [mm]; exact eK) (by simp only [mm]; exact eR) (fun a q1 q2 => (sR a (by omega) (by omega)).gA) (fun k q1 q2 _ => j2 k q1 q2), fun a ha => sC a (by omega) (by omega), fun a ha => sR a (by omega) (by omega), Or.inl ⟨rfl, j1, trivial⟩⟩
    · rw [(sR (r + 3) (by omega) (by omega)).gA]
      exact F.sm (fun a q1 q2 => sC a (by omega) (by omega))
    · rw [(sR (r + 3) (by omega) (by omega)).gA]
      exact V
end
