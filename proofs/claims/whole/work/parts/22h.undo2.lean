/-! undo -/
section
variable {g : mG} {mc mr mc1 mr1 m m1 : mM} {b r T T1 N H nx C c : Nat}
theorem call_undo (h : OBJ g mc mr b r T) (hH : HIS g mc mr b r T nx C) : CALL g b r T mc mr (X10_undo_m g mc b nx) (X11_undo_m g mr r C) [("java/lang/IllegalStateException", 1)] (X10_undo_x g mc b nx) (X10_undo_r g mc b nx = X11_undo_r g mr r C) := by
  obtain ⟨hn9, hC8, k1, k2, k3, k4⟩ := hH
  have hsv := h.2.2.2.2.2.2.1
  have h1 := h.1
  unfold X10_undo_m X10_undo_x X10_undo_r X11_undo_m X11_undo_r
  rw [k2]
  have e0 : nI C = 0 ↔ C = 0 := nI_eq (a := C) (b := 0) (by omega) (by omega)
  by_cases c : C = 0
  · rw [if_pos (e0.mpr c), if_pos (e0.mpr c), if_pos (e0.mpr c), if_pos (e0.mpr c)]
    refine ⟨h.asm h1 (fun a _ => Sm.rf) rfl rfl (h.2.2.2.2.2.1.toR rfl) (hsv.toR (by simp [mm]) rfl) ⟨nx, C, hn9, hC8, k1, k2, ?_, k4⟩ rfl rfl (fun a _ _ => rfl) (fun k hk _ _ => by simp [mm, hk]), fun a _ => Sm.rf, fun a ha => Sm_I (by omega), Or.inr ⟨_, 1, rfl, rfl, by simp [mm]⟩⟩
    show gI (sI mr 384 r 1) 385 r = nI C
    rw [← k3]
    simp [mm]
  · have c0 : ¬ nI C = 0 := fun q => c (e0.mp q)
    rw [if_neg c0, if_neg c0, if_neg c0, if_neg c0, tb_f hn9 hC8 c k2]
    obtain ⟨N, H, F, V⟩ := k4 (C - 1) (by omega)
    have hs1 : hsl nx C (C - 1) = (nx + 8) % 9 := by
      unfold hsl
      omega
    rw [hs1] at F
    have hnx : (nx + 8) % 9 < 9 := Nat.mod_lt _ (by decide)
    have hB1 : SB (sI (sI mc 257 (b + 49) (nI ((nx + 8) % 9))) 258 (b + 49) (nI (C - 1))) b := h1.hist (fun a ha => (Sm_I ha).tr (Sm_I ha)) rfl rfl
    have s1 : ∀ a, a ≠ b + 49 → Sm mc (sI (sI mc 257 (b + 49) (nI ((nx + 8) % 9))) 258 (b + 49) (nI (C - 1))) a := fun a ha => (Sm_I ha).tr (Sm_I ha)
    have i1 : gI (sI (sI mc 257 (b + 49) (nI ((nx + 8) % 9))) 258 (b + 49) (nI (C - 1))) 257 (b + 49) = nI ((nx + 8) % 9) := by simp [mm]
    have i2 : gI (sI (sI mc 257 (b + 49) (nI ((nx + 8) % 9))) 258 (b + 49) (nI (C - 1))) 258 (b + 49) = nI (C - 1) := by simp [mm]
    generalize sI (sI mc 257 (b + 49) (nI ((nx + 8) % 9))) 258 (b + 49) (nI (C - 1)) = M1 at *
    have F1 : FR g M1 (b + 49 + 2 + 16 * ((nx + 8) % 9)) (pastW mr r (C - 1)) N H := F.sm (fun a q1 q2 => s1 a (by omega))
    have F2 := copy_FR F1 hB1.f1 (by omega)
    have hF := fr_X3_copyFrom g M1 (b + 1) (b + 49 + 2 + 16 * ((nx + 8) % 9)) hB1.f1 F1.1
    have s2 := fun a (ha : a < b + 1 ∨ b + 1 + 16 ≤ a) => Sm.of hF ha
    generalize X3_copyFrom_m g M1 (b + 1) (b + 49 + 2 + 16 * ((nx + 8) % 9)) = M2 at *
    have e1 : nI C - 1 = nI (C - 1) := by
      have e : C = (C - 1) + 1 := by omega
      rw [e, nI_pred]
      rfl
    rw [e1]
    obtain ⟨u1, u2, u3, u4, u5⟩ := undo_l (g := g) (r := r) (C := C) (c2 := C - 1) 85 0 (sI (sI mr 384 r 0) 385 r (nI (C - 1))) (by omega)
    generalize X11_undo_l1 g r C 85 0 (C - 1) (sI (sI mr 384 r 0) 385 r (nI (C - 1))) = E at *
    have sR : ∀ a, a ≠ r → a ≠ r + 1 → Sm mr E.2 a := fun a q1 q2 => ((Sm_I q1).tr (Sm_I q1)).tr (u3 a q2)
    have j : ∀ k, gI E.2 k r = gI (sI (sI mr 384 r 0) 385 r (nI (C - 1))) k r := fun k => (u3 r (by omega)).gI k
    have j1 : gI E.2 384 r = 0 := (j 384).trans (by simp [mm])
    have j2 : gI E.2 385 r = nI (C - 1) := (j 385).trans (by simp [mm])
    have j3 : ∀ k, k ≠ 384 → k ≠ 385 → gI E.2 k r = gI mr k r := fun k q1 q2 => (j k).trans (by simp [mm, q1, q2])
    have row : ∀ k, k < 85 → gA E.2 (r + 1) k = pastW mr r (C - 1) k := fun k hk => by
      rw [u2, if_pos (by omega)]
      rfl
    have sA : ∀ a, a ≠ b + 49 → (a < b + 1 ∨ b + 17 ≤ a) → Sm mc M2 a := fun a q1 q2 => (s1 a q1).tr (s2 a (by omega))
    refine ⟨h.asm (hB1.forge (fun a q => s2 a (by omega)) F2.1) (fun a q => sA a (by omega) (by omega)) ((sA b (by omega) (by omega)).gI _) ((sA b (by omega) (by omega)).gI _) ⟨N, H, F2.row row, V.row row⟩ ((hsv.toC ((sA b (by omega) (by omega)).gI _) (fun a q1 q2 => sA a (by omega) (by omega))).toR (j3 _ (by decide) (by decide)) (sR _ (by omega) (by omega)).gA) ⟨(nx + 8) % 9, C - 1, hnx, by omega, ((s2 _ (by omega)).gI _).trans i1, ((s2 _ (by omega)).gI _).trans i2, j2, fun d hd => ?_⟩ (u4.trans rfl) (u5.trans rfl) (fun a q1 q2 => (sR a (by omega) (by omega)).gA) (fun k q1 q2 _ => j3 k q1 q2), fun a ha => sA a (by omega) (by omega), fun a ha => sR a (by omega) (by omega), Or.inl ⟨rfl, j1, ?_⟩⟩
    · obtain ⟨N3, H3, y1, y2⟩ := k4 d (by omega)
      have hs3 : hsl ((nx + 8) % 9) (C - 1) d = hsl nx C d := by
        unfold hsl
        omega
      have hl := hsl_lt (nx := nx) (C := C) (c := d)
      have w : pastW E.2 r d = pastW mr r d := by
        unfold pastW
        rw [(sR (r + 4) (by omega) (by omega)).gA]
      rw [hs3, w]
      exact ⟨N3, H3, y1.sm (fun a q1 q2 => sA a (by omega) (by omega)), y2⟩
    · show gI M2 258 (b + 49) = E.1
      rw [u1, ((s2 _ (by omega)).gI _), i2]
end
