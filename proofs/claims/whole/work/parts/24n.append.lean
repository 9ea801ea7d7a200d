/-! A SIGN IS APPENDED -/
section
variable {g : mG} {mc mr m m1 M R : mM} {b r T L : Nat}
theorem call_append (h : OBJ g mc mr b r T) (a : Int32) : CALL g b r T mc mr (X10_append_m g mc b a) (X11_append_m g mr r a) [("java/lang/IllegalStateException", 1)] (X10_append_x g mc b a) (X10_append_r g mc b a = X11_append_r g mr r a) := by
  have hh := h
  obtain ⟨h1, h2, h3, h4, h5, h6, h7, ⟨nx, C, hH⟩, h8, h10, h11⟩ := h
  obtain ⟨L, hL, c323, r400, htx⟩ := h8
  unfold X10_append_m X10_append_x X10_append_r X11_append_m X11_append_r X8_isFull_r X8_put_r X8_put_m
  rw [c323, r400]
  have e60 : nI L < 60 ↔ L < 60 := nI_ltI (a := L) (b := 60) (by omega) (by omega)
  have e6 : nI L = 60 ↔ L = 60 := nI_eq (a := L) (b := 60) (by omega) (by omega)
  have e0 : (60 : Int32) ≤ nI L ↔ 60 ≤ L := nI_leI (a := 60) (b := L) (by omega) (by omega)
  by_cases c : L < 60
  · have z : ¬ nI L = 60 := fun z => by have := e6.mp z; omega
    have z2 : ¬ (60 : Int32) ≤ nI L := fun z => by have := e0.mp z; omega
    simp only [if_pos (e60.mpr c), if_neg z, if_neg z2, if_true]
    rw [nI_1, nI_clamp (by omega)]
    have hv : b + 231 ≤ vaO mc (b + 230) := by
      obtain ⟨L, -, -, hv, -⟩ := h11
      exact hv
    have s1 : ∀ q, q ≠ b + 214 → q ≠ b + 214 + 1 → Sm mc (sI (sA mc (b + 214 + 1) L a) 323 (b + 214) (nI (L + 1))) q := fun q q1 q2 => (Sm_A q2).tr (Sm_I q1)
    have s2 : gK (sI (sA mc (b + 214 + 1) L a) 323 (b + 214) (nI (L + 1))) = gK mc := by simp only [mm]
    have s3 : gR (sI (sA mc (b + 214 + 1) L a) 323 (b + 214) (nI (L + 1))) = gR mc := by simp only [mm]
    have s4 : gQ (sI (sA mc (b + 214 + 1) L a) 323 (b + 214) (nI (L + 1))) = gQ mc := by simp only [mm]
    have s5 : gI (sI (sA mc (b + 214 + 1) L a) 323 (b + 214) (nI (L + 1))) 323 (b + 214) = nI (L + 1) := by simp [mm]
    have s6 : gA (sI (sA mc (b + 214 + 1) L a) 323 (b + 214) (nI (L + 1))) (b + 214 + 1) = upd (gA mc (b + 214 + 1)) L a := by
      have w : gA (sI (sA mc (b + 214 + 1) L a) 323 (b + 214) (nI (L + 1))) = gA (sA mc (b + 214 + 1) L a) := by simp only [mm]
      rw [w, gA_same]
    generalize sI (sA mc (b + 214 + 1) L a) 323 (b + 214) (nI (L + 1)) = M at *
    have t1 : ∀ q, q ≠ r → q ≠ r + 6 → Sm mr (sI (sA (sI mr 384 r 0) (r + 6) L a) 400 r (nI (L + 1))) q := fun q q1 q2 => (Sm_I q1).tr ((Sm_A q2).tr (Sm_I q1))
    have t2 : gK (sI (sA (sI mr 384 r 0) (r + 6) L a) 400 r (nI (L + 1))) = gK mr := by simp only [mm]
    have t3 : gR (sI (sA (sI mr 384 r 0) (r + 6) L a) 400 r (nI (L + 1))) = gR mr := by simp only [mm]
    have t4 : ∀ k, k ≠ 384 → k ≠ 400 → gI (sI (sA (sI mr 384 r 0) (r + 6) L a) 400 r (nI (L + 1))) k r = gI mr k r := fun k q1 q2 => by simp [mm, q1, q2]
    have t5 : gI (sI (sA (sI mr 384 r 0) (r + 6) L a) 400 r (nI (L + 1))) 400 r = nI (L + 1) := by simp [mm]
    have t6 : gA (sI (sA (sI mr 384 r 0) (r + 6) L a) 400 r (nI (L + 1))) (r + 6) = upd (gA mr (r + 6)) L a := by
      have w : gA (sI (sA (sI mr 384 r 0) (r + 6) L a) 400 r (nI (L + 1))) = gA (sA (sI mr 384 r 0) (r + 6) L a) := by simp only [mm]
      have w2 : gA (sI mr 384 r 0) = gA mr := by simp only [mm]
      rw [w, gA_same, w2]
    have t7 : gI (sI (sA (sI mr 384 r 0) (r + 6) L a) 400 r (nI (L + 1))) 384 r = 0 := by simp [mm]
    generalize sI (sA (sI mr 384 r 0) (r + 6) L a) 400 r (nI (L + 1)) = R at *
    have sb := s1 b (by omega) (by omega)
    have tx : TXT M R b r := ⟨L + 1, by omega, s5, t5, fun i hi => by
      rw [s6, t6]
      by_cases d : i = L
      · rw [ui d, ui d]
      · rw [un d, un d]
        exact htx i (by omega)⟩
    have hO : OBJ g M R b r T := ⟨h1.to s2 (fun k _ q => by rw [s3]) s4, h2.to s2 (fun k _ q => by rw [s3]) (fun i => by rw [s4]), h3.to (fun i => by rw [s4]), h4.sm (fun q _ _ => by rw [t2]) (fun k => by rw [t3]), h5.sm (t1 _ (by omega) (by omega)).gA (t1 _ (by omega) (by omega)).gA, (h6.toC (fun q q1 q2 => s1 q (by omega) (by omega))).toR (t1 _ (by omega) (by omega)).gA, (h7.toC (sb.gI _) (fun q q1 q2 => s1 q (by omega) (by omega))).toR (t4 _ (by decide) (by decide)) (t1 _ (by omega) (by omega)).gA, ⟨nx, C, (hH.toC (fun q q1 q2 => s1 q (by omega) (by omega))).toR (t4 _ (by decide) (by decide)) (t1 _ (by omega) (by omega)).gA⟩, tx, (h10.toC (sb.gI _) (sb.gI _)).toR (t4 _ (by decide) (by decide)) (t4 _ (by decide) (by decide)), (h11.toC (s1 _ (by omega) (by omega)) (s1 _ (by omega) (by omega))).toR (t4 _ (by decide) (by decide)) (t1 _ (by omega) (by omega)).gA⟩
    exact ⟨hO, fun q hq => s1 q (by omega) (by omega), fun q hq => t1 q (by omega) (by omega), Or.inl ⟨rfl, t7, trivial⟩⟩
  · have z : ¬ nI L < 60 := fun z => c (e60.mp z)
    have z6 : nI L = 60 := e6.mpr (by omega)
    have n1 : ¬ (1 : Int32) = 0 := nz1
    simp only [if_neg z, if_neg n1, if_pos z6]
    exact CALL.qx hh rfl
end
