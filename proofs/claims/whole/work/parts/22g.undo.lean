/-! UNDO, SAVE, RESTORE -/
section
variable {g : mG} {mc mr mc1 mr1 m m1 : mM} {b r T T1 N H nx C c : Nat}
theorem OBJ.asm (h : OBJ g mc mr b r T) (hSB : SB mc1 b) (eC : ∀ a, b + 50 ≤ a → Sm mc mc1 a) (e0 : gI mc1 360 b = gI mc 360 b) (e1 : gI mc1 361 b = gI mc 361 b) (hcur : CUR g mc1 mr1 b r T1) (hsav : SAV g mc1 mr1 b r T1) (hhis : ∃ nx C, HIS g mc1 mr1 b r T1 nx C) (eK : gK mr1 = gK mr) (eR : gR mr1 = gR mr) (eA : ∀ a, r + 6 ≤ a → a < r + 12 → gA mr1 a = gA mr a) (eI : ∀ k, k ≠ 384 → k ≠ 385 → k ≠ 388 → gI mr1 k r = gI mr k r) : OBJ g mc1 mr1 b r T1 := by
  obtain ⟨h1, h2, h3, h4, h5, h6, h7, h8, h9, h10, h11⟩ := h
  refine ⟨hSB, h2.below (fun a q1 q2 => eC a (by omega)), h3.sm (eC _ (by omega)), h4.sm (fun a _ _ => by rw [eK]) (fun k => by rw [eR]), h5.sm (eA _ (by omega) (by omega)) (eA _ (by omega) (by omega)), hcur, hsav, hhis, (h9.toC (fun a q1 q2 => eC a (by omega))).toR (eI _ (by decide) (by decide) (by decide)) (eA _ (by omega) (by omega)), (h10.toC e0 e1).toR (eI _ (by decide) (by decide) (by decide)) (eI _ (by decide) (by decide) (by decide)), ?_⟩
  have hv : b + 231 ≤ vaO mc (b + 230) := by
    obtain ⟨L, -, -, hv, -⟩ := h11
    exact hv
  exact (h11.toC (eC _ (by omega)) (eC _ (by omega))).toR (eI _ (by decide) (by decide) (by decide)) (eA _ (by omega) (by omega))
theorem undo_l {c2 : Nat} : ∀ (n j : Nat) (m : mM), j + n = 85 → (X11_undo_l1 g r C n j c2 m).1 = nI c2 ∧ (∀ k, gA (X11_undo_l1 g r C n j c2 m).2 (r + 1) k = if j ≤ k ∧ k < 85 then gA m (r + 4) (c2 * 85 + k) else gA m (r + 1) k) ∧ (∀ a, a ≠ r + 1 → Sm m (X11_undo_l1 g r C n j c2 m).2 a) ∧ gK (X11_undo_l1 g r C n j c2 m).2 = gK m ∧ gR (X11_undo_l1 g r C n j c2 m).2 = gR m
  | 0, j, m, hj => by
    rw [X11_undo_l1]
    exact ⟨rfl, fun k => by rw [if_neg (by omega)], fun _ _ => Sm.rf, rfl, rfl⟩
  | n + 1, j, m, hj => by
    rw [X11_undo_l1]
    obtain ⟨h1, h2, h3, h4, h5⟩ := undo_l (c2 := c2) n (j + 1) (sA m (r + 1) j (gA m (r + 4) (c2 * 85 + j))) (by omega)
    refine ⟨h1, fun k => ?_, fun a ha => (Sm_A ha).tr (h3 a ha), h4.trans rfl, h5.trans rfl⟩
    rw [h2, gA_same, gA_ne _ _ _ (by omega)]
    by_cases d : j + 1 ≤ k ∧ k < 85
    · rw [if_pos d, if_pos (by omega)]
    · rw [if_neg d]
      by_cases e : k = j
      · rw [ui e, if_pos (by omega), e]
      · rw [un e, if_neg (by omega)]
theorem tb_f {q f : Nat} (hn : nx < 9) (hC : C ≤ 8) (hC0 : C ≠ 0) (h2 : gI m 258 q = nI C) : X6_takeBack_m g m q f nx = X3_copyFrom_m g (sI (sI m 257 q (nI ((nx + 8) % 9))) 258 q (nI (C - 1))) f (q + 2 + 16 * ((nx + 8) % 9)) := by
  unfold X6_takeBack_m
  obtain ⟨D, rfl⟩ : ∃ D, C = D + 1 := ⟨C - 1, by omega⟩
  have e1 : imax 0 (gI m 258 q - 1) = nI (D + 1 - 1) := by
    rw [h2, nI_pred, Nat.add_sub_cancel]
    refine Int32.toInt_inj.mp ?_
    rw [imax_t, nI_toInt (by omega)]
    simp only [tl]
    split <;> omega
  rw [e1]
  by_cases c : nx = 0
  · have e8 : (nx + 8) % 9 = 8 := by omega
    have e9 : (8 : Int32) = nI 8 := by decide
    rw [e8, e9, c, if_pos (by decide)]
  · have e2 : (nx + 8) % 9 = nx - 1 := by omega
    obtain ⟨n, rfl⟩ : ∃ n, nx = n + 1 := ⟨nx - 1, by omega⟩
    rw [if_neg (nI_nle (by omega) (by omega)), e2, nI_pred, Nat.add_sub_cancel n 1]
end
