/-! begins and ends -/
section
variable {g : mG} {mc mr mc1 mr1 m m1 : mM} {b r T N H nx C : Nat}
theorem beg_f (m : mM) (r : Nat) : (∀ a, a ≠ r → a ≠ r + 2 → Sm m (X11_begins_m g m r) a) ∧ gI (X11_begins_m g m r) 384 r = 0 ∧ (∀ k, k ≠ 384 → gI (X11_begins_m g m r) k r = gI m k r) ∧ gA (X11_begins_m g m r) (r + 1) = gA m (r + 1) ∧ (∀ k, k < 85 → gA (X11_begins_m g m r) (r + 2) k = gA m (r + 1) k) ∧ gK (X11_begins_m g m r) = gK m ∧ gR (X11_begins_m g m r) = gR m := by
  unfold X11_begins_m
  refine ⟨fun a h1 h2 => ?_, ?_, fun k hk => ?_, ?_, fun k hk => ?_, by rw [kK_X11_lays]; rfl, by rw [kR_X11_lays]; rfl⟩
  · exact Sm.tr (Sm_I h1) (lays_S _ h2)
  · rw [kI_X11_lays]
    simp [mm]
  · rw [kI_X11_lays]
    simp [mm, hk]
  · rw [(lays_S (g := g) (u1 := r + 2) (u2 := r + 1) (sI m 384 r 0) (a := r + 1) (by omega)).gA]
    rfl
  · rw [lays_row (by omega) _ hk]
    rfl
theorem ends_2 {a : Int32} {c2 : Nat} : ∀ (n j : Nat) (m : mM), j + n = 85 → (X11_ends_l2 g r a C n j c2 m).1 = a ∧ gI (X11_ends_l2 g r a C n j c2 m).2 385 r = nI c2 + 1 ∧ (∀ k, k ≠ 385 → gI (X11_ends_l2 g r a C n j c2 m).2 k r = gI m k r) ∧ (∀ k, gA (X11_ends_l2 g r a C n j c2 m).2 (r + 4) k = if c2 * 85 + j ≤ k ∧ k < c2 * 85 + 85 then gA m (r + 2) (k - c2 * 85) else gA m (r + 4) k) ∧ (∀ q, q ≠ r → q ≠ r + 4 → Sm m (X11_ends_l2 g r a C n j c2 m).2 q) ∧ gK (X11_ends_l2 g r a C n j c2 m).2 = gK m ∧ gR (X11_ends_l2 g r a C n j c2 m).2 = gR m
  | 0, j, m, hj => by
    rw [X11_ends_l2]
    refine ⟨rfl, by simp [mm], fun k hk => by simp [mm, hk], fun k => ?_, fun q h1 h2 => Sm_I h1, rfl, rfl⟩
    rw [if_neg (by omega)]
    rfl
  | n + 1, j, m, hj => by
    rw [X11_ends_l2]
    obtain ⟨h1, h2, h3, h4, h5, h6, h7⟩ := ends_2 (a := a) (c2 := c2) n (j + 1) (sA m (r + 4) (c2 * 85 + j) (gA m (r + 2) j)) (by omega)
    refine ⟨h1, h2, fun k hk => (h3 k hk).trans rfl, fun k => ?_, fun q q1 q2 => Sm.tr (Sm_A q2) (h5 q q1 q2), h6.trans rfl, h7.trans rfl⟩
    rw [h4, gA_same, gA_ne _ _ _ (by omega)]
    by_cases c : c2 * 85 + (j + 1) ≤ k ∧ k < c2 * 85 + 85
    · rw [if_pos c, if_pos (by omega)]
    · rw [if_neg c]
      by_cases d : k = c2 * 85 + j
      · rw [ui d, if_pos (by omega), d]
        congr 1
        omega
      · rw [un d, if_neg (by omega)]
theorem ends_1 {a : Int32} : ∀ (n j : Nat) (m : mM), j + n = 595 → ∃ M, X11_ends_l1 g r a C n j m = X11_ends_l2 g r a C 85 0 (C - 1) (sI M 385 r (nI C - 1)) ∧ (∀ k, gA M (r + 4) k = if j ≤ k ∧ k < 595 then gA m (r + 4) (k + 85) else gA m (r + 4) k) ∧ (∀ q, q ≠ r + 4 → Sm m M q) ∧ gK M = gK m ∧ gR M = gR m
  | 0, j, m, hj => ⟨m, by rw [X11_ends_l1], fun k => by rw [if_neg (by omega)], fun _ _ => Sm.rf, rfl, rfl⟩
  | n + 1, j, m, hj => by
    rw [X11_ends_l1]
    obtain ⟨M, h1, h2, h3, h4, h5⟩ := ends_1 (a := a) n (j + 1) (sA m (r + 4) j (gA m (r + 4) (j + 85))) (by omega)
    refine ⟨M, h1, fun k => ?_, fun q hq => Sm.tr (Sm_A hq) (h3 q hq), h4.trans rfl, h5.trans rfl⟩
    rw [h2, gA_same]
    by_cases c : j + 1 ≤ k ∧ k < 595
    · rw [if_pos c, if_pos (by omega), un (by omega)]
    · rw [if_neg c]
      by_cases d : k = j
      · rw [ui d, if_pos (by omega), d]
      · rw [un d, if_neg (by omega)]
/-- what was done is kept: the newest of C1 kept rows -/
theorem ends_ok {a : Int32} (h0 : gI m 384 r = 0) (hC : C ≤ 8) : X11_ends_r g m r a C = a ∧ gI (X11_ends_m g m r a C) 385 r = nI (if C = 8 then 8 else C + 1) ∧ (∀ k, k ≠ 385 → gI (X11_ends_m g m r a C) k r = gI m k r) ∧ (∀ k, k < 85 → pastW (X11_ends_m g m r a C) r (if C = 8 then 7 else C) k = gA m (r + 2) k) ∧ (∀ c, c < (if C = 8 then 7 else C) → ∀ k, k < 85 → pastW (X11_ends_m g m r a C) r c k = pastW m r (if C = 8 then c + 1 else c) k) ∧ (∀ q, q ≠ r → q ≠ r + 4 → Sm m (X11_ends_m g m r a C) q) ∧ gK (X11_ends_m g m r a C) = gK m ∧ gR (X11_ends_m g m r a C) = gR m := by
  unfold X11_ends_r X11_ends_m
  rw [if_pos h0]
  have e8 : nI C = 8 ↔ C = 8 := nI_eq (a := C) (b := 8) (by omega) (by omega)
  by_cases c : C = 8
  · rw [if_pos (e8.mpr c), if_pos c, if_pos c]
    obtain ⟨M, h1, h2, h3, h4, h5⟩ := ends_1 (g := g) (r := r) (C := C) (a := a) 595 0 m (by omega)
    rw [h1]
    obtain ⟨k1, k2, k3, k4, k5, k6, k7⟩ := ends_2 (g := g) (r := r) (C := C) (a := a) (c2 := C - 1) 85 0 (sI M 385 r (nI C - 1)) (by omega)
    generalize X11_ends_l2 g r a C 85 0 (C - 1) (sI M 385 r (nI C - 1)) = E at *
    have hA : gA (sI M 385 r (nI C - 1)) = gA M := rfl
    refine ⟨k1, ?_, fun k hk => ?_, fun k hk => ?_, fun d hd k hk => ?_, fun q q1 q2 => ?_, k6.trans (h4), k7.trans h5⟩
    · rw [k2, c]
      exact nI_1 7
    · rw [k3 k hk]
      have e : gI (sI M 385 r (nI C - 1)) k r = gI M k r := by simp [mm, hk]
      rw [e, (h3 r (by omega)).gI]
    · unfold pastW
      rw [k4, if_pos (by omega), hA, (h3 (r + 2) (by omega)).gA]
      exact congrArg _ (by omega)
    · rw [if_pos c]
      unfold pastW
      rw [k4, if_neg (by omega), hA, h2, if_pos (by omega)]
      exact congrArg _ (by omega)
    · exact (h3 q q2).tr (Sm.tr (Sm_I q1) (k5 q q1 q2))
  · rw [if_neg (fun q => c (e8.mp q)), if_neg c, if_neg c]
    obtain ⟨k1, k2, k3, k4, k5, k6, k7⟩ := ends_2 (g := g) (r := r) (C := C) (a := a) (c2 := C) 85 0 m (by omega)
    generalize X11_ends_l2 g r a C 85 0 C m = E at *
    refine ⟨k1, ?_, k3, fun k hk => ?_, fun d hd k hk => ?_, k5, k6, k7⟩
    · rw [k2]
      exact nI_1 C
    · unfold pastW
      rw [k4, if_pos (by omega)]
      exact congrArg _ (by omega)
    · rw [if_neg c]
      unfold pastW
      rw [k4, if_neg (by omega)]
theorem ends_no {a : Int32} (h0 : gI m 384 r ≠ 0) : (∀ k, gI (X11_ends_m g m r a C) k r = gI m k r) ∧ (∀ k, k < 85 → gA (X11_ends_m g m r a C) (r + 1) k = gA m (r + 2) k) ∧ (∀ q, q ≠ r + 1 → Sm m (X11_ends_m g m r a C) q) ∧ gK (X11_ends_m g m r a C) = gK m ∧ gR (X11_ends_m g m r a C) = gR m := by
  unfold X11_ends_m
  rw [if_neg h0]
  show (∀ k, gI (X11_lays_m g m (r + 1) (r + 2)) k r = gI m k r) ∧ (∀ k, k < 85 → gA (X11_lays_m g m (r + 1) (r + 2)) (r + 1) k = gA m (r + 2) k) ∧ (∀ q, q ≠ r + 1 → Sm m (X11_lays_m g m (r + 1) (r + 2)) q) ∧ gK (X11_lays_m g m (r + 1) (r + 2)) = gK m ∧ gR (X11_lays_m g m (r + 1) (r + 2)) = gR m
  exact ⟨fun k => by rw [kI_X11_lays], fun k hk => lays_row (by omega) m hk, fun q hq => lays_S m hq, kK_X11_lays _ _ _ _, kR_X11_lays _ _ _ _⟩
end
