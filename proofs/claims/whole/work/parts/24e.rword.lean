/-! THE REFERENCE READS A WORD -/
def QS (m : mM) (r : Nat) (t : Nat → Int32) (L pos : Nat) : Prop := L ≤ 60 ∧ pos ≤ L ∧ gI m 402 r = nI L ∧ gI m 401 r = nI pos ∧ ∀ i, i < L → gA m (r + 6) i = t i
section
variable {t : Nat → Int32} {L pos k n i j x q : Nat} {g : mG} {m m1 : mM} {p r : Nat}
def sgn (t : Nat → Int32) (L pos : Nat) : Int32 := if L ≤ pos then -1 else t pos
theorem sg_r (h : QS m r t L pos) : X11_sign_r g m r = sgn t L pos := by
  obtain ⟨h1, h2, h3, h4, h5⟩ := h
  unfold X11_sign_r sgn
  have lei : nI L ≤ nI pos ↔ L ≤ pos := nI_leI (by omega) (by omega)
  rw [h3, h4, nI_clamp (by omega)]
  by_cases c : L ≤ pos
  · rw [if_pos (lei.mpr c), if_pos c]
  · rw [if_neg (fun z => c (lei.mp z)), if_neg c, h5 pos (by omega)]
theorem QS.to {pos2 : Nat} (h : QS m r t L pos) (h2 : gI m1 402 r = gI m 402 r) (h1 : gI m1 401 r = nI pos2) (hp : pos2 ≤ L) (h6 : ∀ i, gA m1 (r + 6) i = gA m (r + 6) i) : QS m1 r t L pos2 := ⟨h.1, hp, h2.trans h.2.2.1, h1, fun i hi => (h6 i).trans (h.2.2.2.2 i hi)⟩
theorem w1_l : ∀ (n j : Nat) (m : mM), j + n = 12 → ∀ k, k < 12 → gA (X11_word_l1 g r n j m) (r + 8) k = if j ≤ k then 1 else gA m (r + 8) k
  | 0, j, m, hj, k, hk => by
    rw [X11_word_l1, if_neg (by omega)]
  | n + 1, j, m, hj, k, hk => by
    rw [X11_word_l1, w1_l n (j + 1) _ (by omega) k hk, gA_same]
    by_cases c : j + 1 ≤ k
    · rw [if_pos c, if_pos (by omega)]
    · rw [if_neg c]
      by_cases d : k = j
      · rw [ui d, if_pos (by omega)]
      · rw [un d, if_neg (by omega)]
/-- word k goes on with the sign S at j -/
def GOS (S : Int32) (j k : Nat) : Prop := j < wdL k ∧ wdC (wdS k + j) = S
theorem w2_l {S : Int32} {q : Nat} {s : Int32} (hq : q ≤ 8) : ∀ (n j : Nat) (b : Int32) (m : mM), j + n = 12 → X11_sign_r g m r = S → (b = 0 ∨ b = 1) → (∀ k, j ≤ k → k < 12 → gA m (r + 8) k = 0 ∨ gA m (r + 8) k = 1) → ((X11_word_l2 g r n j q s b m).1 = 0 ∨ (X11_word_l2 g r n j q s b m).1 = 1) ∧ ((X11_word_l2 g r n j q s b m).1 = 0 ↔ b = 0 ∧ ∀ k, j ≤ k → k < 12 → ¬ (GOS S q k ∧ gA m (r + 8) k = 1)) ∧ (∀ k, k < j → gA (X11_word_l2 g r n j q s b m).2 (r + 8) k = gA m (r + 8) k) ∧ ∀ k, j ≤ k → k < 12 → (GOS S q k ∧ gA m (r + 8) k = 1 → gA (X11_word_l2 g r n j q s b m).2 (r + 8) k = 1) ∧ (¬ (GOS S q k ∧ gA m (r + 8) k = 1) → gA (X11_word_l2 g r n j q s b m).2 (r + 8) k = 0)
  | 0, j, b, m, hj, hS, hb, h01 => by
    rw [X11_word_l2]
    exact ⟨hb, ⟨fun z => ⟨z, fun k h1 h2 => by omega⟩, fun z => z.1⟩, fun _ _ => rfl, fun k h1 h2 => by omega⟩
  | n + 1, j, b, m, hj, hS, hb, h01 => by
    have h66 : wdS (j + 1) ≤ 66 := wdS_l (by omega)
    have hls := wdL_S ⟨j, by omega⟩
    have hl8 := (wdL_f ⟨j, by omega⟩).2
    simp only at hls hl8
    -- what is written at j (v), and the mark (b2)
    have step : ∀ (v b2 : Int32), (b2 = 0 ∨ b2 = 1) → (b2 = 0 ↔ b = 0 ∧ ¬ (GOS S q j ∧ gA m (r + 8) j = 1)) → (GOS S q j ∧ gA m (r + 8) j = 1 → v = 1) → (¬ (GOS S q j ∧ gA m (r + 8) j = 1) → v = 0) → ((X11_word_l2 g r n (j + 1) q s b2 (sA m (r + 8) j v)).1 = 0 ∨ (X11_word_l2 g r n (j + 1) q s b2 (sA m (r + 8) j v)).1 = 1) ∧ ((X11_word_l2 g r n (j + 1) q s b2 (sA m (r + 8) j v)).1 = 0 ↔ b = 0 ∧ ∀ k, j ≤ k → k < 12 → ¬ (GOS S q k ∧ gA m (r + 8) k = 1)) ∧ (∀ k, k < j → gA (X11_word_l2 g r n (j + 1) q s b2 (sA m (r + 8) j v)).2 (r + 8) k = gA m (r + 8) k) ∧ ∀ k, j ≤ k → k < 12 → (GOS S q k ∧ gA m (r + 8) k = 1 → gA (X11_word_l2 g r n (j + 1) q s b2 (sA m (r + 8) j v)).2 (r + 8) k = 1) ∧ (¬ (GOS S q k ∧ gA m (r + 8) k = 1) → gA (X11_word_l2 g r n (j + 1) q s b2 (sA m (r + 8) j v)).2 (r + 8) k = 0) := by
      intro v b2 hb2 hbe hv1 hv0
      have e8 : ∀ k, j + 1 ≤ k → gA (sA m (r + 8) j v) (r + 8) k = gA m (r + 8) k := fun k hk => by
        rw [gA_same, un (by omega)]
      have ej : gA (sA m (r + 8) j v) (r + 8) j = v := by
        rw [gA_same, ui rfl]
      have el : ∀ k, k < j → gA (sA m (r + 8) j v) (r + 8) k = gA m (r + 8) k := fun k hk => by
        rw [gA_same, un (by omega)]
      have hS2 : X11_sign_r g (sA m (r + 8) j v) r = S := by
        rw [← hS]
        unfold X11_sign_r
        rw [gA_ne _ _ _ (by omega)]
        rfl
      obtain ⟨i1, i2, i3, i4⟩ := w2_l (s := s) hq n (j + 1) b2 (sA m (r + 8) j v) (by omega) hS2 hb2 (fun k h1 h2 => by rw [e8 k h1]; exact h01 k (by omega) h2)
      generalize X11_word_l2 g r n (j + 1) q s b2 (sA m (r + 8) j v) = R at *
      refine ⟨i1, ?_, fun k hk => (i3 k (by omega)).trans (el k hk), fun k h1 h2 => ?_⟩
      · rw [i2, hbe]
        constructor
        · rintro ⟨⟨a1, a2⟩, a3⟩
          refine ⟨a1, fun k h1 h2 => ?_⟩
          by_cases c : k = j
          · rw [c]
            exact a2
          · have := a3 k (by omega) h2
            rw [e8 k (by omega)] at this
            exact this
        · rintro ⟨a1, a2⟩
          refine ⟨⟨a1, a2 j (Nat.le_refl _) (by omega)⟩, fun k h1 h2 => ?_⟩
          rw [e8 k h1]
          exact a2 k (by omega) h2
      · by_cases c : k = j
        · rw [c, i3 j (by omega), ej]
          exact ⟨hv1, hv0⟩
        · have := i4 k (by omega) h2
          rw [e8 k (by omega)] at this
          exact this
    have x0 : ∀ x : Int32, x &&& 0 = 0 := fun x => by simp
    have y0 : ∀ x : Int32, x ||| 0 = x := fun x => by simp
    have hle : nI (wdS (j + 1)) ≤ nI (wdS j + q) ↔ wdS (j + 1) ≤ wdS j + q := nI_leI (by omega) (by omega)
    have b1 : b ||| 1 = 1 := by rcases hb with rfl | rfl <;> decide
    rw [X11_word_l2, nI_add, x0, y0, hS, b1]
    by_cases c1 : wdS (j + 1) ≤ wdS j + q
    · have ng : ¬ GOS S q j := fun z => by have := z.1; omega
      rw [if_pos (hle.mpr c1)]
      exact step 0 b hb ⟨fun z => ⟨z, fun y => ng y.1⟩, fun z => z.1⟩ (fun z => absurd z.1 ng) (fun _ => rfl)
    · rw [if_neg (fun z => c1 (hle.mp z))]
      by_cases c2 : wdC (wdS j + q) = S
      · have gg : GOS S q j := ⟨by omega, c2⟩
        rw [if_pos c2]
        rcases h01 j (Nat.le_refl _) (by omega) with e | e
        · rw [e]
          have z1 : ((0 : Int32) &&& 1) = 0 := by decide
          rw [z1, if_neg (by decide)]
          exact step 0 b hb ⟨fun z => ⟨z, fun y => by rw [e] at y; exact absurd y.2 (by decide)⟩, fun z => z.1⟩ (fun z => by rw [e] at z; exact absurd z.2 (by decide)) (fun _ => rfl)
        · rw [e]
          have z1 : ((1 : Int32) &&& 1) = 1 := by decide
          rw [z1, if_pos rfl]
          exact step 1 1 (Or.inr rfl) ⟨fun z => absurd z nz1, fun z => absurd ⟨gg, e⟩ z.2⟩ (fun _ => rfl) (fun z => absurd ⟨gg, e⟩ z)
      · have ng : ¬ GOS S q j := fun z => c2 z.2
        rw [if_neg c2]
        exact step 0 b hb ⟨fun z => ⟨z, fun y => ng y.1⟩, fun z => z.1⟩ (fun z => absurd z.1 ng) (fun _ => rfl)
theorem w3_n {s : Int32} : ∀ (n j : Nat), j + n = 12 → q ≤ 9 → (∀ k, j ≤ k → k < 12 → ¬ (gA m (r + 8) k = 1 ∧ wdL k = q)) → X11_word_l3 g m r n j q s = s
  | 0, j, hj, hq, h => by rw [X11_word_l3]
  | n + 1, j, hj, hq, h => by
    have hls := wdL_S ⟨j, by omega⟩
    have h66 : wdS (j + 1) ≤ 66 := wdS_l (by omega)
    simp only at hls
    rw [X11_word_l3, nI_add]
    have z := h j (Nat.le_refl _) (by omega)
    have ih := w3_n (s := s) n (j + 1) (by omega) hq (fun k h1 h2 => h k (by omega) h2)
    by_cases c : gA m (r + 8) j = 1
    · rw [if_pos c, if_neg (fun y => z ⟨c, by have := nI_same (by omega) (by omega) y; omega⟩)]
      exact ih
    · rw [if_neg c]
      exact ih
theorem w3_y {s : Int32} {k0 : Nat} (hk : k0 < 12) (h0 : gA m (r + 8) k0 = 1 ∧ wdL k0 = q) (hu : ∀ k, k < 12 → gA m (r + 8) k = 1 ∧ wdL k = q → k = k0) (hq : q ≤ 9) : ∀ (n j : Nat), j + n = 12 → ∀ s, j ≤ k0 → X11_word_l3 g m r n j q s = nI k0
  | 0, j, hj, s, hs => by omega
  | n + 1, j, hj, s, hs => by
    have hls := wdL_S ⟨j, by omega⟩
    have h66 : wdS (j + 1) ≤ 66 := wdS_l (by omega)
    simp only at hls
    rw [X11_word_l3, nI_add]
    by_cases e : j = k0
    · subst e
      rw [if_pos h0.1, if_pos (by rw [← hls, h0.2])]
      exact w3_n n (j + 1) (by omega) hq (fun k h1 h2 z => by have := hu k h2 z; omega)
    · have ih := w3_y (s := s) hk h0 hu hq n (j + 1) (by omega) s (by omega)
      by_cases c : gA m (r + 8) j = 1
      · rw [if_pos c, if_neg (fun y => e (hu j (by omega) ⟨c, by have := nI_same (by omega) (by omega) y; omega⟩))]
        exact ih
      · rw [if_neg c]
        exact ih
theorem w4_out {s : Int32} (h : 0 ≤ s ∨ gI m 404 r ≠ 0) : ∀ (n j : Nat), X11_word_l4 g r n j s m = (s, m)
  | 0, j => by
    rw [X11_word_l4]
    split <;> rfl
  | n + 1, j => by
    rw [X11_word_l4]
    rcases h with h | h
    · rw [if_pos h]
    · rw [if_neg h]
      split <;> rfl
end
