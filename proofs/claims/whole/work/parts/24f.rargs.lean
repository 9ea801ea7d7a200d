/-! THE REFERENCE READS A COMMAND -/
section
variable {t : Nat → Int32} {L pos k n i j x q : Nat} {g : mG} {m m1 : mM} {p r : Nat}
theorem sgn_w {w : Nat} (hw : w < 66) : wdC w = sgn t L pos ↔ pos < L ∧ t pos = wdC w := by
  unfold sgn
  by_cases c : L ≤ pos
  · rw [if_pos c]
    constructor
    · intro z
      have := wdC_p ⟨w, hw⟩
      simp only at this
      rw [z] at this
      exact absurd n10 this
    · intro z
      omega
  · rw [if_neg c]
    exact ⟨fun z => ⟨by omega, z.symm⟩, fun z => z.2.symm⟩
theorem w4_l : ∀ (n j : Nat) (m : mM), j + n = 8 → QS m r t L (pos + j) → gI m 404 r = 0 → (∀ k, k < 12 → gA m (r + 8) k = if j ≤ cp t L pos k then 1 else 0) → (∀ k, k < 12 → cp t L pos k = wdL k → j < wdL k) → (∃ k, k < 12 ∧ j ≤ cp t L pos k) → ∃ o q, WR t L pos o q ∧ (∀ k, o = some k → (X11_word_l4 g r n j (-1) m).1 = nI k) ∧ q ≤ L ∧ gI (X11_word_l4 g r n j (-1) m).2 401 r = nI q ∧ gI (X11_word_l4 g r n j (-1) m).2 404 r = if o.isSome then 0 else 1
  | 0, j, m, hj, h, h4, hl, hc, ⟨k, hk, he⟩ => by
    have h1 := cp_le (t := t) (L := L) (pos := pos) (k := k)
    have h8 := (wdL_f ⟨k, hk⟩).2
    simp only at h8
    have := hc k hk (by omega)
    omega
  | n + 1, j, m, hj, h, h4, hl, hc, he => by
    have hL6 := h.1
    have hpl := h.2.1
    have g0 : ∀ k, k < 12 → ((GOS (sgn t L (pos + j)) j k ∧ gA m (r + 8) k = 1) ↔ j + 1 ≤ cp t L pos k) := fun k hk => by
      rw [hl k hk, cp_s]
      have hls := wdL_S ⟨k, hk⟩
      have h66 : wdS (k + 1) ≤ 66 := wdS_l (by omega)
      simp only at hls
      unfold GOS
      constructor
      · rintro ⟨⟨a1, a2⟩, a3⟩
        rw [sgn_w (by omega)] at a2
        by_cases c : j ≤ cp t L pos k
        · exact ⟨c, a1, a2.1, a2.2⟩
        · rw [if_neg c] at a3
          exact absurd a3 (by decide)
      · rintro ⟨a1, a2, a3, a4⟩
        rw [sgn_w (by omega)]
        exact ⟨⟨a2, a3, a4⟩, by rw [if_pos a1]⟩
    obtain ⟨u1, u2, -, u4⟩ := w2_l (g := g) (r := r) (S := sgn t L (pos + j)) (q := j) (s := -1) (by omega) 12 0 0 m (by omega) (sg_r h) (Or.inl rfl) (fun k _ hk => by rw [hl k hk]; split <;> simp)
    have kI := kI_X11_word_l2x g m r j (-1) 0
    have kA := fun c (hc : c ≠ r + 8) i => kA_X11_word_l2x g m r j (-1) 0 c i hc
    rw [X11_word_l4, if_neg n01, if_pos h4]
    have eB : X11_word_l2a0 g m r j (-1) 0 = (X11_word_l2 g r 12 0 j (-1) 0 m).1 := rfl
    have eM : X11_word_l2x_m g m r j (-1) 0 = (X11_word_l2 g r 12 0 j (-1) 0 m).2 := rfl
    rw [← eM] at u4
    rw [← eB] at u1 u2
    generalize X11_word_l2x_m g m r j (-1) 0 = M at *
    have live : ∀ k, k < 12 → gA M (r + 8) k = if j + 1 ≤ cp t L pos k then 1 else 0 := fun k hk => by
      by_cases c : j + 1 ≤ cp t L pos k
      · rw [if_pos c]
        exact (u4 k (Nat.zero_le _) hk).1 ((g0 k hk).mpr c)
      · rw [if_neg c]
        exact (u4 k (Nat.zero_le _) hk).2 (fun z => c ((g0 k hk).mp z))
    by_cases cB : X11_word_l2a0 g m r j (-1) 0 = 0
    · rw [if_pos cB]
      have no : ∀ k, k < 12 → ¬ j + 1 ≤ cp t L pos k := fun k hk z => (u2.mp cB).2 k (Nat.zero_le _) hk ((g0 k hk).mpr z)
      have eA : gA (sI (sI M 404 r 1) 401 r (gI M 401 r + 0)) (r + 8) = gA M (r + 8) := by simp only [mm]
      have e3 : X11_word_l3a0 g (sI (sI M 404 r 1) 401 r (gI M 401 r + 0)) r (j + 1) (-1) = -1 := w3_n 12 0 (by omega) (by omega) (fun k _ hk => by
        rw [eA, live k hk, if_neg (no k hk)]
        exact fun z => absurd z.1 (by decide))
      rw [e3, w4_out (Or.inr (by simp [mm]))]
      refine ⟨none, pos + j, Or.inr ⟨rfl, fun k hk z => ?_, j, rfl, fun k hk => ?_, ?_⟩, fun k hk => (by cases hk), hpl, ?_, ?_⟩
      · have := hc k hk z
        have := no k hk
        omega
      · have := no k hk
        omega
      · obtain ⟨k, hk, he⟩ := he
        have := no k hk
        exact ⟨k, hk, by omega⟩
      · have z : gI M 401 r + 0 = nI (pos + j) := by
          rw [kI, h.2.2.2.1]
          exact Int32.add_zero _
        simp [mm, z]
      · simp [mm]
    · rw [if_neg cB]
      obtain ⟨k1, hk1, c1⟩ : ∃ k, k < 12 ∧ j + 1 ≤ cp t L pos k := by
        refine Classical.byContradiction fun z => cB (u2.mpr ⟨rfl, fun k _ hk y => z ⟨k, hk, (g0 k hk).mp y⟩⟩)
      have hin := (cp_at (t := t) (L := L) (pos := pos) (k := k1) (j := j) (by omega)).1
      have eA : gA (sI (sI M 404 r 0) 401 r (gI M 401 r + 1)) = gA M := by simp only [mm]
      have e1 : gI (sI (sI M 404 r 0) 401 r (gI M 401 r + 1)) 401 r = nI (pos + (j + 1)) := by
        have z : gI M 401 r + 1 = nI (pos + (j + 1)) := by
          rw [kI, h.2.2.2.1, nI_1]
          rfl
        simp [mm, z]
      have e4 : gI (sI (sI M 404 r 0) 401 r (gI M 401 r + 1)) 404 r = 0 := by simp [mm]
      have e2 : gI (sI (sI M 404 r 0) 401 r (gI M 401 r + 1)) 402 r = gI m 402 r := by
        rw [← kI]
        simp [mm]
      generalize sI (sI M 404 r 0) 401 r (gI M 401 r + 1) = M1 at *
      by_cases c2 : ∃ k, k < 12 ∧ cp t L pos k = wdL k ∧ wdL k = j + 1
      · obtain ⟨k0, hk0, d1, d2⟩ := c2
        have e3 : X11_word_l3a0 g M1 r (j + 1) (-1) = nI k0 := w3_y (s := -1) hk0 (by rw [eA, live k0 hk0, if_pos (by omega)]; exact ⟨rfl, d2⟩) (fun k hk z => by
          rw [eA, live k hk] at z
          by_cases y : j + 1 ≤ cp t L pos k
          · have := cp_le (t := t) (L := L) (pos := pos) (k := k)
            exact cp_un hk hk0 (by omega) d1
          · rw [if_neg y] at z
            exact absurd z.1 (by decide)) (by omega) 12 0 (by omega) (-1) (Nat.zero_le _)
        rw [e3, w4_out (Or.inl (nI_pos' (by omega)))]
        exact ⟨some k0, pos + wdL k0, Or.inl ⟨k0, hk0, rfl, d1, rfl⟩, fun k hk => by cases hk; rfl, by omega, by rw [d2]; exact e1, e4⟩
      · have e3 : X11_word_l3a0 g M1 r (j + 1) (-1) = -1 := w3_n 12 0 (by omega) (by omega) (fun k _ hk => by
          rw [eA, live k hk]
          by_cases y : j + 1 ≤ cp t L pos k
          · have := cp_le (t := t) (L := L) (pos := pos) (k := k)
            exact fun z => c2 ⟨k, hk, by omega, z.2⟩
          · rw [if_neg y]
            exact fun z => absurd z.1 (by decide))
        rw [e3]
        refine w4_l n (j + 1) M1 (by omega) (h.to e2 e1 (by omega) (fun i => by rw [eA]; exact kA _ (by omega) i)) e4 (fun k hk => by rw [eA]; exact live k hk) (fun k hk z => ?_) ⟨k1, hk1, c1⟩
        have := hc k hk z
        by_cases y : wdL k = j + 1
        · exact absurd ⟨k, hk, z, y⟩ c2
        · omega
theorem w_ref (h : QS m r t L pos) (h4 : gI m 404 r = 0) : ∃ o q, WR t L pos o q ∧ (∀ k, o = some k → X11_word_r g m r = nI k) ∧ QS (X11_word_m g m r) r t L q ∧ gI (X11_word_m g m r) 404 r = if o.isSome then 0 else 1 := by
  have kI := kI_X11_word_l1x g m r
  have e8 : ∀ k, k < 12 → gA (X11_word_l1x_m g m r) (r + 8) k = 1 := fun k hk => by
    have := w1_l (g := g) (r := r) 12 0 m (by omega) k hk
    rw [if_pos (Nat.zero_le _)] at this
    exact this
  have kA := fun c (hc : c ≠ r + 8) i => kA_X11_word_l1x g m r c i hc
  have fI := fun k h1 h2 => kI_X11_word g m r k r h1 h2
  have fA := fun c (hc : c ≠ r + 8) i => kA_X11_word g m r c i hc
  unfold X11_word_m at fI fA ⊢
  unfold X11_word_r
  generalize X11_word_l1x_m g m r = M at *
  obtain ⟨o, q, u1, u2, u3, u4, u5⟩ := w4_l (g := g) (r := r) (t := t) (L := L) (pos := pos) 8 0 M (by omega) (h.to (by rw [kI]) (by rw [kI]; exact h.2.2.2.1) h.2.1 (fun i => kA _ (by omega) i)) (by rw [kI]; exact h4) (fun k hk => by rw [if_pos (Nat.zero_le _)]; exact e8 k hk) (fun k hk _ => by have := (wdL_f ⟨k, hk⟩).1; simp only at this; omega) ⟨0, by omega, Nat.zero_le _⟩
  exact ⟨o, q, u1, u2, h.to (fI 402 (by decide) (by decide)) u4 u3 (fun i => fA _ (by omega) i), u5⟩
theorem sgn_i (h : pos < L) : sgn t L pos = t pos := if_neg (by omega)
theorem isd_0 (h : dh t L pos = none) : isI (sgn t L pos) 48 57 = 0 := by
  unfold sgn
  by_cases c : L ≤ pos
  · rw [if_pos c]
    exact (isI_b (-1) 48 57).mpr (by decide)
  · rw [if_neg c]
    exact (dh_n h).resolve_left c
theorem isd_1 {v : Int32} (h : dh t L pos = some v) : isI (sgn t L pos) 48 57 ≠ 0 ∧ sgn t L pos - 48 = v := by
  obtain ⟨h1, h2, h3, h4, h5⟩ := dh_s h
  rw [sgn_i h1]
  exact ⟨h5, h4.symm⟩
theorem i32_as (a b c : Int32) : a + b - c = a + (b - c) := by
  rw [Int32.sub_eq_add_neg, Int32.add_assoc, ← Int32.sub_eq_add_neg]
theorem dg_ref {mo : Nat} (hmo : mo = 1 ∨ mo = 2) (h : QS m r t L pos) : (∃ v q, pN t L mo pos = (some v, q) ∧ X11_digits_r g m r mo = v ∧ q ≤ L ∧ gI (X11_digits_m g m r mo) 401 r = nI q ∧ gI (X11_digits_m g m r mo) 404 r = 0) ∨ (pN t L mo pos = (none, pos) ∧ gI (X11_digits_m g m r mo) 401 r = nI pos ∧ gI (X11_digits_m g m r mo) 404 r = 1) := by
  have hpl := h.2.1
  have hL6 := h.1
  unfold pN X11_digits_r X11_digits_m
  rcases hd : dh t L pos with _ | v
  · refine Or.inr ⟨rfl, ?_⟩
    have e : X11_digits_l1 g r mo mo 0 0 m = (0, sI m 404 r (0 ||| 1)) := by
      obtain ⟨u, rfl⟩ : ∃ u, mo = u + 1 := ⟨mo - 1, by omega⟩
      rw [X11_digits_l1, sg_r h, if_pos (isd_0 hd), if_pos (by decide)]
    rw [e]
    exact ⟨by simp [mm, h.2.2.2.1], by simp [mm]⟩
  · refine Or.inl ?_
    obtain ⟨i1, i2⟩ := isd_1 hd
    have hlt := (dh_s hd).1
    have hM : QS (sI m 401 r (gI m 401 r + 1)) r t L (pos + 1) := h.to (by simp [mm]) (by simp [mm, h.2.2.2.1, nI_1]) (by omega) (fun i => by simp only [mm])
    have v1 : 10 * 0 + sgn t L pos - 48 = v := by
      rw [i32_as, i2]
      exact (by decide : (10 : Int32) * 0 = 0) ▸ Int32.zero_add v
    have n1 : ¬ nI 1 = 0 := nI_ne0 (by omega) (by omega)
    have n2 : ¬ nI 2 = 0 := nI_ne0 (by omega) (by omega)
    rcases hmo with rfl | rfl
    · rw [X11_digits_l1, sg_r h, if_neg i1, v1, X11_digits_l1, if_neg n1]
      exact ⟨v, pos + 1, rfl, rfl, hlt, by simp [mm, h.2.2.2.1, nI_1], by simp [mm]⟩
    · rw [X11_digits_l1, sg_r h, if_neg i1, v1, X11_digits_l1, sg_r hM]
      rcases he : dh t L (pos + 1) with _ | u
      · rw [if_pos (isd_0 he), if_neg n1]
        exact ⟨v, pos + 1, rfl, rfl, hlt, by simp [mm, h.2.2.2.1, nI_1], by simp [mm]⟩
      · obtain ⟨k1, k2⟩ := isd_1 he
        have hlt2 := (dh_s he).1
        rw [if_neg k1, i32_as, k2, X11_digits_l1, if_neg n2]
        refine ⟨10 * v + u, pos + 2, rfl, rfl, hlt2, ?_, by simp [mm]⟩
        have z : nI pos + 1 + 1 = nI (pos + 2) := by rw [nI_1, nI_1]
        simp [mm, h.2.2.2.1, z]
end
