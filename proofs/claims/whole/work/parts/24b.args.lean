/-! ARGUMENTS, COMMANDS, A PROGRAM: THE CLASS -/
def dh (t : Nat → Int32) (L pos : Nat) : Option Int32 := if L ≤ pos then none else if t pos < 48 then none else if t pos ≤ 57 then some (t pos - 48) else none
def pN (t : Nat → Int32) (L mo pos : Nat) : Option Int32 × Nat := match dh t L pos with
  | none => (none, pos)
  | some a => if mo = 2 then (match dh t L (pos + 1) with
    | none => (some a, pos + 1)
    | some b => (some (10 * a + b), pos + 2)) else (some a, pos + 1)
def pK (t : Nat → Int32) (L pos : Nat) : Option Int32 × Nat := if pos < L ∧ (t pos = 98 ∨ t pos = 110 ∨ t pos = 119) then (some (t pos), pos + 1) else (none, pos)
def pC (t : Nat → Int32) (L : Nat) (c : Int32) (pos : Nat) : Option Int32 × Nat := if c = 107 then pK t L pos else pN t L (if c = 110 then 2 else 1) pos
def shc (k j : Nat) : Int32 := if k = 2 then 107 else if k = 1 ∨ k = 3 ∨ (k = 6 ∧ j = 1) then 100 else 110
def pAs (t : Nat → Int32) (L k : Nat) : Nat → Nat → Nat → Option (List Int32) × Nat
  | 0, _, pos => (some [], pos)
  | n + 1, j, pos => if j = 0 ∨ (pos < L ∧ t pos = 32) then (match pC t L (shc k j) (if j = 0 then pos else pos + 1) with
    | (none, q) => (none, q)
    | (some v, q) => (((pAs t L k n (j + 1) q).1).map (v :: ·), (pAs t L k n (j + 1) q).2)) else (none, pos)
def CR (t : Nat → Int32) (L pos : Nat) (o : Option (Nat × List Int32)) (q : Nat) : Prop := ∃ w q0, WR t L pos w q0 ∧ ((w = none ∧ o = none ∧ q = q0) ∨ ∃ k, w = some k ∧ o = ((pAs t L k (shL k) 0 q0).1).map (k, ·) ∧ q = (pAs t L k (shL k) 0 q0).2)
section
variable {t : Nat → Int32} {L pos k n i x q : Nat} {g : mG} {m m1 : mM} {p r : Nat}
theorem CR.un {o o1 : Option (Nat × List Int32)} {q q1 : Nat} (h : CR t L pos o q) (h1 : CR t L pos o1 q1) : o = o1 ∧ q = q1 := by
  obtain ⟨w, q0, a, b⟩ := h
  obtain ⟨w1, q2, a1, b1⟩ := h1
  obtain ⟨rfl, rfl⟩ := a.un a1
  rcases b with ⟨rfl, rfl, rfl⟩ | ⟨k, rfl, rfl, rfl⟩
  · rcases b1 with ⟨-, rfl, rfl⟩ | ⟨j, c, -⟩
    · exact ⟨rfl, rfl⟩
    · cases c
  · rcases b1 with ⟨c, -⟩ | ⟨j, c, rfl, rfl⟩
    · cases c
    · cases c
      exact ⟨rfl, rfl⟩
theorem dh_s {v : Int32} (h : dh t L pos = some v) : pos < L ∧ 0 ≤ v.toInt ∧ v.toInt ≤ 9 ∧ v = t pos - 48 ∧ isI (t pos) 48 57 ≠ 0 := by
  unfold dh at h
  by_cases c1 : L ≤ pos
  · rw [if_pos c1] at h
    cases h
  · rw [if_neg c1] at h
    by_cases c2 : t pos < 48
    · rw [if_pos c2] at h
      cases h
    · rw [if_neg c2] at h
      by_cases c3 : t pos ≤ 57
      · rw [if_pos c3] at h
        cases h
        have e48 : (48 : Int32).toInt = 48 := by decide
        have e57 : (57 : Int32).toInt = 57 := by decide
        have z := isI_b (t pos) 48 57
        rw [ti.1, e48] at c2
        rw [ti.2.1, e57] at c3
        rw [e48, e57] at z
        have e : (t pos - 48).toInt = (t pos).toInt - 48 := Kit.i32_sub (by rw [e48]; omega) (by rw [e48]; omega)
        exact ⟨by omega, by rw [e]; omega, by rw [e]; omega, rfl, fun y => z.mp y (by omega)⟩
      · rw [if_neg c3] at h
        cases h
theorem dh_n (h : dh t L pos = none) : L ≤ pos ∨ isI (t pos) 48 57 = 0 := by
  unfold dh at h
  by_cases c1 : L ≤ pos
  · exact Or.inl c1
  · have e48 : (48 : Int32).toInt = 48 := by decide
    have e57 : (57 : Int32).toInt = 57 := by decide
    have z := isI_b (t pos) 48 57
    rw [e48, e57] at z
    rw [if_neg c1] at h
    by_cases c2 : t pos < 48
    · have k := c2
      rw [ti.1, e48] at k
      exact Or.inr (z.mpr (by omega))
    · rw [if_neg c2] at h
      by_cases c3 : t pos ≤ 57
      · rw [if_pos c3] at h
        cases h
      · have k := c3
        rw [ti.2.1, e57] at k
        exact Or.inr (z.mpr (by omega))
theorem PS.I {v : Nat} (h : PS m p t L pos) (hv : v ≤ L) : PS (sI m 325 p (nI v)) p t L v := by
  obtain ⟨h1, h2, h3, h4, h5⟩ := h
  exact ⟨h1, hv, by simp [mm, h3], by simp [mm], fun i hi => by simp only [mm]; exact h5 i hi⟩
theorem PS.A {d e : Nat} {v : Int32} (h : PS m p t L pos) (hd : d ≠ p + 1) : PS (sA m d e v) p t L pos := by
  obtain ⟨h1, h2, h3, h4, h5⟩ := h
  exact ⟨h1, h2, by simp only [mm]; exact h3, by simp only [mm]; exact h4, fun i hi => by rw [gA_ne _ _ _ (Ne.symm hd)]; exact h5 i hi⟩
theorem dh_r (h : PS m p t L pos) : X8_digitHere_r g m p = (dh t L pos).getD (-1) := by
  obtain ⟨h1, h2, h3, h4, h5⟩ := h
  unfold X8_digitHere_r dh
  have lei : nI L ≤ nI pos ↔ L ≤ pos := nI_leI (by omega) (by omega)
  rw [h3, h4, nI_clamp (by omega)]
  by_cases c : L ≤ pos
  · rw [if_pos (lei.mpr c), if_pos c]
    rfl
  · rw [if_neg (fun z => c (lei.mp z)), if_neg c, h5 pos (by omega)]
    by_cases c2 : t pos < 48
    · rw [if_pos c2, if_pos c2]
      rfl
    · rw [if_neg c2, if_neg c2]
      by_cases c3 : t pos ≤ 57
      · rw [if_pos c3, if_pos c3]
        rfl
      · rw [if_neg c3, if_neg c3]
        rfl
theorem dh_v {v : Int32} (h : dh t L pos = some v) : v ≠ -1 := fun z => by
  have := (dh_s h).2.1
  rw [z] at this
  exact absurd this (by decide)
theorem ac_c {ch : Int32} (h : PS m p t L pos) : (pos < L ∧ t pos = ch → X8_accept_r g m p ch = 1 ∧ X8_accept_m g m p ch = sI m 325 p (nI (pos + 1))) ∧ (¬ (pos < L ∧ t pos = ch) → X8_accept_r g m p ch = 0 ∧ X8_accept_m g m p ch = m) := by
  obtain ⟨h1, h2, h3, h4, h5⟩ := h
  unfold X8_accept_r X8_accept_m
  have lei : nI L ≤ nI pos ↔ L ≤ pos := nI_leI (by omega) (by omega)
  rw [h3, h4, nI_clamp (by omega), nI_1]
  by_cases c : L ≤ pos
  · rw [if_pos (lei.mpr c), if_pos (lei.mpr c)]
    exact ⟨fun z => by omega, fun _ => ⟨rfl, rfl⟩⟩
  · rw [if_neg (fun z => c (lei.mp z)), if_neg (fun z => c (lei.mp z)), h5 pos (by omega)]
    by_cases d : t pos = ch
    · rw [if_pos d, if_pos d]
      exact ⟨fun _ => ⟨rfl, rfl⟩, fun z => absurd ⟨by omega, d⟩ z⟩
    · rw [if_neg d, if_neg d]
      exact ⟨fun z => absurd z.2 d, fun _ => ⟨rfl, rfl⟩⟩
theorem ra_c {c : Int32} {a : Nat} (h : PS m p t L pos) (hi : gI m 324 p = nI i) (hi12 : i < 12) (ha : a < 4) : (∃ v q, pC t L c pos = (some v, q) ∧ X8_readArgument_r g m p c (nI a) = 1 ∧ X8_readArgument_m g m p c (nI a) = sA (sI m 325 p (nI q)) (p + 4 + i) a v ∧ q ≤ L) ∨ (pC t L c pos = (none, pos) ∧ X8_readArgument_r g m p c (nI a) = 0 ∧ X8_readArgument_m g m p c (nI a) = m) := by
  have hp := h.2.1
  unfold X8_readArgument_r X8_readArgument_m pC
  by_cases c7 : c = 107
  · rw [if_pos c7, if_pos c7, if_pos c7]
    unfold X8_readKind_r X8_readKind_m pK
    rw [hi, nI_clamp (by omega), nI_clamp (by omega)]
    by_cases k1 : pos < L ∧ t pos = 98
    · obtain ⟨e1, e2⟩ := (ac_c (g := g) (ch := 98) h).1 k1
      rw [e1, e2, if_neg nz1, if_neg nz1, if_pos ⟨k1.1, Or.inl k1.2⟩]
      exact Or.inl ⟨_, _, rfl, rfl, by rw [k1.2], k1.1⟩
    · obtain ⟨e1, e2⟩ := (ac_c (g := g) (ch := 98) h).2 k1
      rw [e1, e2, if_pos rfl, if_pos rfl]
      by_cases k2 : pos < L ∧ t pos = 110
      · obtain ⟨e1, e2⟩ := (ac_c (g := g) (ch := 110) h).1 k2
        rw [e1, e2, if_neg nz1, if_neg nz1, if_pos ⟨k2.1, Or.inr (Or.inl k2.2)⟩]
        exact Or.inl ⟨_, _, rfl, rfl, by rw [k2.2], k2.1⟩
      · obtain ⟨e1, e2⟩ := (ac_c (g := g) (ch := 110) h).2 k2
        rw [e1, e2, if_pos rfl, if_pos rfl]
        by_cases k3 : pos < L ∧ t pos = 119
        · obtain ⟨e1, e2⟩ := (ac_c (g := g) (ch := 119) h).1 k3
          rw [e1, e2, if_neg nz1, if_neg nz1, if_pos ⟨k3.1, Or.inr (Or.inr k3.2)⟩]
          exact Or.inl ⟨_, _, rfl, rfl, by rw [k3.2], k3.1⟩
        · obtain ⟨e1, e2⟩ := (ac_c (g := g) (ch := 119) h).2 k3
          rw [e1, e2, if_pos rfl, if_pos rfl, if_neg (fun z => z.2.elim (fun y => k1 ⟨z.1, y⟩) (fun y => y.elim (fun y => k2 ⟨z.1, y⟩) (fun y => k3 ⟨z.1, y⟩)))]
          exact Or.inr ⟨rfl, rfl, rfl⟩
  · rw [if_neg c7, if_neg c7, if_neg c7]
    unfold pN
    rw [dh_r h, hi, nI_clamp (by omega), nI_clamp (by omega), h.2.2.2.1, nI_1, nI_1]
    have hz : (none : Option Int32).getD (-1) = -1 := rfl
    rcases hd : dh t L pos with _ | v
    · rw [if_pos hz, if_pos hz]
      exact Or.inr ⟨rfl, rfl, rfl⟩
    · have hv : ¬ (some v).getD (-1) = -1 := dh_v hd
      have hs := (dh_s hd).1
      rw [if_neg hv, if_neg hv]
      by_cases c1 : c = 110
      · rw [if_pos c1, if_pos c1, if_pos c1, dh_r (h.I (v := pos + 1) (by omega))]
        rcases he : dh t L (pos + 1) with _ | u
        · rw [if_pos hz, if_pos hz]
          exact Or.inl ⟨v, pos + 1, rfl, rfl, rfl, hs⟩
        · have hu : ¬ (some u).getD (-1) = -1 := dh_v he
          rw [if_neg hu, if_neg hu, sI_I]
          exact Or.inl ⟨10 * v + u, pos + 2, rfl, rfl, rfl, (dh_s he).1⟩
      · rw [if_neg c1, if_neg c1, if_neg c1]
        exact Or.inl ⟨v, pos + 1, rfl, rfl, rfl, hs⟩
end
