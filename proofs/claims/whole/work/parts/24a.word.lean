/-! THE TEXT OF A PROGRAM: WORDS -/
def cpl (t : Nat → Int32) (L pos k : Nat) : Nat → Nat → Nat
  | 0, i => i
  | n + 1, i => if pos + i < L ∧ t (pos + i) = wdC (wdS k + i) then cpl t L pos k n (i + 1) else i
def cp (t : Nat → Int32) (L pos k : Nat) : Nat := cpl t L pos k (wdL k) 0
/-- a word is read at pos: which, and where the next sign stands -/
def WR (t : Nat → Int32) (L pos : Nat) (o : Option Nat) (q : Nat) : Prop := (∃ k, k < 12 ∧ o = some k ∧ cp t L pos k = wdL k ∧ q = pos + wdL k) ∨ (o = none ∧ (∀ k, k < 12 → cp t L pos k ≠ wdL k) ∧ ∃ x, q = pos + x ∧ (∀ k, k < 12 → cp t L pos k ≤ x) ∧ ∃ k, k < 12 ∧ cp t L pos k = x)
section
variable {t : Nat → Int32} {L pos k n i x : Nat} {g : mG} {m m1 : mM} {p r : Nat}
theorem wdL_S : ∀ k : Fin 12, wdS k.1 + wdL k.1 = wdS (k.1 + 1) := by decide
theorem wdL_f : ∀ k : Fin 12, 3 ≤ wdL k.1 ∧ wdL k.1 ≤ 8 := by decide
theorem wd_pf : ∀ k j : Fin 12, k.1 ≠ j.1 → ∃ i : Fin 8, i.1 < wdL k.1 ∧ i.1 < wdL j.1 ∧ wdC (wdS k.1 + i.1) ≠ wdC (wdS j.1 + i.1) := by decide +kernel
theorem cpl_f : ∀ (n i : Nat), i ≤ cpl t L pos k n i ∧ cpl t L pos k n i ≤ i + n ∧ (∀ j, i ≤ j → j < cpl t L pos k n i → pos + j < L ∧ t (pos + j) = wdC (wdS k + j)) ∧ (cpl t L pos k n i < i + n → ¬ (pos + cpl t L pos k n i < L ∧ t (pos + cpl t L pos k n i) = wdC (wdS k + cpl t L pos k n i)))
  | 0, i => by
    rw [cpl]
    exact ⟨Nat.le_refl _, Nat.le_refl _, fun j h1 h2 => by omega, fun h => by omega⟩
  | n + 1, i => by
    rw [cpl]
    by_cases c : pos + i < L ∧ t (pos + i) = wdC (wdS k + i)
    · rw [if_pos c]
      obtain ⟨h1, h2, h3, h4⟩ := cpl_f n (i + 1)
      refine ⟨by omega, by omega, fun j q1 q2 => ?_, fun h => h4 (by omega)⟩
      by_cases e : j = i
      · rw [e]
        exact c
      · exact h3 j (by omega) q2
    · rw [if_neg c]
      exact ⟨Nat.le_refl _, by omega, fun j h1 h2 => by omega, fun _ => c⟩
theorem cp_le : cp t L pos k ≤ wdL k := by
  have := (cpl_f (t := t) (L := L) (pos := pos) (k := k) (wdL k) 0).2.1
  unfold cp
  omega
theorem cp_at {j : Nat} (h : j < cp t L pos k) : pos + j < L ∧ t (pos + j) = wdC (wdS k + j) := (cpl_f (wdL k) 0).2.2.1 j (by omega) h
theorem cp_ge {j : Nat} (h : j ≤ wdL k) (q : ∀ i, i < j → pos + i < L ∧ t (pos + i) = wdC (wdS k + i)) : j ≤ cp t L pos k := by
  obtain ⟨h1, h2, h3, h4⟩ := cpl_f (t := t) (L := L) (pos := pos) (k := k) (wdL k) 0
  by_cases c : j ≤ cp t L pos k
  · exact c
  · have c2 : ¬ j ≤ cpl t L pos k (wdL k) 0 := c
    exact absurd (q _ (by omega)) (h4 (by omega))
/-- one sign further -/
theorem cp_s {j : Nat} : j + 1 ≤ cp t L pos k ↔ j ≤ cp t L pos k ∧ j < wdL k ∧ pos + j < L ∧ t (pos + j) = wdC (wdS k + j) := by
  constructor
  · intro h
    have := cp_le (t := t) (L := L) (pos := pos) (k := k)
    exact ⟨by omega, by omega, cp_at (by omega)⟩
  · rintro ⟨h1, h2, h3⟩
    refine cp_ge (by omega) fun i hi => ?_
    by_cases e : i = j
    · rw [e]
      exact h3
    · exact cp_at (by omega)
theorem cp_un {j : Nat} (hk : k < 12) (hj : j < 12) (h1 : cp t L pos k = wdL k) (h2 : cp t L pos j = wdL j) : k = j := by
  by_cases e : k = j
  · exact e
  · obtain ⟨i, i1, i2, i3⟩ := wd_pf ⟨k, hk⟩ ⟨j, hj⟩ e
    have a1 := (cp_at (t := t) (L := L) (pos := pos) (k := k) (j := i.1) (by rw [h1]; exact i1)).2
    have a2 := (cp_at (t := t) (L := L) (pos := pos) (k := j) (j := i.1) (by rw [h2]; exact i2)).2
    exact absurd (a1.symm.trans a2) i3
theorem WR.un {o o1 : Option Nat} {q q1 : Nat} (h : WR t L pos o q) (h1 : WR t L pos o1 q1) : o = o1 ∧ q = q1 := by
  rcases h with ⟨k, hk, rfl, a1, rfl⟩ | ⟨rfl, a1, x, rfl, a2, k, hk, a3⟩
  · rcases h1 with ⟨j, hj, rfl, b1, rfl⟩ | ⟨rfl, b1, x, rfl, b2, j, hj, b3⟩
    · have := cp_un hk hj a1 b1
      subst this
      exact ⟨rfl, rfl⟩
    · exact absurd a1 (b1 k hk)
  · rcases h1 with ⟨j, hj, rfl, b1, rfl⟩ | ⟨rfl, b1, y, rfl, b2, j, hj, b3⟩
    · exact absurd b1 (a1 j hj)
    · have z1 := a2 j hj
      have z2 := b2 k hk
      exact ⟨rfl, by omega⟩
/-- the class's program: text t of L signs, read up to pos -/
def PS (m : mM) (p : Nat) (t : Nat → Int32) (L pos : Nat) : Prop := L ≤ 60 ∧ pos ≤ L ∧ gI m 323 p = nI L ∧ gI m 325 p = nI pos ∧ ∀ i, i < L → gA m (p + 1) i = t i
theorem wb_c : ∀ k : Fin 12, ∀ i : Fin 8, i.1 < wdL k.1 → (((wdB k.1 i.1) &&& 255).toUInt32 % 65536).toInt32 = wdC (wdS k.1 + i.1) := by decide +kernel
theorem cl_cp {t9 vt : Nat} (h : PS m p t L pos) (hk : k < 12) : ∀ (n i : Nat), i + n = wdL k → X8_commonLength_l1 g m p t9 vt (wdL k) (wdB k) n i = nI (cpl t L pos k n i)
  | 0, i, hi => by
    rw [X8_commonLength_l1, cpl]
  | n + 1, i, hi => by
    obtain ⟨h1, h2, h3, h4, h5⟩ := h
    have w8 := (wdL_f ⟨k, hk⟩).2
    simp only at w8
    rw [X8_commonLength_l1, cpl, h3, h4, nI_add, nI_clamp (by omega)]
    have lei : nI L ≤ nI (pos + i) ↔ L ≤ pos + i := nI_leI (by omega) (by omega)
    by_cases c : L ≤ pos + i
    · rw [if_pos (lei.mpr c), if_neg (by omega)]
    · have e : J0_charAt_5068e_r g m t9 (nI i) vt (wdL k) (wdB k) i = wdC (wdS k + i) := wb_c ⟨k, hk⟩ ⟨i, by omega⟩ (show i < wdL k by omega)
      rw [if_neg (fun z => c (lei.mp z)), h5 _ (by omega), e]
      by_cases d : t (pos + i) = wdC (wdS k + i)
      · rw [if_pos d, if_pos ⟨by omega, d⟩]
        exact cl_cp ⟨h1, h2, h3, h4, h5⟩ hk n (i + 1) (by omega)
      · rw [if_neg d, if_neg (fun z => d z.2)]
theorem cl_r {t9 vt : Nat} (h : PS m p t L pos) (hk : k < 12) : X8_commonLength_r g m p t9 vt (wdL k) (wdB k) = nI (cp t L pos k) := cl_cp h hk (wdL k) 0 (by omega)
theorem rw_cl (h : PS m p t L pos) : ∀ (n j s : Nat), j + n = 12 → (∀ k, k < j → cp t L pos k ≠ wdL k ∧ cp t L pos k ≤ s) → (∃ k, k < 12 ∧ cp t L pos k = s) ∨ s = 0 → ∃ o q, WR t L pos o q ∧ (X8_readWord_l1 g p n j (nI s) m).1 = o.map (cmA g) ∧ (X8_readWord_l1 g p n j (nI s) m).2 = sI m 325 p (nI q)
  | 0, j, s, hj, h1, h2 => by
    rw [X8_readWord_l1]
    refine ⟨none, pos + s, Or.inr ⟨rfl, fun k hk => (h1 k (by omega)).1, s, rfl, fun k hk => (h1 k (by omega)).2, ?_⟩, rfl, ?_⟩
    · rcases h2 with h2 | h2
      · exact h2
      · exact ⟨0, by omega, by have := (h1 0 (by omega)).2; omega⟩
    · rw [h.2.2.2.1, nI_add]
  | n + 1, j, s, hj, h1, h2 => by
    rw [X8_readWord_l1, cl_r h (show j < 12 by omega)]
    have w8 := (wdL_f ⟨j, by omega⟩).2
    simp only at w8
    have hpl := h.2.1
    have hL6 := h.1
    have e : J0_length_8abf5_r g m (srA g "BirdForge$Command" (wdK j)) (svA g "BirdForge$Command" (wdK j)) (wdL j) (wdB j) = nI (wdL j) := by
      unfold J0_length_8abf5_r J0_coder_7d493_r
      refine Int32.toInt_inj.mp ?_
      simp
    have hle := cp_le (t := t) (L := L) (pos := pos) (k := j)
    rw [e]
    by_cases c : cp t L pos j = wdL j
    · rw [if_pos (by rw [c])]
      exact ⟨some j, pos + wdL j, Or.inl ⟨j, by omega, rfl, c, rfl⟩, rfl, by rw [h.2.2.2.1, c, nI_add]⟩
    · rw [if_neg (fun z => c (nI_same (by omega) (by omega) z))]
      have em : imax (nI s) (nI (cp t L pos j)) = nI (max s (cp t L pos j)) := by
        refine Int32.toInt_inj.mp ?_
        have hs : s ≤ 8 := by
          rcases h2 with ⟨k, hk, h2⟩ | h2
          · have := cp_le (t := t) (L := L) (pos := pos) (k := k)
            have := (wdL_f ⟨k, hk⟩).2
            simp only at this
            omega
          · omega
        rw [imax_t, nI_toInt (by omega), nI_toInt (by omega), nI_toInt (by omega)]
        omega
      rw [em]
      refine rw_cl h n (j + 1) (max s (cp t L pos j)) (by omega) (fun k hk => ?_) ?_
      · by_cases e : k = j
        · rw [e]
          exact ⟨c, by omega⟩
        · have := h1 k (by omega)
          exact ⟨this.1, by omega⟩
      · by_cases d : s ≤ cp t L pos j
        · exact Or.inl ⟨j, by omega, by omega⟩
        · rcases h2 with ⟨k, hk, h2⟩ | h2
          · exact Or.inl ⟨k, hk, by omega⟩
          · omega
theorem rw_c (h : PS m p t L pos) : ∃ o q, WR t L pos o q ∧ X8_readWord_r g m p = o.map (cmA g) ∧ X8_readWord_m g m p = sI m 325 p (nI q) := rw_cl h 12 0 0 (by omega) (fun k hk => by omega) (Or.inr rfl)
end
