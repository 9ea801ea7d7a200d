/-! what the forge's constructor leaves -/
section
variable {g : mG} {m : mM} {f : Nat}
theorem fcP_Q (hk : gK m f = some (.inl 5)) (hg : gN m = f + 1) : ∀ j, j ≤ 8 → ∀ i, i < j → gQ (fcP g m f j) (f + 2) i = some (f + (i + 4))
  | 0, _ => fun i h => by omega
  | j + 1, hj => fun i h => by
    have hn := (FZ.P (g := g) hk hg j (by omega)).n
    rw [fcP]
    unfold X7_init_m
    simp only [mm, true_and]
    by_cases e : i = j
    · subst e
      rw [if_pos rfl]
    · rw [if_neg e, if_neg (by omega)]
      exact fcP_Q hk hg j (by omega) i (by omega)
theorem fcH_Q2 (hk : gK m f = some (.inl 5)) (hg : gN m = f + 1) : ∀ j i, i < 8 → gQ (fcH g m f j) (f + 2) i = some (f + (i + 4))
  | 0, i, h => fcP_Q hk hg 8 (Nat.le_refl _) i h
  | j + 1, i, h => by
    have hn := (FZ.H (g := g) hk hg j).n
    rw [fcH]
    unfold X5_init_m
    simp only [mm]
    rw [if_neg (by omega), if_neg (by omega)]
    exact fcH_Q2 hk hg j i h
theorem fcH_Q3 (hk : gK m f = some (.inl 5)) (hg : gN m = f + 1) : ∀ j i, i < j → gQ (fcH g m f j) (f + 3) i = some (f + (i + 12))
  | 0, i, h => by omega
  | j + 1, i, h => by
    have hn := (FZ.H (g := g) hk hg j).n
    rw [fcH]
    unfold X5_init_m
    simp only [mm, true_and]
    by_cases e : i = j
    · subst e
      rw [if_pos rfl]
    · rw [if_neg e, if_neg (by omega)]
      exact fcH_Q3 hk hg j i (by omega)
theorem fi_K (hk : gK m f = some (.inl 5)) (hg : gN m = f + 1) {j : Nat} (hj : j < 15) : gK (X3_init_m g m f) (f + (j + 1)) = some (fcK j) := (FZ.H hk hg 4).kk hj
theorem fi_n (hk : gK m f = some (.inl 5)) (hg : gN m = f + 1) : gN (X3_init_m g m f) = f + 16 := (FZ.H hk hg 4).n
theorem fi_F (hk : gK m f = some (.inl 5)) (hg : gN m = f + 1) {a : Nat} (ha : a < f) : gK (X3_init_m g m f) a = gK m a ∧ mS m (X3_init_m g m f) a := (FZ.H hk hg 4).F ha
theorem fi_SF (hk : gK m f = some (.inl 5)) (hg : gN m = f + 1) : SF (X3_init_m g m f) f := by
  have hR := fcC_R (g := g) hk hg
  have q2 : ∀ i, i < 8 → gQ (X3_init_m g m f) (f + 2) i = some (f + 4 + i) := fun i h => by
    rw [show f + 4 + i = f + (i + 4) by omega]
    exact fcH_Q2 hk hg 4 i h
  have hpa : ∀ i, i < 8 → pa (X3_init_m g m f) f i = f + 4 + i := fun i h => by
    unfold pa
    rw [q2 i h]
    rfl
  refine ⟨(FZ.H hk hg 4).k, (fcH_R (g := g) hk hg (by omega) 4).trans hR.1, (fcH_R (g := g) hk hg (by omega) 4).trans hR.2.1, (fcH_R (g := g) hk hg (by omega) 4).trans hR.2.2, fi_K hk hg (j := 0) (by decide), fi_K hk hg (j := 1) (by decide), fi_K hk hg (j := 2) (by decide), fun i h => ?_, fun i h => ?_, fun i h => ?_, fun i h => ?_, fun i j hi hj e => ?_⟩
  · rw [show f + 4 + i = f + (i + 3 + 1) by omega, fi_K hk hg (by omega), fcK_p h]
  · rw [show f + 12 + i = f + (i + 11 + 1) by omega, fi_K hk hg (by omega), fcK_h]
  · rw [show f + 12 + i = f + (i + 12) by omega]
    exact fcH_Q3 hk hg 4 i h
  · rw [hpa i h]
    exact ⟨q2 i h, by omega, by omega⟩
  · rw [hpa i hi, hpa j hj] at e
    omega
theorem fcP_I (hk : gK m f = some (.inl 5)) (hg : gN m = f + 1) {ky a : Nat} (ha : a < f + 4) : ∀ j, j ≤ 8 → gI (fcP g m f j) ky a = gI (fcZ (fcC g m f) f) ky a ∧ gJ (fcP g m f j) ky a = gJ (fcZ (fcC g m f) f) ky a
  | 0, _ => ⟨rfl, rfl⟩
  | j + 1, hj => by
    have hn := (FZ.P (g := g) hk hg j (by omega)).n
    have ih := fcP_I hk hg (ky := ky) ha j (by omega)
    rw [fcP]
    unfold X7_init_m
    simp only [mm]
    repeat rw [if_neg (by omega)]
    exact ih
theorem fcH_I (hk : gK m f = some (.inl 5)) (hg : gN m = f + 1) {ky a : Nat} (ha : a < f + 4) : ∀ j, gI (fcH g m f j) ky a = gI (fcZ (fcC g m f) f) ky a ∧ gJ (fcH g m f j) ky a = gJ (fcZ (fcC g m f) f) ky a
  | 0 => fcP_I hk hg ha 8 (Nat.le_refl _)
  | j + 1 => by
    have hn := (FZ.H (g := g) hk hg j).n
    have ih := fcH_I hk hg (ky := ky) ha j
    rw [fcH]
    unfold X5_init_m
    simp only [mm]
    repeat rw [if_neg (by omega)]
    exact ih
/-- the numbers of a new forge -/
theorem fi_I (hk : gK m f = some (.inl 5)) (hg : gN m = f + 1) : (∀ ky, 163 ≤ ky → ky ≤ 170 → gI (X3_init_m g m f) ky f = 0) ∧ gJ (X3_init_m g m f) 171 f = 0 := by
  refine ⟨fun ky h1 h2 => (fcH_I (g := g) hk hg (by omega) 4).1.trans ?_, (fcH_I (g := g) hk hg (by omega) 4).2.trans ?_⟩
  · unfold fcZ
    simp only [mm, and_true]
    have : ky = 163 ∨ ky = 164 ∨ ky = 165 ∨ ky = 166 ∨ ky = 167 ∨ ky = 168 ∨ ky = 169 ∨ ky = 170 := by omega
    rcases this with q | q | q | q | q | q | q | q <;> subst q <;> simp
  · unfold fcZ
    simp [mm]
theorem fi_U (hk : gK m f = some (.inl 5)) (hg : gN m = f + 1) : gI (X3_init_m g m f) 192 (f + 1) = 20 ∧ gI (X3_init_m g m f) 193 (f + 1) = 0 ∧ gI (X3_init_m g m f) 194 (f + 1) = 20 ∧ gJ (X3_init_m g m f) 195 (f + 1) = 0 := by
  have hA := (FZ.A (g := g) hk hg).n
  have hB := (FZ.B (g := g) hk hg).n
  have h : ∀ ky, gI (X3_init_m g m f) ky (f + 1) = gI (fcZ (fcC g m f) f) ky (f + 1) ∧ gJ (X3_init_m g m f) ky (f + 1) = gJ (fcZ (fcC g m f) f) ky (f + 1) := fun ky => fcH_I (g := g) hk hg (by omega) 4
  have z : ∀ ky, gI (fcZ (fcC g m f) f) ky (f + 1) = gI (fcC g m f) ky (f + 1) ∧ gJ (fcZ (fcC g m f) f) ky (f + 1) = gJ (fcC g m f) ky (f + 1) := fun ky => by
    unfold fcZ
    simp only [mm]
    repeat rw [if_neg (by omega)]
    exact ⟨rfl, rfl⟩
  have c : ∀ ky, gI (fcC g m f) ky (f + 1) = gI (fcB g m f) ky (f + 1) ∧ gJ (fcC g m f) ky (f + 1) = gJ (fcB g m f) ky (f + 1) := fun ky => by
    unfold fcC
    simp only [mm]
    repeat rw [if_neg (by omega)]
    exact ⟨rfl, rfl⟩
  have b : ∀ ky, gI (fcB g m f) ky (f + 1) = gI (fcA g m f) ky (f + 1) ∧ gJ (fcB g m f) ky (f + 1) = gJ (fcA g m f) ky (f + 1) := fun ky => by
    unfold fcB
    simp only [mm]
    repeat rw [if_neg (by omega)]
    exact ⟨rfl, rfl⟩
  rw [(h 192).1, (h 193).1, (h 194).1, (h 195).2, (z 192).1, (z 193).1, (z 194).1, (z 195).2, (c 192).1, (c 193).1, (c 194).1, (c 195).2, (b 192).1, (b 193).1, (b 194).1, (b 195).2]
  unfold fcA X4_init_m
  simp [mm]
end
