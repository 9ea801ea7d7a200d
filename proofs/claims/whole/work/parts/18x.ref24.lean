/-! what the reference's constructor leaves -/
section
variable {g : mG} {m : mM} {r : Nat}
theorem ri_T (hk : gK m r = some (.inl 12)) (hg : gN m = r + 1) : RC m (rcT m r) r 11 := RC.T hk hg 13
theorem ri_SR (hk : gK m r = some (.inl 12)) (hg : gN m = r + 1) : SR (X11_init_m g m r) r := by
  have t := ri_T hk hg
  unfold SR X11_init_m
  simp only [mm]
  exact ⟨t.k, t.rr 0 (by decide), t.rr 1 (by decide), t.rr 2 (by decide), t.rr 3 (by decide), t.rr 4 (by decide), t.rr 5 (by decide), t.rr 6 (by decide), t.rr 7 (by decide), t.rr 8 (by decide), t.rr 9 (by decide), t.rr 10 (by decide), t.kk 0 (by decide), t.kk 1 (by decide), t.kk 2 (by decide), t.kk 3 (by decide), t.kk 4 (by decide), t.kk 5 (by decide), t.kk 6 (by decide), t.kk 7 (by decide), t.kk 8 (by decide), t.kk 9 (by decide), t.kk 10 (by decide)⟩
theorem ri_n (hk : gK m r = some (.inl 12)) (hg : gN m = r + 1) : gN (X11_init_m g m r) = r + 12 := by
  unfold X11_init_m
  simp only [mm]
  exact (ri_T hk hg).n
theorem ri_v (hk : gK m r = some (.inl 12)) (hg : gN m = r + 1) {i : Nat} : gA (X11_init_m g m r) (r + 1) i = if i = 4 then 1 else if i = 3 then 20 else if i = 1 then 20 else 0 := by
  have z := (ri_T hk hg).z 0 (by decide) (by decide) i
  unfold X11_init_m
  simp only [mm, true_and]
  by_cases e4 : i = 4
  · rw [if_pos e4, if_pos e4]
  · rw [if_neg e4, if_neg e4]
    by_cases e3 : i = 3
    · rw [if_pos e3, if_pos e3]
    · rw [if_neg e3, if_neg e3]
      by_cases e1 : i = 1
      · rw [if_pos e1, if_pos e1]
      · rw [if_neg e1, if_neg e1]
        exact z
theorem ri_z (hk : gK m r = some (.inl 12)) (hg : gN m = r + 1) {j q : Nat} (h1 : 1 ≤ j) (h9 : j < 9) : gA (X11_init_m g m r) (r + (j + 1)) q = 0 := by
  have z := (ri_T hk hg).z j (by omega) h9 q
  unfold X11_init_m
  simp only [mm]
  rw [if_neg (by omega), if_neg (by omega), if_neg (by omega)]
  exact z
theorem ri_I (hk : gK m r = some (.inl 12)) (hg : gN m = r + 1) {ky : Nat} : gI (X11_init_m g m r) ky r = if ky = 387 then -1 else if ky = 386 then -1 else gI m ky r := by
  have z := (ri_T hk hg).I ky
  unfold X11_init_m
  simp only [mm, and_true] at z ⊢
  exact z
theorem wrW_A : ∀ n j, j < n → gA (wrW m r n) (r + 10) j = wdC j := by
  intro n
  induction n with
  | zero => intro j h; omega
  | succ n ih =>
    intro j h
    rw [wrW]
    simp only [mm, true_and]
    by_cases e : j = n
    · rw [if_pos e, e]
    · rw [if_neg e]
      exact ih j (by omega)
theorem wrT_A (hk : gK m r = some (.inl 12)) (hg : gN m = r + 1) : ∀ n, (∀ j, j < n → gA (wrT m r n) (r + 11) j = nI (wdS j)) ∧ ∀ j, j < 66 → gA (wrT m r n) (r + 10) j = wdC j := by
  intro n
  induction n with
  | zero =>
    refine ⟨fun j h => by omega, fun j h => ?_⟩
    have hn := rcW_n hk hg
    rw [wrT]
    simp only [mm]
    rw [if_neg (by omega)]
    unfold rcW
    simp only [mm]
    exact wrW_A 66 j h
  | succ n ih =>
    refine ⟨fun j h => ?_, fun j h => ?_⟩
    · rw [wrT]
      simp only [mm, true_and]
      by_cases e : j = n
      · rw [if_pos e, e]
      · rw [if_neg e]
        exact ih.1 j (by omega)
    · rw [wrT]
      simp only [mm]
      rw [if_neg (by omega)]
      exact ih.2 j h
theorem ri_WD (hk : gK m r = some (.inl 12)) (hg : gN m = r + 1) : WD (X11_init_m g m r) r := by
  have t := wrT_A hk hg 13
  refine ⟨fun j h => ?_, fun j h => ?_⟩
  · unfold X11_init_m rcT
    simp only [mm]
    rw [if_neg (by omega), if_neg (by omega), if_neg (by omega)]
    exact t.2 j h
  · unfold X11_init_m rcT
    simp only [mm]
    rw [if_neg (by omega), if_neg (by omega), if_neg (by omega)]
    exact t.1 j h
end
