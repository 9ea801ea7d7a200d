/-! THE LINE OF THE FURNACE: THE REFERENCE -/
def rfL (w : Nat → Int32) : Nat → Nat → List Int32
  | 0, _ => []
  | n + 1, j => (if w (8 * j + 18) = 0 then [] else [32] ++ dl (w (8 * j + 13)).toNatClampNeg) ++ rfL w n (j + 1)
section
variable {g : mG} {mc mr m m1 M R : mM} {b r T L N H i : Nat}
theorem rf_l {m0 : mM} : ∀ (n j : Nat) (M : mM) (L : List Int32), LR m0 M r L → L.length + 5 * inW (gA m0 (r + 1)) n j ≤ 40 → (∀ i, j ≤ i → i < j + n → (gA m0 (r + 1) (8 * i + 13)).toNatClampNeg < 10000) → LR m0 (X11_writeFurnace_l1 g r N n j M).2 r (L ++ rfL (gA m0 (r + 1)) n j) ∧ (X11_writeFurnace_l1 g r N n j M).1 = gI (X11_writeFurnace_l1 g r N n j M).2 403 r
  | 0, j, M, L, h, hl, hn => by
    rw [X11_writeFurnace_l1, rfL, List.append_nil]
    exact ⟨h, rfl⟩
  | n + 1, j, M, L, h, hl, hn => by
    have e18 : gA M (r + 1) (8 * j + 18) = gA m0 (r + 1) (8 * j + 18) := h.A (by omega)
    have e13 : gA M (r + 1) (8 * j + 13) = gA m0 (r + 1) (8 * j + 13) := h.A (by omega)
    rw [X11_writeFurnace_l1, rfL, e18, e13]
    rw [inW] at hl
    by_cases c : gA m0 (r + 1) (8 * j + 18) = 0
    · rw [if_pos c] at hl
      rw [if_pos c, if_pos c, List.nil_append]
      exact rf_l n (j + 1) M L h (by omega) (fun i h1 h2 => hn i (by omega) (by omega))
    · rw [if_neg c] at hl
      rw [if_neg c, if_neg c]
      have d := digs_le (gA m0 (r + 1) (8 * j + 13)).toNatClampNeg
      have k1 := h.w (g := g) (a := 32) (by omega)
      have k2 := k1.n (g := g) (x := (gA m0 (r + 1) (8 * j + 13)).toNatClampNeg) (hn j (Nat.le_refl _) (by omega)) (by simp only [List.length_append, List.length_cons, List.length_nil]; omega)
      have ih := rf_l n (j + 1) _ _ k2 (by simp only [List.length_append, List.length_cons, List.length_nil, dl_len]; omega) (fun i h1 h2 => hn i (by omega) (by omega))
      rw [show L ++ ([32] ++ dl (gA m0 (r + 1) (8 * j + 13)).toNatClampNeg ++ rfL (gA m0 (r + 1)) n (j + 1)) = L ++ [32] ++ dl (gA m0 (r + 1) (8 * j + 13)).toNatClampNeg ++ rfL (gA m0 (r + 1)) n (j + 1) by simp]
      exact ih
end
