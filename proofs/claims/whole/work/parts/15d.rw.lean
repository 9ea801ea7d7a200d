/-- which command lies at an address -/
def cmI (g : mG) (q : Nat) : Nat := ((List.range 12).find? (fun j => cmA g j == q)).getD 0
theorem cmI_at {g : mG} {j : Nat} (hj : j < 12) : cmA g (cmI g (cmA g j)) = cmA g j ∧ cmI g (cmA g j) < 12 := by
  unfold cmI
  cases h : (List.range 12).find? (fun k => cmA g k == cmA g j) with
  | none =>
    have h1 := List.find?_eq_none.mp h j (List.mem_range.mpr hj)
    simp at h1
  | some k =>
    have h1 := List.find?_some h
    have h2 := List.mem_range.mp (List.mem_of_find?_eq_some h)
    exact ⟨by simpa using h1, h2⟩
theorem rw_l {g : mG} {p q : Nat} : ∀ (n j : Nat) (s : Int32) (m : mM), j + n = 12 → (X8_readWord_l1 g p n j s m).1 = some q → ∃ k, k < 12 ∧ q = cmA g k := by
  intro n
  induction n with
  | zero => intro j s m hj h; rw [X8_readWord_l1] at h; cases h
  | succ n ih =>
    intro j s m hj h
    rw [X8_readWord_l1] at h
    split at h
    · exact ⟨j, by omega, (Option.some.inj h).symm⟩
    · exact ih (j + 1) _ _ (by omega) h
theorem rw_some {g : mG} {m : mM} {p q : Nat} (h : X8_readWord_r g m p = some q) : cmA g (cmI g q) = q ∧ cmI g q < 12 := by
  obtain ⟨k, h1, rfl⟩ := rw_l 12 0 _ m (by omega) h
  exact cmI_at h1
