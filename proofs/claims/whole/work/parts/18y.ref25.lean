section
variable {g : mG} {m M : mM} {r a : Nat}
theorem ri_F0 (h1 : gK M a = gK m a) (h2 : mS m M a) (ha : a < r) : gK (sA (sA (sA M (r + 1) 1 20) (r + 1) 3 20) (r + 1) 4 1) a = gK m a ∧ mS m (sA (sA (sA M (r + 1) 1 20) (r + 1) 3 20) (r + 1) 4 1) a :=
  ⟨h1, mS_tr h2 (mS_tr (mS_tr (mS_A (by omega)) (mS_A (by omega))) (mS_A (by omega)))⟩
theorem ri_F1 (hk : gK m r = some (.inl 12)) (hg : gN m = r + 1) (ha : a < r) : gK (rcT m r) a = gK m a ∧ mS m (rcT m r) a := RC.F (ri_T hk hg) a ha
theorem ri_F (hk : gK m r = some (.inl 12)) (hg : gN m = r + 1) (ha : a < r) : gK (X11_init_m g m r) a = gK m a ∧ mS m (X11_init_m g m r) a := by
  unfold X11_init_m
  exact ri_F0 (ri_F1 hk hg ha).1 (ri_F1 hk hg ha).2 ha
end
