theorem fd_l {g : mG} {m : mM} {r N : Nat} {a : Int32} : ∀ (n j : Nat), j + n = N → (∃ i, X11_find_l1 g m r a N n j = nI i ∧ j ≤ i ∧ i < N ∧ gA m (r + 1) (8 * i + 13) = a ∧ ∀ k, j ≤ k → k < i → gA m (r + 1) (8 * k + 13) ≠ a) ∨ (X11_find_l1 g m r a N n j = -1 ∧ ∀ k, j ≤ k → k < N → gA m (r + 1) (8 * k + 13) ≠ a) := by
  intro n
  induction n with
  | zero =>
    intro j hj
    rw [X11_find_l1]
    exact Or.inr ⟨rfl, fun k h1 h2 => by omega⟩
  | succ n ih =>
    intro j hj
    rw [X11_find_l1]
    by_cases c : gA m (r + 1) (8 * j + 13) = a
    · rw [if_pos c]
      exact Or.inl ⟨j, rfl, Nat.le_refl _, by omega, c, fun k h1 h2 => by omega⟩
    · rw [if_neg c]
      rcases ih (j + 1) (by omega) with ⟨i, h1, h2, h3, h4, h5⟩ | ⟨h1, h2⟩
      · refine Or.inl ⟨i, h1, by omega, h3, h4, fun k h6 h7 => ?_⟩
        by_cases e : k = j
        · subst e; exact c
        · exact h5 k (by omega) h7
      · refine Or.inr ⟨h1, fun k h3 h4 => ?_⟩
        by_cases e : k = j
        · subst e; exact c
        · exact h2 k (by omega) h4
/-- what the reference's find answers -/
theorem fd_at {g : mG} {m : mM} {r N : Nat} {a : Int32} : (∃ i, X11_find_r g m r a N = nI i ∧ i < N ∧ gA m (r + 1) (8 * i + 13) = a ∧ ∀ k, k < i → gA m (r + 1) (8 * k + 13) ≠ a) ∨ (X11_find_r g m r a N = -1 ∧ ∀ k, k < N → gA m (r + 1) (8 * k + 13) ≠ a) := by
  rcases fd_l (g := g) (m := m) (r := r) (a := a) (N := N) N 0 (by omega) with ⟨i, h1, h2, h3, h4, h5⟩ | ⟨h1, h2⟩
  · exact Or.inl ⟨i, h1, h3, h4, fun k hk => h5 k (Nat.zero_le _) hk⟩
  · exact Or.inr ⟨h1, fun k hk => h2 k (Nat.zero_le _) hk⟩
theorem fd_ge {g : mG} {m : mM} {r N : Nat} {a : Int32} (hN8 : N ≤ 8) (h : 0 ≤ X11_find_r g m r a N) : okI (X11_find_r g m r a N) 7 ∧ (X11_find_r g m r a N).toNatClampNeg < N ∧ gA m (r + 1) (8 * (X11_find_r g m r a N).toNatClampNeg + 13) = a := by
  rcases fd_at (g := g) (m := m) (r := r) (a := a) (N := N) with ⟨i, h1, h2, h3, -⟩ | ⟨h1, -⟩
  · rw [h1, nI_clamp (by omega)]
    exact ⟨okI_nI (by omega) (by decide), h2, h3⟩
  · rw [h1] at h
    exact absurd h (by decide)
theorem fd_lt {g : mG} {m : mM} {r N : Nat} {a : Int32} (hN8 : N ≤ 8) (h : ¬ X11_find_r g m r a N < 0) : okI (X11_find_r g m r a N) 7 ∧ (X11_find_r g m r a N).toNatClampNeg < N ∧ gA m (r + 1) (8 * (X11_find_r g m r a N).toNatClampNeg + 13) = a := fd_ge hN8 (Int32.not_lt.mp h)
/-- a piece with the number x is there -/
def hasR (m : mM) (r N : Nat) (x : Int32) : Prop := ∃ i, i < N ∧ gA m (r + 1) (8 * i + 13) = x
theorem fd_has {g : mG} {m : mM} {r N : Nat} {a : Int32} (hN8 : N ≤ 8) (h : hasR m r N a) : okI (X11_find_r g m r a N) 7 ∧ (X11_find_r g m r a N).toNatClampNeg < N ∧ gA m (r + 1) (8 * (X11_find_r g m r a N).toNatClampNeg + 13) = a := by
  rcases fd_at (g := g) (m := m) (r := r) (a := a) (N := N) with ⟨i, h1, h2, h3, -⟩ | ⟨-, h1⟩
  · rw [h1, nI_clamp (by omega)]
    exact ⟨okI_nI (by omega) (by decide), h2, h3⟩
  · obtain ⟨i, h2, h3⟩ := h
    exact absurd h3 (h1 i h2)
theorem go_l {g : mG} {r : Nat} {a : Int32} : ∀ (n j : Nat) (m : mM), 13 ≤ j → j + n = 77 → (∀ k, 6 ≤ k → gA (X11_goes_l1 g r a n j m) (r + 1) k = if k < j then gA m (r + 1) k else if k < 69 then gA m (r + 1) (k + 8) else if k < 77 then 0 else gA m (r + 1) k) ∧ gA (X11_goes_l1 g r a n j m) (r + 1) 5 = gA m (r + 1) 5 - 1 ∧ ∀ k, k < 5 → gA (X11_goes_l1 g r a n j m) (r + 1) k = gA m (r + 1) k := by
  intro n
  induction n with
  | zero =>
    intro j m h13 hj
    rw [X11_goes_l1]
    refine ⟨fun k hk => ?_, gA_y, fun k hk => gA_n (by omega)⟩
    rw [gA_n (by omega)]
    by_cases c : k < j
    · rw [if_pos c]
    · rw [if_neg c, if_neg (by omega), if_neg (by omega)]
  | succ n ih =>
    intro j m h13 hj
    rw [X11_goes_l1]
    by_cases c : (77 : Int32) ≤ nI j + 8
    · rw [if_pos c]
      have hj69 : 69 ≤ j := by
        have c2 : nI 77 ≤ nI (j + 8) := by rw [← nI_add]; exact c
        have := (nI_leI (by decide) (by omega)).mp c2
        omega
      obtain ⟨h1, h2, h3⟩ := ih (j + 1) (sA m (r + 1) j 0) (by omega) (by omega)
      refine ⟨fun k hk => ?_, by rw [h2, gA_n (by omega)], fun k hk => by rw [h3 k hk, gA_n (by omega)]⟩
      rw [h1 k hk]
      by_cases e : k = j
      · subst e
        rw [if_pos (by omega), if_neg (by omega), if_neg (by omega), if_pos (by omega)]
        exact gA_y
      · by_cases c3 : k < j
        · rw [if_pos (by omega), if_pos c3, gA_n (by omega)]
        · rw [if_neg (by omega), if_neg c3]
          by_cases c4 : k < 69
          · omega
          · rw [if_neg c4, if_neg c4]
            by_cases c5 : k < 77
            · rw [if_pos c5, if_pos c5]
            · rw [if_neg c5, if_neg c5, gA_n (by omega)]
    · rw [if_neg c]
      have hj69 : j < 69 := by
        rcases Nat.lt_or_ge j 69 with q | q
        · exact q
        · refine absurd ?_ c
          rw [show nI j + 8 = nI (j + 8) from nI_add j 8]
          exact nI_le (a := 77) (by omega) (by omega)
      obtain ⟨h1, h2, h3⟩ := ih (j + 1) (sA m (r + 1) j (gA m (r + 1) (j + 8))) (by omega) (by omega)
      refine ⟨fun k hk => ?_, by rw [h2, gA_n (by omega)], fun k hk => by rw [h3 k hk, gA_n (by omega)]⟩
      rw [h1 k hk]
      by_cases e : k = j
      · subst e
        rw [if_pos (by omega), if_neg (by omega), if_pos hj69]
        exact gA_y
      · by_cases c3 : k < j
        · rw [if_pos (by omega), if_pos c3, gA_n (by omega)]
        · rw [if_neg (by omega), if_neg c3]
          by_cases c4 : k < 69
          · rw [if_pos c4, if_pos c4, gA_n (by omega)]
          · rw [if_neg c4, if_neg c4]
            by_cases c5 : k < 77
            · rw [if_pos c5, if_pos c5]
            · rw [if_neg c5, if_neg c5, gA_n (by omega)]
theorem go_at {g : mG} {m : mM} {r : Nat} {a : Int32} (ha : a.toNatClampNeg ≤ 7) : (∀ k, 6 ≤ k → gA (X11_goes_m g m r a) (r + 1) k = if k < 8 * a.toNatClampNeg + 13 then gA m (r + 1) k else if k < 69 then gA m (r + 1) (k + 8) else if k < 77 then 0 else gA m (r + 1) k) ∧ gA (X11_goes_m g m r a) (r + 1) 5 = gA m (r + 1) 5 - 1 ∧ ∀ k, k < 5 → gA (X11_goes_m g m r a) (r + 1) k = gA m (r + 1) k := go_l _ _ m (by omega) (by omega)
theorem go_N {g : mG} {m : mM} {r N : Nat} {a : Int32} (ha : a.toNatClampNeg ≤ 7) (hN : gA m (r + 1) 5 = nI N) (h1 : 1 ≤ N) : gA (X11_goes_m g m r a) (r + 1) 5 = nI (N - 1) := by
  rw [(go_at ha).2.1, hN]
  exact sub_nI h1
theorem go_has {g : mG} {m : mM} {r N : Nat} {a x y : Int32} (hN8 : N ≤ 8) (ha : a.toNatClampNeg < N) (hy : gA m (r + 1) (8 * a.toNatClampNeg + 13) = y) (hxy : x ≠ y) (h : hasR m r N x) : hasR (X11_goes_m g m r a) r (N - 1) x := by
  obtain ⟨i, h1, h2⟩ := h
  have h3 := (go_at (g := g) (m := m) (r := r) (a := a) (by omega)).1
  by_cases c : i < a.toNatClampNeg
  · refine ⟨i, by omega, ?_⟩
    rw [h3 _ (by omega), if_pos (by omega)]
    exact h2
  · have c2 : i ≠ a.toNatClampNeg := fun e => by subst e; exact hxy (h2.symm.trans hy)
    refine ⟨i - 1, by omega, ?_⟩
    rw [h3 _ (by omega), if_neg (by omega), if_pos (by omega), show 8 * (i - 1) + 13 + 8 = 8 * i + 13 by omega]
    exact h2
theorem join_ok {g : mG} {m : mM} {r N : Nat} {a b c d : Int32} (hN : gA m (r + 1) 5 = nI N) (hN8 : N ≤ 8) (oa : okI (X11_find_r g m r a N) 7 ∧ (X11_find_r g m r a N).toNatClampNeg < N ∧ gA m (r + 1) (8 * (X11_find_r g m r a N).toNatClampNeg + 13) = a) (ob : okI (X11_find_r g m r b N) 7 ∧ (X11_find_r g m r b N).toNatClampNeg < N ∧ gA m (r + 1) (8 * (X11_find_r g m r b N).toNatClampNeg + 13) = b) (oc : okI (X11_find_r g m r c N) 7 ∧ (X11_find_r g m r c N).toNatClampNeg < N ∧ gA m (r + 1) (8 * (X11_find_r g m r c N).toNatClampNeg + 13) = c) (od : okI (X11_find_r g m r d N) 7 ∧ (X11_find_r g m r d N).toNatClampNeg < N ∧ gA m (r + 1) (8 * (X11_find_r g m r d N).toNatClampNeg + 13) = d) (k1 : gA m (r + 1) (8 * (X11_find_r g m r a N).toNatClampNeg + 14) = 98) (k2 : gA m (r + 1) (8 * (X11_find_r g m r b N).toNatClampNeg + 14) = 110) (k3 : gA m (r + 1) (8 * (X11_find_r g m r c N).toNatClampNeg + 14) = 119) (k4 : gA m (r + 1) (8 * (X11_find_r g m r d N).toNatClampNeg + 14) = 119) (k5 : ¬ (X11_find_r g m r c N) = (X11_find_r g m r d N)) :
    4 ≤ N ∧ (okI (X11_find_r g (X11_goes_m g m r (X11_find_r g m r a N)) r b (N - 1)) 7 ∧ (X11_find_r g (X11_goes_m g m r (X11_find_r g m r a N)) r b (N - 1)).toNatClampNeg < N - 1) ∧ (okI (X11_find_r g (X11_goes_m g (X11_goes_m g m r (X11_find_r g m r a N)) r (X11_find_r g (X11_goes_m g m r (X11_find_r g m r a N)) r b (N - 1))) r c (N - 2)) 7 ∧ (X11_find_r g (X11_goes_m g (X11_goes_m g m r (X11_find_r g m r a N)) r (X11_find_r g (X11_goes_m g m r (X11_find_r g m r a N)) r b (N - 1))) r c (N - 2)).toNatClampNeg < N - 2) ∧ (okI (X11_find_r g (X11_goes_m g (X11_goes_m g (X11_goes_m g m r (X11_find_r g m r a N)) r (X11_find_r g (X11_goes_m g m r (X11_find_r g m r a N)) r b (N - 1))) r (X11_find_r g (X11_goes_m g (X11_goes_m g m r (X11_find_r g m r a N)) r (X11_find_r g (X11_goes_m g m r (X11_find_r g m r a N)) r b (N - 1))) r c (N - 2))) r d (N - 3)) 7 ∧ (X11_find_r g (X11_goes_m g (X11_goes_m g (X11_goes_m g m r (X11_find_r g m r a N)) r (X11_find_r g (X11_goes_m g m r (X11_find_r g m r a N)) r b (N - 1))) r (X11_find_r g (X11_goes_m g (X11_goes_m g m r (X11_find_r g m r a N)) r (X11_find_r g (X11_goes_m g m r (X11_find_r g m r a N)) r b (N - 1))) r c (N - 2))) r d (N - 3)).toNatClampNeg < N - 3) ∧ gA (X11_goes_m g m r (X11_find_r g m r a N)) (r + 1) 5 = nI (N - 1) ∧ gA (X11_goes_m g (X11_goes_m g m r (X11_find_r g m r a N)) r (X11_find_r g (X11_goes_m g m r (X11_find_r g m r a N)) r b (N - 1))) (r + 1) 5 = nI (N - 2) ∧ gA (X11_goes_m g (X11_goes_m g (X11_goes_m g m r (X11_find_r g m r a N)) r (X11_find_r g (X11_goes_m g m r (X11_find_r g m r a N)) r b (N - 1))) r (X11_find_r g (X11_goes_m g (X11_goes_m g m r (X11_find_r g m r a N)) r (X11_find_r g (X11_goes_m g m r (X11_find_r g m r a N)) r b (N - 1))) r c (N - 2))) (r + 1) 5 = nI (N - 3) := by
  have nab : b ≠ a := fun e => by subst e; exact absurd (k1.symm.trans k2) (by decide)
  have nac : c ≠ a := fun e => by subst e; exact absurd (k1.symm.trans k3) (by decide)
  have nad : d ≠ a := fun e => by subst e; exact absurd (k1.symm.trans k4) (by decide)
  have nbc : c ≠ b := fun e => by subst e; exact absurd (k2.symm.trans k3) (by decide)
  have nbd : d ≠ b := fun e => by subst e; exact absurd (k2.symm.trans k4) (by decide)
  have ncd : d ≠ c := fun e => by subst e; exact k5 rfl
  have hb0 : hasR m r N b := ⟨_, ob.2.1, ob.2.2⟩
  have hc0 : hasR m r N c := ⟨_, oc.2.1, oc.2.2⟩
  have hd0 : hasR m r N d := ⟨_, od.2.1, od.2.2⟩
  have a7 := oa.1.2
  have aN := oa.2.1
  have n1 := go_N (g := g) a7 hN (by omega)
  have hb1 := go_has (g := g) hN8 oa.2.1 oa.2.2 nab hb0
  have hc1 := go_has (g := g) hN8 oa.2.1 oa.2.2 nac hc0
  have hd1 := go_has (g := g) hN8 oa.2.1 oa.2.2 nad hd0
  generalize (X11_goes_m g m r (X11_find_r g m r a N)) = M1 at *
  have o1 := fd_has (g := g) (show N - 1 ≤ 8 by omega) hb1
  have o17 := o1.1.2
  have o1N := o1.2.1
  have n2 := go_N (g := g) o17 n1 (by omega)
  have hc2 := go_has (g := g) (show N - 1 ≤ 8 by omega) o1.2.1 o1.2.2 nbc hc1
  have hd2 := go_has (g := g) (show N - 1 ≤ 8 by omega) o1.2.1 o1.2.2 nbd hd1
  rw [show N - 1 - 1 = N - 2 by omega] at n2 hc2 hd2
  generalize hM2 : X11_goes_m g M1 r (X11_find_r g M1 r b (N - 1)) = M2 at *
  have o2 := fd_has (g := g) (show N - 2 ≤ 8 by omega) hc2
  have o27 := o2.1.2
  have o2N := o2.2.1
  have n3 := go_N (g := g) o27 n2 (by omega)
  have hd3 := go_has (g := g) (show N - 2 ≤ 8 by omega) o2.2.1 o2.2.2 ncd hd2
  rw [show N - 2 - 1 = N - 3 by omega] at n3 hd3
  have o3 := fd_has (g := g) (show N - 3 ≤ 8 by omega) hd3
  have o3N := o3.2.1
  exact ⟨by omega, ⟨o1.1, o1.2.1⟩, ⟨o2.1, o2.2.1⟩, ⟨o3.1, o3.2.1⟩, n1, n2, n3⟩
theorem it_x {α β : Type} {c : Prop} [Decidable c] (f : α → β) {a b : α} {y : β} (h1 : f a = y) (h2 : f b = y) : f (if c then a else b) = y := by
  split
  · exact h1
  · exact h2
def X11_joins_r (g : mG) (m : mM) (r : Nat) (a : Int32) (b : Int32) (c : Int32) (d : Int32) (N : Nat) : Int32 := if (X11_find_r g m r a N) < 0 then 0 else (if (X11_find_r g m r b N) < 0 then 0 else (if (X11_find_r g m r c N) < 0 then 0 else (if 0 ≤ (X11_find_r g m r d N) then (if (gA m (r + 1) (8 * ((X11_find_r g m r a N).toNatClampNeg) + 14)) = 98 then (if (gA m (r + 1) (8 * ((X11_find_r g m r b N).toNatClampNeg) + 14)) = 110 then (if (gA m (r + 1) (8 * ((X11_find_r g m r c N).toNatClampNeg) + 14)) = 119 then (if (gA m (r + 1) (8 * ((X11_find_r g m r d N).toNatClampNeg) + 14)) = 119 then (if (X11_find_r g m r c N) = (X11_find_r g m r d N) then 0 else (if (X11_isReady_r g m r (X11_find_r g m r a N) ) = 0 then 0 else (if (X11_isReady_r g m r (X11_find_r g m r b N) ) = 0 then 0 else (if (X11_isReady_r g m r (X11_find_r g m r c N) ) = 0 then 0 else (if (X11_isReady_r g m r (X11_find_r g m r d N) ) = 0 then 0 else ((gA (X11_goes_m g (X11_goes_m g (X11_goes_m g (X11_goes_m g m r (X11_find_r g m r a N)) r (X11_find_r g (X11_goes_m g m r (X11_find_r g m r a N)) r b (N - 1))) r (X11_find_r g (X11_goes_m g (X11_goes_m g m r (X11_find_r g m r a N)) r (X11_find_r g (X11_goes_m g m r (X11_find_r g m r a N)) r b (N - 1))) r c (N - 2))) r (X11_find_r g (X11_goes_m g (X11_goes_m g (X11_goes_m g m r (X11_find_r g m r a N)) r (X11_find_r g (X11_goes_m g m r (X11_find_r g m r a N)) r b (N - 1))) r (X11_find_r g (X11_goes_m g (X11_goes_m g m r (X11_find_r g m r a N)) r (X11_find_r g (X11_goes_m g m r (X11_find_r g m r a N)) r b (N - 1))) r c (N - 2))) r d (N - 3))) (r + 1) 8) + 1)))))) else 0) else 0) else 0) else 0) else 0)))
def X11_joins_m (g : mG) (m : mM) (r : Nat) (a : Int32) (b : Int32) (c : Int32) (d : Int32) (N : Nat) : mM := if (X11_find_r g m r a N) < 0 then ((sI m 384 r 1)) else (if (X11_find_r g m r b N) < 0 then ((sI m 384 r 1)) else (if (X11_find_r g m r c N) < 0 then ((sI m 384 r 1)) else (if 0 ≤ (X11_find_r g m r d N) then (if (gA m (r + 1) (8 * ((X11_find_r g m r a N).toNatClampNeg) + 14)) = 98 then (if (gA m (r + 1) (8 * ((X11_find_r g m r b N).toNatClampNeg) + 14)) = 110 then (if (gA m (r + 1) (8 * ((X11_find_r g m r c N).toNatClampNeg) + 14)) = 119 then (if (gA m (r + 1) (8 * ((X11_find_r g m r d N).toNatClampNeg) + 14)) = 119 then (if (X11_find_r g m r c N) = (X11_find_r g m r d N) then ((sI m 384 r 2)) else (if (X11_isReady_r g m r (X11_find_r g m r a N) ) = 0 then ((sI m 384 r 3)) else (if (X11_isReady_r g m r (X11_find_r g m r b N) ) = 0 then ((sI m 384 r 3)) else (if (X11_isReady_r g m r (X11_find_r g m r c N) ) = 0 then ((sI m 384 r 3)) else (if (X11_isReady_r g m r (X11_find_r g m r d N) ) = 0 then ((sI m 384 r 3)) else ((sA (X11_goes_m g ((X11_goes_m g ((X11_goes_m g ((X11_goes_m g m r (X11_find_r g m r a N) )) r (X11_find_r g ((X11_goes_m g m r (X11_find_r g m r a N) )) r b ((N - 1))) )) r (X11_find_r g ((X11_goes_m g ((X11_goes_m g m r (X11_find_r g m r a N) )) r (X11_find_r g ((X11_goes_m g m r (X11_find_r g m r a N) )) r b ((N - 1))) )) r c ((N - 2))) )) r (X11_find_r g ((X11_goes_m g ((X11_goes_m g ((X11_goes_m g m r (X11_find_r g m r a N) )) r (X11_find_r g ((X11_goes_m g m r (X11_find_r g m r a N) )) r b ((N - 1))) )) r (X11_find_r g ((X11_goes_m g ((X11_goes_m g m r (X11_find_r g m r a N) )) r (X11_find_r g ((X11_goes_m g m r (X11_find_r g m r a N) )) r b ((N - 1))) )) r c ((N - 2))) )) r d ((N - 3))) ) (r + 1) 8 ((gA ((X11_goes_m g (X11_goes_m g (X11_goes_m g (X11_goes_m g m r (X11_find_r g m r a N)) r (X11_find_r g (X11_goes_m g m r (X11_find_r g m r a N)) r b (N - 1))) r (X11_find_r g (X11_goes_m g (X11_goes_m g m r (X11_find_r g m r a N)) r (X11_find_r g (X11_goes_m g m r (X11_find_r g m r a N)) r b (N - 1))) r c (N - 2))) r (X11_find_r g (X11_goes_m g (X11_goes_m g (X11_goes_m g m r (X11_find_r g m r a N)) r (X11_find_r g (X11_goes_m g m r (X11_find_r g m r a N)) r b (N - 1))) r (X11_find_r g (X11_goes_m g (X11_goes_m g m r (X11_find_r g m r a N)) r (X11_find_r g (X11_goes_m g m r (X11_find_r g m r a N)) r b (N - 1))) r c (N - 2))) r d (N - 3)))) (r + 1) (8)) + 1)))))))) else ((sI m 384 r 2))) else ((sI m 384 r 2))) else ((sI m 384 r 2))) else ((sI m 384 r 2))) else ((sI m 384 r 1)))))
theorem kK_X11_joins (g : mG) (m : mM) (r : Nat) (a : Int32) (b : Int32) (c : Int32) (d : Int32) (N : Nat) : gK (X11_joins_m g m r a b c d N) = gK m := by
  unfold X11_joins_m
  repeat' with_reducible refine it_x gK ?_ ?_
  all_goals simp only [mm, kK_X11_goes]
theorem kN_X11_joins (g : mG) (m : mM) (r : Nat) (a : Int32) (b : Int32) (c : Int32) (d : Int32) (N : Nat) : gN (X11_joins_m g m r a b c d N) = gN m := by
  unfold X11_joins_m
  repeat' with_reducible refine it_x gN ?_ ?_
  all_goals simp only [mm, kN_X11_goes]
theorem kI_X11_joins (g : mG) (m : mM) (r : Nat) (a : Int32) (b : Int32) (c : Int32) (d : Int32) (N : Nat) (k a9 : Nat) (h0 : k ≠ 384) : gI (X11_joins_m g m r a b c d N) k a9 = gI m k a9 := by
  unfold X11_joins_m
  repeat' with_reducible refine it_x (fun q => gI q k a9) ?_ ?_
  all_goals simp [mm, kI_X11_goes, h0]
theorem kJ_X11_joins (g : mG) (m : mM) (r : Nat) (a : Int32) (b : Int32) (c : Int32) (d : Int32) (N : Nat) : gJ (X11_joins_m g m r a b c d N) = gJ m := by
  unfold X11_joins_m
  repeat' with_reducible refine it_x gJ ?_ ?_
  all_goals simp only [mm, kJ_X11_goes]
theorem kR_X11_joins (g : mG) (m : mM) (r : Nat) (a : Int32) (b : Int32) (c : Int32) (d : Int32) (N : Nat) : gR (X11_joins_m g m r a b c d N) = gR m := by
  unfold X11_joins_m
  repeat' with_reducible refine it_x gR ?_ ?_
  all_goals simp only [mm, kR_X11_goes]
theorem kQ_X11_joins (g : mG) (m : mM) (r : Nat) (a : Int32) (b : Int32) (c : Int32) (d : Int32) (N : Nat) : gQ (X11_joins_m g m r a b c d N) = gQ m := by
  unfold X11_joins_m
  repeat' with_reducible refine it_x gQ ?_ ?_
  all_goals simp only [mm, kQ_X11_goes]
theorem kL_X11_joins (g : mG) (m : mM) (r : Nat) (a : Int32) (b : Int32) (c : Int32) (d : Int32) (N : Nat) : gL (X11_joins_m g m r a b c d N) = gL m := by
  unfold X11_joins_m
  repeat' with_reducible refine it_x gL ?_ ?_
  all_goals simp only [mm, kL_X11_goes]
theorem kD_X11_joins (g : mG) (m : mM) (r : Nat) (a : Int32) (b : Int32) (c : Int32) (d : Int32) (N : Nat) : gD (X11_joins_m g m r a b c d N) = gD m := by
  unfold X11_joins_m
  repeat' with_reducible refine it_x gD ?_ ?_
  all_goals simp only [mm, kD_X11_goes]
theorem kA_X11_joins (g : mG) (m : mM) (r : Nat) (a : Int32) (b : Int32) (c : Int32) (d : Int32) (N : Nat) (c9 i9 : Nat) (h0 : c9 ≠ r + 1) : gA (X11_joins_m g m r a b c d N) c9 i9 = gA m c9 i9 := by
  unfold X11_joins_m
  repeat' with_reducible refine it_x (fun q => gA q c9 i9) ?_ ?_
  all_goals simp [mm, kA_X11_goes, h0]
set_option maxHeartbeats 4000000 in
set_option maxRecDepth 100000 in
theorem c_X11_joins {l : Launch} {g : mG} (hO : mO l g) (m : mM) (r : Nat) (a : Int32) (b : Int32) (c : Int32) (d : Int32) (N : Nat) (hs : SR m r) (hN : gA m (r + 1) 5 = nI N) (hN8 : N ≤ 8) : mT l g yX11_joins (.code yX11_joins cX11_joins 9 (Option.some FieldType.int)) 3 63 0 0 [.ref r, .int a, .int b, .int c, .int d] m (fun u m' => u = some (.int (X11_joins_r g m r a b c d N)) ∧ m' = X11_joins_m g m r a b c d N) nX := by
  refine mT_of hO (by decide) (Nat.le_of_ble_eq_true rfl) (fun x hX hZ => ?_)
  show mV g x m 0 0 0 [(0, .ref r), (1, .int a), (2, .int b), (3, .int c), (4, .int d)] []
  refine v_aload_n (pc := 0) hX dX11_joins_0 rfl ?_
  refine v_iload_n (pc := 1) hX dX11_joins_1 rfl ?_
  refine v_callV (z := yX11_find) (pc := 2) hX dX11_joins_2 (c_X11_find hO m r a N hs hN hN8) hs.k rfl wd_1652 wd_1654 wp_26 wd_16 wd_1655 ⟨by decide, by decide, (by decide +kernel : (parseMethodDescriptor yX11_find.desc).map (fun d => d.parameters.length) = some 1)⟩ rfl (Nat.le_of_ble_eq_true rfl) ⟨⟨by decide, by decide⟩, by decide, by decide⟩ (fun E m9 h9 => h9.elim) (fun r9 m9 h9 => ?_)
  obtain ⟨rfl, h8⟩ := h9
  replace h8 := h8.symm
  subst h8
  show mV g x _ _ _ _ _ [.int (X11_find_r g m r a N)]
  refine v_istore (pc := 5) hX dX11_joins_5 (by decide) rfl ?_
  refine v_aload_n (pc := 7) hX dX11_joins_7 rfl ?_
  refine v_iload_n (pc := 8) hX dX11_joins_8 rfl ?_
  refine v_callV (z := yX11_find) (pc := 9) hX dX11_joins_9 (c_X11_find hO m r b N hs hN hN8) hs.k rfl wd_1652 wd_1654 wp_26 wd_16 wd_1655 ⟨by decide, by decide, (by decide +kernel : (parseMethodDescriptor yX11_find.desc).map (fun d => d.parameters.length) = some 1)⟩ rfl (Nat.le_of_ble_eq_true rfl) ⟨⟨by decide, by decide⟩, by decide, by decide⟩ (fun E m9 h9 => h9.elim) (fun r9 m9 h9 => ?_)
  obtain ⟨rfl, h8⟩ := h9
  replace h8 := h8.symm
  subst h8
  show mV g x _ _ _ _ _ [.int (X11_find_r g m r b N)]
  refine v_istore (pc := 12) hX dX11_joins_12 (by decide) rfl ?_
  refine v_aload_n (pc := 14) hX dX11_joins_14 rfl ?_
  refine v_iload_n (pc := 15) hX dX11_joins_15 rfl ?_
  refine v_callV (z := yX11_find) (pc := 16) hX dX11_joins_16 (c_X11_find hO m r c N hs hN hN8) hs.k rfl wd_1652 wd_1654 wp_26 wd_16 wd_1655 ⟨by decide, by decide, (by decide +kernel : (parseMethodDescriptor yX11_find.desc).map (fun d => d.parameters.length) = some 1)⟩ rfl (Nat.le_of_ble_eq_true rfl) ⟨⟨by decide, by decide⟩, by decide, by decide⟩ (fun E m9 h9 => h9.elim) (fun r9 m9 h9 => ?_)
  obtain ⟨rfl, h8⟩ := h9
  replace h8 := h8.symm
  subst h8
  show mV g x _ _ _ _ _ [.int (X11_find_r g m r c N)]
  refine v_istore (pc := 19) hX dX11_joins_19 (by decide) rfl ?_
  refine v_aload_n (pc := 21) hX dX11_joins_21 rfl ?_
  refine v_iload (pc := 22) hX dX11_joins_22 rfl ?_
  refine v_callV (z := yX11_find) (pc := 24) hX dX11_joins_24 (c_X11_find hO m r d N hs hN hN8) hs.k rfl wd_1652 wd_1654 wp_26 wd_16 wd_1655 ⟨by decide, by decide, (by decide +kernel : (parseMethodDescriptor yX11_find.desc).map (fun d => d.parameters.length) = some 1)⟩ rfl (Nat.le_of_ble_eq_true rfl) ⟨⟨by decide, by decide⟩, by decide, by decide⟩ (fun E m9 h9 => h9.elim) (fun r9 m9 h9 => ?_)
  obtain ⟨rfl, h8⟩ := h9
  replace h8 := h8.symm
  subst h8
  show mV g x _ _ _ _ _ [.int (X11_find_r g m r d N)]
  refine v_istore (pc := 27) hX dX11_joins_27 (by decide) rfl ?_
  refine v_iload (pc := 29) hX dX11_joins_29 rfl ?_
  refine v_if_lt (tgt := 49) (pc := 31) hX dX11_joins_31 (by decide) (fun c1 => ?_) (fun c1 => ?_)
  ·
    refine v_aload_n (pc := 49) hX dX11_joins_49 rfl ?_
    refine v_iconst (v := 1) (pc := 50) hX dX11_joins_50 (by decide) ?_
    refine v_callV (z := yX11_fail) (pc := 51) hX dX11_joins_51 (c_fail2 hO m r 1 hs) hs.k rfl wd_1595 wd_1597 wp_19 wd_16 wd_1598 ⟨by decide, by decide, (by decide +kernel : (parseMethodDescriptor yX11_fail.desc).map (fun d => d.parameters.length) = some 1)⟩ rfl (Nat.le_of_ble_eq_true rfl) ⟨⟨by decide, by decide⟩, by decide, by decide⟩ (fun E m9 h9 => h9.elim) (fun r9 m9 h9 => ?_)
    obtain ⟨rfl, h8⟩ := h9
    replace h8 := h8.symm
    subst h8
    show mV g x _ _ _ _ _ [.int 0]
    exact v_iret (pc := 54) hX hZ dX11_joins_54 (by decide) (by decide) ⟨(by rw [X11_joins_r, if_pos c1]), (by rw [X11_joins_m, if_pos c1])⟩
  ·
    refine v_iload (pc := 34) hX dX11_joins_34 rfl ?_
    refine v_if_lt (tgt := 49) (pc := 36) hX dX11_joins_36 (by decide) (fun c2 => ?_) (fun c2 => ?_)
    ·
      refine v_aload_n (pc := 49) hX dX11_joins_49 rfl ?_
      refine v_iconst (v := 1) (pc := 50) hX dX11_joins_50 (by decide) ?_
      refine v_callV (z := yX11_fail) (pc := 51) hX dX11_joins_51 (c_fail2 hO m r 1 hs) hs.k rfl wd_1595 wd_1597 wp_19 wd_16 wd_1598 ⟨by decide, by decide, (by decide +kernel : (parseMethodDescriptor yX11_fail.desc).map (fun d => d.parameters.length) = some 1)⟩ rfl (Nat.le_of_ble_eq_true rfl) ⟨⟨by decide, by decide⟩, by decide, by decide⟩ (fun E m9 h9 => h9.elim) (fun r9 m9 h9 => ?_)
      obtain ⟨rfl, h8⟩ := h9
      replace h8 := h8.symm
      subst h8
      show mV g x _ _ _ _ _ [.int 0]
      exact v_iret (pc := 54) hX hZ dX11_joins_54 (by decide) (by decide) ⟨(by rw [X11_joins_r, if_neg c1, if_pos c2]), (by rw [X11_joins_m, if_neg c1, if_pos c2])⟩
    ·
      refine v_iload (pc := 39) hX dX11_joins_39 rfl ?_
      refine v_if_lt (tgt := 49) (pc := 41) hX dX11_joins_41 (by decide) (fun c3 => ?_) (fun c3 => ?_)
      ·
        refine v_aload_n (pc := 49) hX dX11_joins_49 rfl ?_
        refine v_iconst (v := 1) (pc := 50) hX dX11_joins_50 (by decide) ?_
        refine v_callV (z := yX11_fail) (pc := 51) hX dX11_joins_51 (c_fail2 hO m r 1 hs) hs.k rfl wd_1595 wd_1597 wp_19 wd_16 wd_1598 ⟨by decide, by decide, (by decide +kernel : (parseMethodDescriptor yX11_fail.desc).map (fun d => d.parameters.length) = some 1)⟩ rfl (Nat.le_of_ble_eq_true rfl) ⟨⟨by decide, by decide⟩, by decide, by decide⟩ (fun E m9 h9 => h9.elim) (fun r9 m9 h9 => ?_)
        obtain ⟨rfl, h8⟩ := h9
        replace h8 := h8.symm
        subst h8
        show mV g x _ _ _ _ _ [.int 0]
        exact v_iret (pc := 54) hX hZ dX11_joins_54 (by decide) (by decide) ⟨(by rw [X11_joins_r, if_neg c1, if_neg c2, if_pos c3]), (by rw [X11_joins_m, if_neg c1, if_neg c2, if_pos c3])⟩
      ·
        refine v_iload (pc := 44) hX dX11_joins_44 rfl ?_
        refine v_if_ge (tgt := 55) (pc := 46) hX dX11_joins_46 (by decide) (fun c4 => ?_) (fun c4 => ?_)
        ·
          have oa := fd_lt (g := g) (m := m) (r := r) (a := a) hN8 (by assumption)
          have ob := fd_lt (g := g) (m := m) (r := r) (a := b) hN8 (by assumption)
          have oc := fd_lt (g := g) (m := m) (r := r) (a := c) hN8 (by assumption)
          have od := fd_ge (g := g) (m := m) (r := r) (a := d) hN8 (by assumption)
          have oa2 := oa.1.2
          have ob2 := ob.1.2
          have oc2 := oc.1.2
          have od2 := od.1.2
          refine v_aload_n (pc := 55) hX dX11_joins_55 rfl ?_
          refine v_get (v := .ref (r + 1)) (pc := 56) hX dX11_joins_56 hs.k (ci := 12) (r := vwC12) rfl 5 (by decide) wd_1511 (fvA rfl hs.r1) ?_
          refine v_iload (pc := 59) hX dX11_joins_59 rfl ?_
          refine v_iconst (v := 1) (pc := 61) hX dX11_joins_61 (by decide) ?_
          refine v_callS (z := yX11_of) (pc := 62) hX dX11_joins_62 (c_of2 hO m (X11_find_r g m r a N) ((X11_find_r g m r a N).toNatClampNeg) 1 oa.1.1) wd_1626 wd_1627 wd_16 wd_1628 ⟨by decide, by decide, (by decide +kernel : (parseMethodDescriptor yX11_of.desc).map (fun d => d.parameters.length) = some 2)⟩ rfl (Nat.le_of_ble_eq_true rfl) ⟨⟨by decide, by decide⟩, by decide, by decide⟩ (fun E m9 h9 => h9.elim) (fun r9 m9 h9 => ?_)
          obtain ⟨rfl, h8⟩ := h9
          replace h8 := h8.symm
          subst h8
          show mV g x _ _ _ _ _ [.int (nI (8 * ((X11_find_r g m r a N).toNatClampNeg) + 14)), .ref (r + 1)]
          refine v_iald (j := 8 * ((X11_find_r g m r a N).toNatClampNeg) + 14) (v := (gA m (r + 1) (8 * ((X11_find_r g m r a N).toNatClampNeg) + 14))) (pc := 65) hX dX11_joins_65 hs.k1 rfl (by omega) (by decide) rfl ?_
          refine v_bipush (v := 98) (pc := 66) hX dX11_joins_66 (by decide) ?_
          refine v_icmp_ne (tgt := 126) (pc := 68) hX dX11_joins_68 (by decide) (fun c5 => ?_) (fun c5 => ?_)
          ·
            refine v_aload_n (pc := 126) hX dX11_joins_126 rfl ?_
            refine v_iconst (v := 2) (pc := 127) hX dX11_joins_127 (by decide) ?_
            refine v_callV (z := yX11_fail) (pc := 128) hX dX11_joins_128 (c_fail2 hO m r 2 hs) hs.k rfl wd_1595 wd_1597 wp_19 wd_16 wd_1598 ⟨by decide, by decide, (by decide +kernel : (parseMethodDescriptor yX11_fail.desc).map (fun d => d.parameters.length) = some 1)⟩ rfl (Nat.le_of_ble_eq_true rfl) ⟨⟨by decide, by decide⟩, by decide, by decide⟩ (fun E m9 h9 => h9.elim) (fun r9 m9 h9 => ?_)
            obtain ⟨rfl, h8⟩ := h9
            replace h8 := h8.symm
            subst h8
            show mV g x _ _ _ _ _ [.int 0]
            exact v_iret (pc := 131) hX hZ dX11_joins_131 (by decide) (by decide) ⟨(by rw [X11_joins_r, if_neg c1, if_neg c2, if_neg c3, if_pos c4, if_neg c5]), (by rw [X11_joins_m, if_neg c1, if_neg c2, if_neg c3, if_pos c4, if_neg c5])⟩
          ·
            refine v_aload_n (pc := 71) hX dX11_joins_71 rfl ?_
            refine v_get (v := .ref (r + 1)) (pc := 72) hX dX11_joins_72 hs.k (ci := 12) (r := vwC12) rfl 5 (by decide) wd_1511 (fvA rfl hs.r1) ?_
            refine v_iload (pc := 75) hX dX11_joins_75 rfl ?_
            refine v_iconst (v := 1) (pc := 77) hX dX11_joins_77 (by decide) ?_
            refine v_callS (z := yX11_of) (pc := 78) hX dX11_joins_78 (c_of2 hO m (X11_find_r g m r b N) ((X11_find_r g m r b N).toNatClampNeg) 1 ob.1.1) wd_1626 wd_1627 wd_16 wd_1628 ⟨by decide, by decide, (by decide +kernel : (parseMethodDescriptor yX11_of.desc).map (fun d => d.parameters.length) = some 2)⟩ rfl (Nat.le_of_ble_eq_true rfl) ⟨⟨by decide, by decide⟩, by decide, by decide⟩ (fun E m9 h9 => h9.elim) (fun r9 m9 h9 => ?_)
            obtain ⟨rfl, h8⟩ := h9
            replace h8 := h8.symm
            subst h8
            show mV g x _ _ _ _ _ [.int (nI (8 * ((X11_find_r g m r b N).toNatClampNeg) + 14)), .ref (r + 1)]
            refine v_iald (j := 8 * ((X11_find_r g m r b N).toNatClampNeg) + 14) (v := (gA m (r + 1) (8 * ((X11_find_r g m r b N).toNatClampNeg) + 14))) (pc := 81) hX dX11_joins_81 hs.k1 rfl (by omega) (by decide) rfl ?_
            refine v_bipush (v := 110) (pc := 82) hX dX11_joins_82 (by decide) ?_
            refine v_icmp_ne (tgt := 126) (pc := 84) hX dX11_joins_84 (by decide) (fun c6 => ?_) (fun c6 => ?_)
            ·
              refine v_aload_n (pc := 126) hX dX11_joins_126 rfl ?_
              refine v_iconst (v := 2) (pc := 127) hX dX11_joins_127 (by decide) ?_
              refine v_callV (z := yX11_fail) (pc := 128) hX dX11_joins_128 (c_fail2 hO m r 2 hs) hs.k rfl wd_1595 wd_1597 wp_19 wd_16 wd_1598 ⟨by decide, by decide, (by decide +kernel : (parseMethodDescriptor yX11_fail.desc).map (fun d => d.parameters.length) = some 1)⟩ rfl (Nat.le_of_ble_eq_true rfl) ⟨⟨by decide, by decide⟩, by decide, by decide⟩ (fun E m9 h9 => h9.elim) (fun r9 m9 h9 => ?_)
              obtain ⟨rfl, h8⟩ := h9
              replace h8 := h8.symm
              subst h8
              show mV g x _ _ _ _ _ [.int 0]
              exact v_iret (pc := 131) hX hZ dX11_joins_131 (by decide) (by decide) ⟨(by rw [X11_joins_r, if_neg c1, if_neg c2, if_neg c3, if_pos c4, if_pos c5, if_neg c6]), (by rw [X11_joins_m, if_neg c1, if_neg c2, if_neg c3, if_pos c4, if_pos c5, if_neg c6])⟩
            ·
              refine v_aload_n (pc := 87) hX dX11_joins_87 rfl ?_
              refine v_get (v := .ref (r + 1)) (pc := 88) hX dX11_joins_88 hs.k (ci := 12) (r := vwC12) rfl 5 (by decide) wd_1511 (fvA rfl hs.r1) ?_
              refine v_iload (pc := 91) hX dX11_joins_91 rfl ?_
              refine v_iconst (v := 1) (pc := 93) hX dX11_joins_93 (by decide) ?_
              refine v_callS (z := yX11_of) (pc := 94) hX dX11_joins_94 (c_of2 hO m (X11_find_r g m r c N) ((X11_find_r g m r c N).toNatClampNeg) 1 oc.1.1) wd_1626 wd_1627 wd_16 wd_1628 ⟨by decide, by decide, (by decide +kernel : (parseMethodDescriptor yX11_of.desc).map (fun d => d.parameters.length) = some 2)⟩ rfl (Nat.le_of_ble_eq_true rfl) ⟨⟨by decide, by decide⟩, by decide, by decide⟩ (fun E m9 h9 => h9.elim) (fun r9 m9 h9 => ?_)
              obtain ⟨rfl, h8⟩ := h9
              replace h8 := h8.symm
              subst h8
              show mV g x _ _ _ _ _ [.int (nI (8 * ((X11_find_r g m r c N).toNatClampNeg) + 14)), .ref (r + 1)]
              refine v_iald (j := 8 * ((X11_find_r g m r c N).toNatClampNeg) + 14) (v := (gA m (r + 1) (8 * ((X11_find_r g m r c N).toNatClampNeg) + 14))) (pc := 97) hX dX11_joins_97 hs.k1 rfl (by omega) (by decide) rfl ?_
              refine v_bipush (v := 119) (pc := 98) hX dX11_joins_98 (by decide) ?_
              refine v_icmp_ne (tgt := 126) (pc := 100) hX dX11_joins_100 (by decide) (fun c7 => ?_) (fun c7 => ?_)
              ·
                refine v_aload_n (pc := 126) hX dX11_joins_126 rfl ?_
                refine v_iconst (v := 2) (pc := 127) hX dX11_joins_127 (by decide) ?_
                refine v_callV (z := yX11_fail) (pc := 128) hX dX11_joins_128 (c_fail2 hO m r 2 hs) hs.k rfl wd_1595 wd_1597 wp_19 wd_16 wd_1598 ⟨by decide, by decide, (by decide +kernel : (parseMethodDescriptor yX11_fail.desc).map (fun d => d.parameters.length) = some 1)⟩ rfl (Nat.le_of_ble_eq_true rfl) ⟨⟨by decide, by decide⟩, by decide, by decide⟩ (fun E m9 h9 => h9.elim) (fun r9 m9 h9 => ?_)
                obtain ⟨rfl, h8⟩ := h9
                replace h8 := h8.symm
                subst h8
                show mV g x _ _ _ _ _ [.int 0]
                exact v_iret (pc := 131) hX hZ dX11_joins_131 (by decide) (by decide) ⟨(by rw [X11_joins_r, if_neg c1, if_neg c2, if_neg c3, if_pos c4, if_pos c5, if_pos c6, if_neg c7]), (by rw [X11_joins_m, if_neg c1, if_neg c2, if_neg c3, if_pos c4, if_pos c5, if_pos c6, if_neg c7])⟩
              ·
                refine v_aload_n (pc := 103) hX dX11_joins_103 rfl ?_
                refine v_get (v := .ref (r + 1)) (pc := 104) hX dX11_joins_104 hs.k (ci := 12) (r := vwC12) rfl 5 (by decide) wd_1511 (fvA rfl hs.r1) ?_
                refine v_iload (pc := 107) hX dX11_joins_107 rfl ?_
                refine v_iconst (v := 1) (pc := 109) hX dX11_joins_109 (by decide) ?_
                refine v_callS (z := yX11_of) (pc := 110) hX dX11_joins_110 (c_of2 hO m (X11_find_r g m r d N) ((X11_find_r g m r d N).toNatClampNeg) 1 od.1.1) wd_1626 wd_1627 wd_16 wd_1628 ⟨by decide, by decide, (by decide +kernel : (parseMethodDescriptor yX11_of.desc).map (fun d => d.parameters.length) = some 2)⟩ rfl (Nat.le_of_ble_eq_true rfl) ⟨⟨by decide, by decide⟩, by decide, by decide⟩ (fun E m9 h9 => h9.elim) (fun r9 m9 h9 => ?_)
                obtain ⟨rfl, h8⟩ := h9
                replace h8 := h8.symm
                subst h8
                show mV g x _ _ _ _ _ [.int (nI (8 * ((X11_find_r g m r d N).toNatClampNeg) + 14)), .ref (r + 1)]
                refine v_iald (j := 8 * ((X11_find_r g m r d N).toNatClampNeg) + 14) (v := (gA m (r + 1) (8 * ((X11_find_r g m r d N).toNatClampNeg) + 14))) (pc := 113) hX dX11_joins_113 hs.k1 rfl (by omega) (by decide) rfl ?_
                refine v_bipush (v := 119) (pc := 114) hX dX11_joins_114 (by decide) ?_
                refine v_icmp_ne (tgt := 126) (pc := 116) hX dX11_joins_116 (by decide) (fun c8 => ?_) (fun c8 => ?_)
                ·
                  refine v_aload_n (pc := 126) hX dX11_joins_126 rfl ?_
                  refine v_iconst (v := 2) (pc := 127) hX dX11_joins_127 (by decide) ?_
                  refine v_callV (z := yX11_fail) (pc := 128) hX dX11_joins_128 (c_fail2 hO m r 2 hs) hs.k rfl wd_1595 wd_1597 wp_19 wd_16 wd_1598 ⟨by decide, by decide, (by decide +kernel : (parseMethodDescriptor yX11_fail.desc).map (fun d => d.parameters.length) = some 1)⟩ rfl (Nat.le_of_ble_eq_true rfl) ⟨⟨by decide, by decide⟩, by decide, by decide⟩ (fun E m9 h9 => h9.elim) (fun r9 m9 h9 => ?_)
                  obtain ⟨rfl, h8⟩ := h9
                  replace h8 := h8.symm
                  subst h8
                  show mV g x _ _ _ _ _ [.int 0]
                  exact v_iret (pc := 131) hX hZ dX11_joins_131 (by decide) (by decide) ⟨(by rw [X11_joins_r, if_neg c1, if_neg c2, if_neg c3, if_pos c4, if_pos c5, if_pos c6, if_pos c7, if_neg c8]), (by rw [X11_joins_m, if_neg c1, if_neg c2, if_neg c3, if_pos c4, if_pos c5, if_pos c6, if_pos c7, if_neg c8])⟩
                ·
                  refine v_iload (pc := 119) hX dX11_joins_119 rfl ?_
                  refine v_iload (pc := 121) hX dX11_joins_121 rfl ?_
                  refine v_icmp_ne (tgt := 132) (pc := 123) hX dX11_joins_123 (by decide) (fun c9 => ?_) (fun c9 => ?_)
                  ·
                    refine v_aload_n (pc := 132) hX dX11_joins_132 rfl ?_
                    refine v_iload (pc := 133) hX dX11_joins_133 rfl ?_
                    refine v_callV (z := yX11_isReady) (pc := 135) hX dX11_joins_135 (c_X11_isReady hO m r (X11_find_r g m r a N)  hs oa.1) hs.k rfl wd_1724 wd_1726 wp_39 wd_16 wd_1727 ⟨by decide, by decide, (by decide +kernel : (parseMethodDescriptor yX11_isReady.desc).map (fun d => d.parameters.length) = some 1)⟩ rfl (Nat.le_of_ble_eq_true rfl) ⟨⟨by decide, by decide⟩, by decide, by decide⟩ (fun E m9 h9 => h9.elim) (fun r9 m9 h9 => ?_)
                    obtain ⟨rfl, h8⟩ := h9
                    replace h8 := h8.symm
                    subst h8
                    show mV g x _ _ _ _ _ [.int (X11_isReady_r g m r (X11_find_r g m r a N) )]
                    refine v_if_eq (tgt := 168) (pc := 138) hX dX11_joins_138 (by decide) (fun c10 => ?_) (fun c10 => ?_)
                    ·
                      refine v_aload_n (pc := 168) hX dX11_joins_168 rfl ?_
                      refine v_iconst (v := 3) (pc := 169) hX dX11_joins_169 (by decide) ?_
                      refine v_callV (z := yX11_fail) (pc := 170) hX dX11_joins_170 (c_fail2 hO m r 3 hs) hs.k rfl wd_1595 wd_1597 wp_19 wd_16 wd_1598 ⟨by decide, by decide, (by decide +kernel : (parseMethodDescriptor yX11_fail.desc).map (fun d => d.parameters.length) = some 1)⟩ rfl (Nat.le_of_ble_eq_true rfl) ⟨⟨by decide, by decide⟩, by decide, by decide⟩ (fun E m9 h9 => h9.elim) (fun r9 m9 h9 => ?_)
                      obtain ⟨rfl, h8⟩ := h9
                      replace h8 := h8.symm
                      subst h8
                      show mV g x _ _ _ _ _ [.int 0]
                      exact v_iret (pc := 173) hX hZ dX11_joins_173 (by decide) (by decide) ⟨(by rw [X11_joins_r, if_neg c1, if_neg c2, if_neg c3, if_pos c4, if_pos c5, if_pos c6, if_pos c7, if_pos c8, if_neg c9, if_pos c10]), (by rw [X11_joins_m, if_neg c1, if_neg c2, if_neg c3, if_pos c4, if_pos c5, if_pos c6, if_pos c7, if_pos c8, if_neg c9, if_pos c10])⟩
                    ·
                      refine v_aload_n (pc := 141) hX dX11_joins_141 rfl ?_
                      refine v_iload (pc := 142) hX dX11_joins_142 rfl ?_
                      refine v_callV (z := yX11_isReady) (pc := 144) hX dX11_joins_144 (c_X11_isReady hO m r (X11_find_r g m r b N)  hs ob.1) hs.k rfl wd_1724 wd_1726 wp_39 wd_16 wd_1727 ⟨by decide, by decide, (by decide +kernel : (parseMethodDescriptor yX11_isReady.desc).map (fun d => d.parameters.length) = some 1)⟩ rfl (Nat.le_of_ble_eq_true rfl) ⟨⟨by decide, by decide⟩, by decide, by decide⟩ (fun E m9 h9 => h9.elim) (fun r9 m9 h9 => ?_)
                      obtain ⟨rfl, h8⟩ := h9
                      replace h8 := h8.symm
                      subst h8
                      show mV g x _ _ _ _ _ [.int (X11_isReady_r g m r (X11_find_r g m r b N) )]
                      refine v_if_eq (tgt := 168) (pc := 147) hX dX11_joins_147 (by decide) (fun c11 => ?_) (fun c11 => ?_)
                      ·
                        refine v_aload_n (pc := 168) hX dX11_joins_168 rfl ?_
                        refine v_iconst (v := 3) (pc := 169) hX dX11_joins_169 (by decide) ?_
                        refine v_callV (z := yX11_fail) (pc := 170) hX dX11_joins_170 (c_fail2 hO m r 3 hs) hs.k rfl wd_1595 wd_1597 wp_19 wd_16 wd_1598 ⟨by decide, by decide, (by decide +kernel : (parseMethodDescriptor yX11_fail.desc).map (fun d => d.parameters.length) = some 1)⟩ rfl (Nat.le_of_ble_eq_true rfl) ⟨⟨by decide, by decide⟩, by decide, by decide⟩ (fun E m9 h9 => h9.elim) (fun r9 m9 h9 => ?_)
                        obtain ⟨rfl, h8⟩ := h9
                        replace h8 := h8.symm
                        subst h8
                        show mV g x _ _ _ _ _ [.int 0]
                        exact v_iret (pc := 173) hX hZ dX11_joins_173 (by decide) (by decide) ⟨(by rw [X11_joins_r, if_neg c1, if_neg c2, if_neg c3, if_pos c4, if_pos c5, if_pos c6, if_pos c7, if_pos c8, if_neg c9, if_neg c10, if_pos c11]), (by rw [X11_joins_m, if_neg c1, if_neg c2, if_neg c3, if_pos c4, if_pos c5, if_pos c6, if_pos c7, if_pos c8, if_neg c9, if_neg c10, if_pos c11])⟩
                      ·
                        refine v_aload_n (pc := 150) hX dX11_joins_150 rfl ?_
                        refine v_iload (pc := 151) hX dX11_joins_151 rfl ?_
                        refine v_callV (z := yX11_isReady) (pc := 153) hX dX11_joins_153 (c_X11_isReady hO m r (X11_find_r g m r c N)  hs oc.1) hs.k rfl wd_1724 wd_1726 wp_39 wd_16 wd_1727 ⟨by decide, by decide, (by decide +kernel : (parseMethodDescriptor yX11_isReady.desc).map (fun d => d.parameters.length) = some 1)⟩ rfl (Nat.le_of_ble_eq_true rfl) ⟨⟨by decide, by decide⟩, by decide, by decide⟩ (fun E m9 h9 => h9.elim) (fun r9 m9 h9 => ?_)
                        obtain ⟨rfl, h8⟩ := h9
                        replace h8 := h8.symm
                        subst h8
                        show mV g x _ _ _ _ _ [.int (X11_isReady_r g m r (X11_find_r g m r c N) )]
                        refine v_if_eq (tgt := 168) (pc := 156) hX dX11_joins_156 (by decide) (fun c12 => ?_) (fun c12 => ?_)
                        ·
                          refine v_aload_n (pc := 168) hX dX11_joins_168 rfl ?_
                          refine v_iconst (v := 3) (pc := 169) hX dX11_joins_169 (by decide) ?_
                          refine v_callV (z := yX11_fail) (pc := 170) hX dX11_joins_170 (c_fail2 hO m r 3 hs) hs.k rfl wd_1595 wd_1597 wp_19 wd_16 wd_1598 ⟨by decide, by decide, (by decide +kernel : (parseMethodDescriptor yX11_fail.desc).map (fun d => d.parameters.length) = some 1)⟩ rfl (Nat.le_of_ble_eq_true rfl) ⟨⟨by decide, by decide⟩, by decide, by decide⟩ (fun E m9 h9 => h9.elim) (fun r9 m9 h9 => ?_)
                          obtain ⟨rfl, h8⟩ := h9
                          replace h8 := h8.symm
                          subst h8
                          show mV g x _ _ _ _ _ [.int 0]
                          exact v_iret (pc := 173) hX hZ dX11_joins_173 (by decide) (by decide) ⟨(by rw [X11_joins_r, if_neg c1, if_neg c2, if_neg c3, if_pos c4, if_pos c5, if_pos c6, if_pos c7, if_pos c8, if_neg c9, if_neg c10, if_neg c11, if_pos c12]), (by rw [X11_joins_m, if_neg c1, if_neg c2, if_neg c3, if_pos c4, if_pos c5, if_pos c6, if_pos c7, if_pos c8, if_neg c9, if_neg c10, if_neg c11, if_pos c12])⟩
                        ·
                          refine v_aload_n (pc := 159) hX dX11_joins_159 rfl ?_
                          refine v_iload (pc := 160) hX dX11_joins_160 rfl ?_
                          refine v_callV (z := yX11_isReady) (pc := 162) hX dX11_joins_162 (c_X11_isReady hO m r (X11_find_r g m r d N)  hs od.1) hs.k rfl wd_1724 wd_1726 wp_39 wd_16 wd_1727 ⟨by decide, by decide, (by decide +kernel : (parseMethodDescriptor yX11_isReady.desc).map (fun d => d.parameters.length) = some 1)⟩ rfl (Nat.le_of_ble_eq_true rfl) ⟨⟨by decide, by decide⟩, by decide, by decide⟩ (fun E m9 h9 => h9.elim) (fun r9 m9 h9 => ?_)
                          obtain ⟨rfl, h8⟩ := h9
                          replace h8 := h8.symm
                          subst h8
                          show mV g x _ _ _ _ _ [.int (X11_isReady_r g m r (X11_find_r g m r d N) )]
                          refine v_if_ne (tgt := 174) (pc := 165) hX dX11_joins_165 (by decide) (fun c13 => ?_) (fun c13 => ?_)
                          ·
                            have jn := join_ok (g := g) (m := m) (r := r) (a := a) (b := b) (c := c) (d := d) hN hN8 oa ob oc od (by assumption) (by assumption) (by assumption) (by assumption) (by assumption)
                            obtain ⟨j4, jb, jc, jd, jN1, jN2, jN3⟩ := jn
                            refine v_aload_n (pc := 174) hX dX11_joins_174 rfl ?_
                            refine v_iload (pc := 175) hX dX11_joins_175 rfl ?_
                            refine v_callV (z := yX11_goes) (pc := 177) hX dX11_joins_177 (c_X11_goes hO m r (X11_find_r g m r a N)  hs oa.1) hs.k rfl wd_1728 wd_1730 wp_40 wd_16 wd_1731 ⟨by decide, by decide, (by decide +kernel : (parseMethodDescriptor yX11_goes.desc).map (fun d => d.parameters.length) = some 1)⟩ rfl (Nat.le_of_ble_eq_true rfl) ⟨⟨by decide, by decide⟩, by decide, by decide⟩ (fun E m9 h9 => h9.elim) (fun r9 m9 h9 => ?_)
                            obtain ⟨rfl, h8⟩ := h9
                            replace h8 := h8.symm
                            subst h8
                            show mV g x _ _ _ _ _ []
                            refine v_aload_n (pc := 180) hX dX11_joins_180 rfl ?_
                            refine v_aload_n (pc := 181) hX dX11_joins_181 rfl ?_
                            refine v_iload_n (pc := 182) hX dX11_joins_182 rfl ?_
                            refine v_callV (z := yX11_find) (pc := 183) hX dX11_joins_183 (c_X11_find hO ((X11_goes_m g m r (X11_find_r g m r a N) )) r b ((N - 1)) (hs.to (by simp only [mm, kK_X11_goes]) (by simp only [mm, kR_X11_goes])) jN1 (by omega)) (by simp only [mm, kK_X11_goes]; exact hs.k) rfl wd_1652 wd_1654 wp_26 wd_16 wd_1655 ⟨by decide, by decide, (by decide +kernel : (parseMethodDescriptor yX11_find.desc).map (fun d => d.parameters.length) = some 1)⟩ rfl (Nat.le_of_ble_eq_true rfl) ⟨⟨by decide, by decide⟩, by decide, by decide⟩ (fun E m9 h9 => h9.elim) (fun r9 m9 h9 => ?_)
                            obtain ⟨rfl, h8⟩ := h9
                            replace h8 := h8.symm
                            subst h8
                            show mV g x _ _ _ _ _ [.int (X11_find_r g ((X11_goes_m g m r (X11_find_r g m r a N) )) r b ((N - 1))), .ref r]
                            refine v_callV (z := yX11_goes) (pc := 186) hX dX11_joins_186 (c_X11_goes hO ((X11_goes_m g m r (X11_find_r g m r a N) )) r (X11_find_r g ((X11_goes_m g m r (X11_find_r g m r a N) )) r b ((N - 1)))  (hs.to (by simp only [mm, kK_X11_goes]) (by simp only [mm, kR_X11_goes])) jb.1) (by simp only [mm, kK_X11_goes]; exact hs.k) rfl wd_1728 wd_1730 wp_40 wd_16 wd_1731 ⟨by decide, by decide, (by decide +kernel : (parseMethodDescriptor yX11_goes.desc).map (fun d => d.parameters.length) = some 1)⟩ rfl (Nat.le_of_ble_eq_true rfl) ⟨⟨by decide, by decide⟩, by decide, by decide⟩ (fun E m9 h9 => h9.elim) (fun r9 m9 h9 => ?_)
                            obtain ⟨rfl, h8⟩ := h9
                            replace h8 := h8.symm
                            subst h8
                            show mV g x _ _ _ _ _ []
                            refine v_aload_n (pc := 189) hX dX11_joins_189 rfl ?_
                            refine v_aload_n (pc := 190) hX dX11_joins_190 rfl ?_
                            refine v_iload_n (pc := 191) hX dX11_joins_191 rfl ?_
                            refine v_callV (z := yX11_find) (pc := 192) hX dX11_joins_192 (c_X11_find hO ((X11_goes_m g ((X11_goes_m g m r (X11_find_r g m r a N) )) r (X11_find_r g ((X11_goes_m g m r (X11_find_r g m r a N) )) r b ((N - 1))) )) r c ((N - 2)) (hs.to (by simp only [mm, kK_X11_goes]) (by simp only [mm, kR_X11_goes])) jN2 (by omega)) (by simp only [mm, kK_X11_goes]; exact hs.k) rfl wd_1652 wd_1654 wp_26 wd_16 wd_1655 ⟨by decide, by decide, (by decide +kernel : (parseMethodDescriptor yX11_find.desc).map (fun d => d.parameters.length) = some 1)⟩ rfl (Nat.le_of_ble_eq_true rfl) ⟨⟨by decide, by decide⟩, by decide, by decide⟩ (fun E m9 h9 => h9.elim) (fun r9 m9 h9 => ?_)
                            obtain ⟨rfl, h8⟩ := h9
                            replace h8 := h8.symm
                            subst h8
                            show mV g x _ _ _ _ _ [.int (X11_find_r g ((X11_goes_m g ((X11_goes_m g m r (X11_find_r g m r a N) )) r (X11_find_r g ((X11_goes_m g m r (X11_find_r g m r a N) )) r b ((N - 1))) )) r c ((N - 2))), .ref r]
                            refine v_callV (z := yX11_goes) (pc := 195) hX dX11_joins_195 (c_X11_goes hO ((X11_goes_m g ((X11_goes_m g m r (X11_find_r g m r a N) )) r (X11_find_r g ((X11_goes_m g m r (X11_find_r g m r a N) )) r b ((N - 1))) )) r (X11_find_r g ((X11_goes_m g ((X11_goes_m g m r (X11_find_r g m r a N) )) r (X11_find_r g ((X11_goes_m g m r (X11_find_r g m r a N) )) r b ((N - 1))) )) r c ((N - 2)))  (hs.to (by simp only [mm, kK_X11_goes]) (by simp only [mm, kR_X11_goes])) jc.1) (by simp only [mm, kK_X11_goes]; exact hs.k) rfl wd_1728 wd_1730 wp_40 wd_16 wd_1731 ⟨by decide, by decide, (by decide +kernel : (parseMethodDescriptor yX11_goes.desc).map (fun d => d.parameters.length) = some 1)⟩ rfl (Nat.le_of_ble_eq_true rfl) ⟨⟨by decide, by decide⟩, by decide, by decide⟩ (fun E m9 h9 => h9.elim) (fun r9 m9 h9 => ?_)
                            obtain ⟨rfl, h8⟩ := h9
                            replace h8 := h8.symm
                            subst h8
                            show mV g x _ _ _ _ _ []
                            refine v_aload_n (pc := 198) hX dX11_joins_198 rfl ?_
                            refine v_aload_n (pc := 199) hX dX11_joins_199 rfl ?_
                            refine v_iload (pc := 200) hX dX11_joins_200 rfl ?_
                            refine v_callV (z := yX11_find) (pc := 202) hX dX11_joins_202 (c_X11_find hO ((X11_goes_m g ((X11_goes_m g ((X11_goes_m g m r (X11_find_r g m r a N) )) r (X11_find_r g ((X11_goes_m g m r (X11_find_r g m r a N) )) r b ((N - 1))) )) r (X11_find_r g ((X11_goes_m g ((X11_goes_m g m r (X11_find_r g m r a N) )) r (X11_find_r g ((X11_goes_m g m r (X11_find_r g m r a N) )) r b ((N - 1))) )) r c ((N - 2))) )) r d ((N - 3)) (hs.to (by simp only [mm, kK_X11_goes]) (by simp only [mm, kR_X11_goes])) jN3 (by omega)) (by simp only [mm, kK_X11_goes]; exact hs.k) rfl wd_1652 wd_1654 wp_26 wd_16 wd_1655 ⟨by decide, by decide, (by decide +kernel : (parseMethodDescriptor yX11_find.desc).map (fun d => d.parameters.length) = some 1)⟩ rfl (Nat.le_of_ble_eq_true rfl) ⟨⟨by decide, by decide⟩, by decide, by decide⟩ (fun E m9 h9 => h9.elim) (fun r9 m9 h9 => ?_)
                            obtain ⟨rfl, h8⟩ := h9
                            replace h8 := h8.symm
                            subst h8
                            show mV g x _ _ _ _ _ [.int (X11_find_r g ((X11_goes_m g ((X11_goes_m g ((X11_goes_m g m r (X11_find_r g m r a N) )) r (X11_find_r g ((X11_goes_m g m r (X11_find_r g m r a N) )) r b ((N - 1))) )) r (X11_find_r g ((X11_goes_m g ((X11_goes_m g m r (X11_find_r g m r a N) )) r (X11_find_r g ((X11_goes_m g m r (X11_find_r g m r a N) )) r b ((N - 1))) )) r c ((N - 2))) )) r d ((N - 3))), .ref r]
                            refine v_callV (z := yX11_goes) (pc := 205) hX dX11_joins_205 (c_X11_goes hO ((X11_goes_m g ((X11_goes_m g ((X11_goes_m g m r (X11_find_r g m r a N) )) r (X11_find_r g ((X11_goes_m g m r (X11_find_r g m r a N) )) r b ((N - 1))) )) r (X11_find_r g ((X11_goes_m g ((X11_goes_m g m r (X11_find_r g m r a N) )) r (X11_find_r g ((X11_goes_m g m r (X11_find_r g m r a N) )) r b ((N - 1))) )) r c ((N - 2))) )) r (X11_find_r g ((X11_goes_m g ((X11_goes_m g ((X11_goes_m g m r (X11_find_r g m r a N) )) r (X11_find_r g ((X11_goes_m g m r (X11_find_r g m r a N) )) r b ((N - 1))) )) r (X11_find_r g ((X11_goes_m g ((X11_goes_m g m r (X11_find_r g m r a N) )) r (X11_find_r g ((X11_goes_m g m r (X11_find_r g m r a N) )) r b ((N - 1))) )) r c ((N - 2))) )) r d ((N - 3)))  (hs.to (by simp only [mm, kK_X11_goes]) (by simp only [mm, kR_X11_goes])) jd.1) (by simp only [mm, kK_X11_goes]; exact hs.k) rfl wd_1728 wd_1730 wp_40 wd_16 wd_1731 ⟨by decide, by decide, (by decide +kernel : (parseMethodDescriptor yX11_goes.desc).map (fun d => d.parameters.length) = some 1)⟩ rfl (Nat.le_of_ble_eq_true rfl) ⟨⟨by decide, by decide⟩, by decide, by decide⟩ (fun E m9 h9 => h9.elim) (fun r9 m9 h9 => ?_)
                            obtain ⟨rfl, h8⟩ := h9
                            replace h8 := h8.symm
                            subst h8
                            show mV g x _ _ _ _ _ []
                            refine v_aload_n (pc := 208) hX dX11_joins_208 rfl ?_
                            refine v_get (v := .ref (r + 1)) (pc := 209) hX dX11_joins_209 (by simp only [mm, kK_X11_goes]; exact hs.k) (ci := 12) (r := vwC12) rfl 5 (by decide) wd_1511 (fvA rfl (by simp [mm, kR_X11_goes, hs.r1])) ?_
                            refine v_bipush (v := 8) (pc := 212) hX dX11_joins_212 (by decide) ?_
                            refine v_dup2 (pc := 214) hX dX11_joins_214 rfl rfl ?_
                            refine v_iald (j := 8) (v := (gA ((X11_goes_m g (X11_goes_m g (X11_goes_m g (X11_goes_m g m r (X11_find_r g m r a N)) r (X11_find_r g (X11_goes_m g m r (X11_find_r g m r a N)) r b (N - 1))) r (X11_find_r g (X11_goes_m g (X11_goes_m g m r (X11_find_r g m r a N)) r (X11_find_r g (X11_goes_m g m r (X11_find_r g m r a N)) r b (N - 1))) r c (N - 2))) r (X11_find_r g (X11_goes_m g (X11_goes_m g (X11_goes_m g m r (X11_find_r g m r a N)) r (X11_find_r g (X11_goes_m g m r (X11_find_r g m r a N)) r b (N - 1))) r (X11_find_r g (X11_goes_m g (X11_goes_m g m r (X11_find_r g m r a N)) r (X11_find_r g (X11_goes_m g m r (X11_find_r g m r a N)) r b (N - 1))) r c (N - 2))) r d (N - 3)))) (r + 1) (8))) (pc := 215) hX dX11_joins_215 (by simp only [mm, kK_X11_goes]; exact hs.k1) rfl (by decide) (by decide) rfl ?_
                            refine v_iconst (v := 1) (pc := 216) hX dX11_joins_216 (by decide) ?_
                            refine v_iadd (pc := 217) hX dX11_joins_217 ?_
                            refine v_iast (j := 8) (pc := 218) hX dX11_joins_218 (by simp only [mm, kK_X11_goes]; exact hs.k1) rfl (by decide) (by decide) ?_
                            refine v_aload_n (pc := 219) hX dX11_joins_219 rfl ?_
                            refine v_get (v := .ref (r + 1)) (pc := 220) hX dX11_joins_220 (by simp only [mm, kK_X11_goes]; exact hs.k) (ci := 12) (r := vwC12) rfl 5 (by decide) wd_1511 (fvA rfl (by simp [mm, kR_X11_goes, hs.r1])) ?_
                            refine v_bipush (v := 8) (pc := 223) hX dX11_joins_223 (by decide) ?_
                            refine v_iald (j := 8) (v := ((gA (X11_goes_m g (X11_goes_m g (X11_goes_m g (X11_goes_m g m r (X11_find_r g m r a N)) r (X11_find_r g (X11_goes_m g m r (X11_find_r g m r a N)) r b (N - 1))) r (X11_find_r g (X11_goes_m g (X11_goes_m g m r (X11_find_r g m r a N)) r (X11_find_r g (X11_goes_m g m r (X11_find_r g m r a N)) r b (N - 1))) r c (N - 2))) r (X11_find_r g (X11_goes_m g (X11_goes_m g (X11_goes_m g m r (X11_find_r g m r a N)) r (X11_find_r g (X11_goes_m g m r (X11_find_r g m r a N)) r b (N - 1))) r (X11_find_r g (X11_goes_m g (X11_goes_m g m r (X11_find_r g m r a N)) r (X11_find_r g (X11_goes_m g m r (X11_find_r g m r a N)) r b (N - 1))) r c (N - 2))) r d (N - 3))) (r + 1) 8) + 1)) (pc := 225) hX dX11_joins_225 (by simp only [mm, kK_X11_goes]; exact hs.k1) rfl (by decide) (by decide) gA_y ?_
                            exact v_iret (pc := 226) hX hZ dX11_joins_226 (by decide) (by decide) ⟨(by rw [X11_joins_r, if_neg c1, if_neg c2, if_neg c3, if_pos c4, if_pos c5, if_pos c6, if_pos c7, if_pos c8, if_neg c9, if_neg c10, if_neg c11, if_neg c12, if_neg c13]), (by rw [X11_joins_m, if_neg c1, if_neg c2, if_neg c3, if_pos c4, if_pos c5, if_pos c6, if_pos c7, if_pos c8, if_neg c9, if_neg c10, if_neg c11, if_neg c12, if_neg c13])⟩
                          ·
                            refine v_aload_n (pc := 168) hX dX11_joins_168 rfl ?_
                            refine v_iconst (v := 3) (pc := 169) hX dX11_joins_169 (by decide) ?_
                            refine v_callV (z := yX11_fail) (pc := 170) hX dX11_joins_170 (c_fail2 hO m r 3 hs) hs.k rfl wd_1595 wd_1597 wp_19 wd_16 wd_1598 ⟨by decide, by decide, (by decide +kernel : (parseMethodDescriptor yX11_fail.desc).map (fun d => d.parameters.length) = some 1)⟩ rfl (Nat.le_of_ble_eq_true rfl) ⟨⟨by decide, by decide⟩, by decide, by decide⟩ (fun E m9 h9 => h9.elim) (fun r9 m9 h9 => ?_)
                            obtain ⟨rfl, h8⟩ := h9
                            replace h8 := h8.symm
                            subst h8
                            show mV g x _ _ _ _ _ [.int 0]
                            exact v_iret (pc := 173) hX hZ dX11_joins_173 (by decide) (by decide) ⟨(by rw [X11_joins_r, if_neg c1, if_neg c2, if_neg c3, if_pos c4, if_pos c5, if_pos c6, if_pos c7, if_pos c8, if_neg c9, if_neg c10, if_neg c11, if_neg c12, if_pos c13]), (by rw [X11_joins_m, if_neg c1, if_neg c2, if_neg c3, if_pos c4, if_pos c5, if_pos c6, if_pos c7, if_pos c8, if_neg c9, if_neg c10, if_neg c11, if_neg c12, if_pos c13])⟩
                  ·
                    refine v_aload_n (pc := 126) hX dX11_joins_126 rfl ?_
                    refine v_iconst (v := 2) (pc := 127) hX dX11_joins_127 (by decide) ?_
                    refine v_callV (z := yX11_fail) (pc := 128) hX dX11_joins_128 (c_fail2 hO m r 2 hs) hs.k rfl wd_1595 wd_1597 wp_19 wd_16 wd_1598 ⟨by decide, by decide, (by decide +kernel : (parseMethodDescriptor yX11_fail.desc).map (fun d => d.parameters.length) = some 1)⟩ rfl (Nat.le_of_ble_eq_true rfl) ⟨⟨by decide, by decide⟩, by decide, by decide⟩ (fun E m9 h9 => h9.elim) (fun r9 m9 h9 => ?_)
                    obtain ⟨rfl, h8⟩ := h9
                    replace h8 := h8.symm
                    subst h8
                    show mV g x _ _ _ _ _ [.int 0]
                    exact v_iret (pc := 131) hX hZ dX11_joins_131 (by decide) (by decide) ⟨(by rw [X11_joins_r, if_neg c1, if_neg c2, if_neg c3, if_pos c4, if_pos c5, if_pos c6, if_pos c7, if_pos c8, if_pos c9]), (by rw [X11_joins_m, if_neg c1, if_neg c2, if_neg c3, if_pos c4, if_pos c5, if_pos c6, if_pos c7, if_pos c8, if_pos c9])⟩
        ·
          refine v_aload_n (pc := 49) hX dX11_joins_49 rfl ?_
          refine v_iconst (v := 1) (pc := 50) hX dX11_joins_50 (by decide) ?_
          refine v_callV (z := yX11_fail) (pc := 51) hX dX11_joins_51 (c_fail2 hO m r 1 hs) hs.k rfl wd_1595 wd_1597 wp_19 wd_16 wd_1598 ⟨by decide, by decide, (by decide +kernel : (parseMethodDescriptor yX11_fail.desc).map (fun d => d.parameters.length) = some 1)⟩ rfl (Nat.le_of_ble_eq_true rfl) ⟨⟨by decide, by decide⟩, by decide, by decide⟩ (fun E m9 h9 => h9.elim) (fun r9 m9 h9 => ?_)
          obtain ⟨rfl, h8⟩ := h9
          replace h8 := h8.symm
          subst h8
          show mV g x _ _ _ _ _ [.int 0]
          exact v_iret (pc := 54) hX hZ dX11_joins_54 (by decide) (by decide) ⟨(by rw [X11_joins_r, if_neg c1, if_neg c2, if_neg c3, if_neg c4]), (by rw [X11_joins_m, if_neg c1, if_neg c2, if_neg c3, if_neg c4])⟩
def X11_drops_r (g : mG) (m : mM) (r : Nat) (a : Int32)  : Int32 := if 0 ≤ a then (gA ((X11_goes_m g m r a)) (r + 1) (5)) else 0
def X11_drops_m (g : mG) (m : mM) (r : Nat) (a : Int32)  : mM := if 0 ≤ a then ((X11_goes_m g m r a )) else ((sI m 384 r 1))
theorem kK_X11_drops (g : mG) (m : mM) (r : Nat) (a : Int32)  : gK (X11_drops_m g m r a ) = gK m := by
  unfold X11_drops_m
  repeat' split
  all_goals simp only [mm, kK_X11_goes]
theorem kN_X11_drops (g : mG) (m : mM) (r : Nat) (a : Int32)  : gN (X11_drops_m g m r a ) = gN m := by
  unfold X11_drops_m
  repeat' split
  all_goals simp only [mm, kN_X11_goes]
theorem kI_X11_drops (g : mG) (m : mM) (r : Nat) (a : Int32)  (k a9 : Nat) (h0 : k ≠ 384) : gI (X11_drops_m g m r a ) k a9 = gI m k a9 := by
  unfold X11_drops_m
  repeat' split
  all_goals simp [mm, kI_X11_goes, h0]
theorem kJ_X11_drops (g : mG) (m : mM) (r : Nat) (a : Int32)  : gJ (X11_drops_m g m r a ) = gJ m := by
  unfold X11_drops_m
  repeat' split
  all_goals simp only [mm, kJ_X11_goes]
theorem kR_X11_drops (g : mG) (m : mM) (r : Nat) (a : Int32)  : gR (X11_drops_m g m r a ) = gR m := by
  unfold X11_drops_m
  repeat' split
  all_goals simp only [mm, kR_X11_goes]
theorem kQ_X11_drops (g : mG) (m : mM) (r : Nat) (a : Int32)  : gQ (X11_drops_m g m r a ) = gQ m := by
  unfold X11_drops_m
  repeat' split
  all_goals simp only [mm, kQ_X11_goes]
theorem kL_X11_drops (g : mG) (m : mM) (r : Nat) (a : Int32)  : gL (X11_drops_m g m r a ) = gL m := by
  unfold X11_drops_m
  repeat' split
  all_goals simp only [mm, kL_X11_goes]
theorem kD_X11_drops (g : mG) (m : mM) (r : Nat) (a : Int32)  : gD (X11_drops_m g m r a ) = gD m := by
  unfold X11_drops_m
  repeat' split
  all_goals simp only [mm, kD_X11_goes]
theorem kA_X11_drops (g : mG) (m : mM) (r : Nat) (a : Int32)  (c9 i9 : Nat) (h0 : c9 ≠ r + 1) : gA (X11_drops_m g m r a ) c9 i9 = gA m c9 i9 := by
  unfold X11_drops_m
  repeat' split
  all_goals simp [mm, kA_X11_goes, h0]
set_option maxHeartbeats 4000000 in
set_option maxRecDepth 100000 in
theorem c_X11_drops {l : Launch} {g : mG} (hO : mO l g) (m : mM) (r : Nat) (a : Int32)  (hs : SR m r) (hp8 : 0 ≤ a → okI a 7) : mT l g yX11_drops (.code yX11_drops cX11_drops 2 (Option.some FieldType.int)) 3 63 0 0 [.ref r, .int a] m (fun u m' => u = some (.int (X11_drops_r g m r a )) ∧ m' = X11_drops_m g m r a ) nX := by
  refine mT_of hO (by decide) (Nat.le_of_ble_eq_true rfl) (fun x hX hZ => ?_)
  show mV g x m 0 0 0 [(0, .ref r), (1, .int a)] []
  refine v_iload_n (pc := 0) hX dX11_drops_0 rfl ?_
  refine v_if_ge (tgt := 10) (pc := 1) hX dX11_drops_1 (by decide) (fun c1 => ?_) (fun c1 => ?_)
  ·
    have hpp := hp8 (by assumption)
    have hpp2 := hpp.2
    refine v_aload_n (pc := 10) hX dX11_drops_10 rfl ?_
    refine v_iload_n (pc := 11) hX dX11_drops_11 rfl ?_
    refine v_callV (z := yX11_goes) (pc := 12) hX dX11_drops_12 (c_X11_goes hO m r a  hs hpp) hs.k rfl wd_1728 wd_1730 wp_40 wd_16 wd_1731 ⟨by decide, by decide, (by decide +kernel : (parseMethodDescriptor yX11_goes.desc).map (fun d => d.parameters.length) = some 1)⟩ rfl (Nat.le_of_ble_eq_true rfl) ⟨⟨by decide, by decide⟩, by decide, by decide⟩ (fun E m9 h9 => h9.elim) (fun r9 m9 h9 => ?_)
    obtain ⟨rfl, h8⟩ := h9
    replace h8 := h8.symm
    subst h8
    show mV g x _ _ _ _ _ []
    refine v_aload_n (pc := 15) hX dX11_drops_15 rfl ?_
    refine v_get (v := .ref (r + 1)) (pc := 16) hX dX11_drops_16 (by simp only [mm, kK_X11_goes]; exact hs.k) (ci := 12) (r := vwC12) rfl 5 (by decide) wd_1511 (fvA rfl (by simp [mm, kR_X11_goes, hs.r1])) ?_
    refine v_iconst (v := 5) (pc := 19) hX dX11_drops_19 (by decide) ?_
    refine v_iald (j := 5) (v := (gA ((X11_goes_m g m r a)) (r + 1) (5))) (pc := 20) hX dX11_drops_20 (by simp only [mm, kK_X11_goes]; exact hs.k1) rfl (by decide) (by decide) rfl ?_
    exact v_iret (pc := 21) hX hZ dX11_drops_21 (by decide) (by decide) ⟨(by rw [X11_drops_r, if_pos c1]), (by rw [X11_drops_m, if_pos c1])⟩
  ·
    refine v_aload_n (pc := 4) hX dX11_drops_4 rfl ?_
    refine v_iconst (v := 1) (pc := 5) hX dX11_drops_5 (by decide) ?_
    refine v_callV (z := yX11_fail) (pc := 6) hX dX11_drops_6 (c_fail2 hO m r 1 hs) hs.k rfl wd_1595 wd_1597 wp_19 wd_16 wd_1598 ⟨by decide, by decide, (by decide +kernel : (parseMethodDescriptor yX11_fail.desc).map (fun d => d.parameters.length) = some 1)⟩ rfl (Nat.le_of_ble_eq_true rfl) ⟨⟨by decide, by decide⟩, by decide, by decide⟩ (fun E m9 h9 => h9.elim) (fun r9 m9 h9 => ?_)
    obtain ⟨rfl, h8⟩ := h9
    replace h8 := h8.symm
    subst h8
    show mV g x _ _ _ _ _ [.int 0]
    exact v_iret (pc := 9) hX hZ dX11_drops_9 (by decide) (by decide) ⟨(by rw [X11_drops_r, if_neg c1]), (by rw [X11_drops_m, if_neg c1])⟩
