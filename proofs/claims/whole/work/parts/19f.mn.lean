/-! multianewarray: n rows of k numbers -/
def mnM (m : mM) (n k : Nat) : Nat → mM
  | 0 => nw m (.inr (10, n))
  | j + 1 => sQ (nw (mnM m n k j) (.inr (0, k))) (gN m) j (some (gN m + 1 + j))
section
variable {m : mM} {n k : Nat}
theorem mn_N : ∀ j, gN (mnM m n k j) = gN m + 1 + j
  | 0 => by rw [mnM]; simp only [mm]
  | j + 1 => by
    have := mn_N j
    rw [mnM]
    simp only [mm]
    omega
theorem mn_K : ∀ j, gK (mnM m n k j) (gN m) = some (.inr (10, n))
  | 0 => by rw [mnM]; simp [mm]
  | j + 1 => by
    have h := mn_N (m := m) (n := n) (k := k) j
    have ih := mn_K j
    rw [mnM]
    simp only [mm]
    rw [if_neg (by omega)]
    exact ih
theorem mn_P {g : mG} {T : State} {cA comp : ClassId} (hP : mP g m T.heap) (hA : g.2.1 10 = cA) (hC : g.2.1 0 = comp) : ∀ j, mP g (mnM m n k j) (Jvm.Free.Multi.fill T cA comp n k (.int 0) j).heap
  | 0 => by
    have hN := hP.1.1
    rw [mnM]
    refine mP_new hP (by simp [Jvm.Free.Multi.fill, State.pushCell]) (fun q hq => by
      show (T.heap.push _)[q]? = _
      rw [Array.getElem?_push, if_neg (Nat.ne_of_lt hq)]) ?_
    show (T.heap.push _)[T.heap.size]? = some (vp_cell (g.2.1 10) (n, arrOf 10 (nw m (.inr (10, n))) T.heap.size))
    have ha : ∀ m' : mM, arrOf 10 m' (gN m) = .inr (.inr (.inr (.inr (gQ m' (gN m))))) := fun _ => rfl
    have hQ0 : gQ (nw m (.inr (10, n))) (gN m) = fun _ => none := by funext q; simp [mm]
    rw [Array.getElem?_push_size, hN, ha, hQ0, vp_cell_q, hA]
    unfold Jvm.Free.Multi.outerC
    rw [arrV_new]
    rfl
  | j + 1 => by
    have ih := mn_P hP hA hC j
    have hN := hP.1.1
    have hj := mn_N (m := m) (n := n) (k := k) j
    obtain ⟨f1, f2, f3⟩ := Jvm.Free.Multi.fill_facts T cA comp n k (.int 0) j
    rw [mnM]
    generalize hF : Jvm.Free.Multi.fill T cA comp n k (.int 0) j = F at ih f1 f2 f3
    have hI : mP g (nw (mnM m n k j) (.inr (0, k))) (F.heap.push (Jvm.Free.Multi.innerC comp k (.int 0))) := by
      refine mP_new ih (by simp) (fun q hq => by rw [Array.getElem?_push, if_neg (Nat.ne_of_lt hq)]) ?_
      show (F.heap.push _)[F.heap.size]? = some (vp_cell (g.2.1 0) (k, arrOf 0 (nw (mnM m n k j) (.inr (0, k))) F.heap.size))
      have hA0 : gA (nw (mnM m n k j) (.inr (0, k))) (gN (mnM m n k j)) = fun _ => 0 := by funext q; simp [mm]
      rw [Array.getElem?_push_size, ih.1.1]
      simp only [arrOf, hA0, vp_cell_i, hC]
      unfold Jvm.Free.Multi.innerC
      rw [arrV_new]
    have hk0 : gK (nw (mnM m n k j) (.inr (0, k))) (gN m) = some (.inr (10, n)) := by
      simp only [mm]
      rw [if_neg (by omega)]
      exact mn_K j
    have hout : (Jvm.Free.Multi.fill T cA comp n k (.int 0) (j + 1)).heap = (F.heap.push (Jvm.Free.Multi.innerC comp k (.int 0))).setIfInBounds T.heap.size (Jvm.Free.Multi.outerC cA n T.heap.size (j + 1)) := by
      rw [Jvm.Free.Multi.fill, hF]
      rfl
    rw [hout]
    have hc0 := (hI.2.2 _ _ hk0).2
    have hc1 : (F.heap.push (Jvm.Free.Multi.innerC comp k (.int 0)))[gN m]? = some (Jvm.Free.Multi.outerC cA n T.heap.size j) := by
      rw [Array.getElem?_push, if_neg (by omega), ← hN]
      exact f2
    have he : Jvm.Free.Multi.outerC cA n T.heap.size j = vp_cell (g.2.1 10) (n, arrOf 10 (nw (mnM m n k j) (.inr (0, k))) (gN m)) := Option.some.inj (hc1.symm.trans hc0)
    refine mP_arr hI hk0 rfl rfl (fun b hb => mS_Q hb) (by simp) (fun q hq => by rw [Array.getElem?_setIfInBounds_ne (by rw [hN]; exact Ne.symm hq)]) ?_
    rw [hN, Array.getElem?_setIfInBounds_self_of_lt (by rw [Array.size_push]; omega)]
    rw [hN] at he
    rw [Jvm.Free.Multi.outerC, he, show (Value.ref (gN m + 1 + j)) = va_rf (some (gN m + 1 + j)) from rfl]
    have ha : ∀ m' : mM, arrOf 10 m' (gN m) = .inr (.inr (.inr (.inr (gQ m' (gN m))))) := fun _ => rfl
    have e : gQ (sQ (nw (mnM m n k j) (.inr (0, k))) (gN m) j (some (gN m + 1 + j))) (gN m) = fun q => if q = j then some (gN m + 1 + j) else gQ (nw (mnM m n k j) (.inr (0, k))) (gN m) q := by
      funext q
      simp only [mm, true_and]
    rw [ha, ha, cell_q, e]
end

