theorem ix_cl {a : Int32} {N : Nat} (h1 : ¬ a < 0) (h2 : a < nI N) (hN : N < 2 ^ 31) : a.toNatClampNeg < N ∧ a = nI a.toNatClampNeg := by
  obtain ⟨j, hj, rfl⟩ := nI_of h1
  rw [nI_clamp hj]
  exact ⟨(nI_ltI hj hN).mp h2, rfl⟩
theorem n8_lt {N : Nat} (h : ¬ (8 : Int32) ≤ nI N) (hN : N ≤ 8) : N < 8 := by
  rcases Nat.lt_or_ge N 8 with q | q
  · exact q
  · exact absurd (show nI 8 ≤ nI N from nI_le q (by omega)) h
theorem n8_lt' {N : Nat} (h : nI N < (8 : Int32)) (hN : N ≤ 8) : N < 8 := (nI_ltI (b := 8) (by omega) (by decide)).mp h
theorem n4_lt' {N : Nat} (h : nI N < (4 : Int32)) (hN : N ≤ 4) : N < 4 := (nI_ltI (b := 4) (by omega) (by decide)).mp h
theorem find_l {g : mG} {m : mM} {f : Nat} {a : Int32} {N p : Nat} : ∀ (n j : Nat), X3_find_l1 g m f a N n j = some p → ∃ i, j ≤ i ∧ i < j + n ∧ p = pa m f i ∧ gI m 288 p = a ∧ ∀ k, j ≤ k → k < i → gI m 288 (pa m f k) ≠ a := by
  intro n
  induction n with
  | zero => intro j h; cases h
  | succ n ih =>
    intro j h
    rw [X3_find_l1] at h
    by_cases c : gI m 288 (pa m f j) = a
    · rw [if_pos c] at h
      cases h
      exact ⟨j, Nat.le_refl _, by omega, rfl, c, fun k h1 h2 => by omega⟩
    · rw [if_neg c] at h
      obtain ⟨i, h1, h2, h3, h4, h5⟩ := ih (j + 1) h
      refine ⟨i, by omega, by omega, h3, h4, fun k h6 h7 => ?_⟩
      by_cases e : k = j
      · subst e; exact c
      · exact h5 k (by omega) h7
theorem find_at {g : mG} {m : mM} {f : Nat} {a : Int32} {N p : Nat} (h : X3_find_r g m f a N = some p) : ∃ i, i < N ∧ p = pa m f i ∧ gI m 288 p = a ∧ ∀ k, k < i → gI m 288 (pa m f k) ≠ a := by
  obtain ⟨i, -, h2, h3, h4, h5⟩ := find_l N 0 h
  exact ⟨i, by omega, h3, h4, fun k hk => h5 k (Nat.zero_le _) hk⟩
theorem find_no {g : mG} {m : mM} {f : Nat} {a : Int32} {N : Nat} : ∀ (n j : Nat), X3_find_l1 g m f a N n j = none → ∀ k, j ≤ k → k < j + n → gI m 288 (pa m f k) ≠ a := by
  intro n
  induction n with
  | zero => intro j h k h1 h2; omega
  | succ n ih =>
    intro j h k h1 h2
    rw [X3_find_l1] at h
    by_cases c : gI m 288 (pa m f j) = a
    · rw [if_pos c] at h; cases h
    · rw [if_neg c] at h
      by_cases e : k = j
      · subst e; exact c
      · exact ih (j + 1) h k (by omega) (by omega)
theorem find_k {g : mG} {m : mM} {f : Nat} {a : Int32} {N p : Nat} (hs : SF m f) (hN8 : N ≤ 8) (h : X3_find_r g m f a N = some p) : gK m p = some (.inl 9) := by
  obtain ⟨i, h1, rfl, -⟩ := find_at h
  exact hs.kp (by omega)
def X3_pieceIn_r (g : mG) (m : mM) (f : Nat) (a : Int32) (N : Nat) : Option Nat := if a < 0 then none else (if a < (nI N) then (some (pa m f a.toNatClampNeg)) else none)

set_option maxHeartbeats 4000000 in
set_option maxRecDepth 100000 in
theorem c_X3_pieceIn {l : Launch} {g : mG} (hO : mO l g) (m : mM) (f : Nat) (a : Int32) (N : Nat) (hs : SF m f) (hN : gI m 163 f = nI N) (hN8 : N ≤ 8) : mT l g yX3_pieceIn (.code yX3_pieceIn cX3_pieceIn 2 (Option.some (FieldType.object "BirdForge$Piece"))) 1 20 0 0 [.ref f, .int a] m (fun r m' => r = some (va_rf (X3_pieceIn_r g m f a N)) ∧ m' = m) nX := by
  refine mT_of hO (by decide) (Nat.le_of_ble_eq_true rfl) (fun x hX hZ => ?_)
  show mV g x m 0 0 0 [(0, .ref f), (1, .int a)] []
  refine v_iload_n (pc := 0) hX dX3_pieceIn_0 rfl ?_
  refine v_if_lt (tgt := 12) (pc := 1) hX dX3_pieceIn_1 (by decide) (fun c1 => ?_) (fun c1 => ?_)
  ·
    refine v_aconst_null (pc := 12) hX dX3_pieceIn_12 ?_
    exact v_aret (v := none) (pc := 13) hX hZ dX3_pieceIn_13 (Or.inl ⟨_, rfl⟩) (by decide) (by decide) ⟨(by rw [X3_pieceIn_r, if_pos c1]), rfl⟩
  ·
    refine v_iload_n (pc := 4) hX dX3_pieceIn_4 rfl ?_
    refine v_aload_n (pc := 5) hX dX3_pieceIn_5 rfl ?_
    refine v_get (v := .int (nI N)) (pc := 6) hX dX3_pieceIn_6 hs.k (ci := 5) (r := vwC5) rfl 3 (by decide) wd_155 (congrArg Value.int (by exact hN)) ?_
    refine v_icmp_lt (tgt := 14) (pc := 9) hX dX3_pieceIn_9 (by decide) (fun c2 => ?_) (fun c2 => ?_)
    ·
      refine v_aload_n (pc := 14) hX dX3_pieceIn_14 rfl ?_
      refine v_get (v := .ref (f + 2)) (pc := 15) hX dX3_pieceIn_15 hs.k (ci := 5) (r := vwC5) rfl 1 (by decide) wd_152 (fvR (by exact hs.r1)) ?_
      refine v_iload_n (pc := 18) hX dX3_pieceIn_18 rfl ?_
      refine v_aaldR (q := pa m f a.toNatClampNeg) (pc := 19) hX dX3_pieceIn_19 hs.k2 (by decide) (by decide) (ix_cl (a := a) (N := N) (by assumption) (by assumption) (by omega)).2 (by have := (ix_cl (a := a) (N := N) (by assumption) (by assumption) (by omega)).1; omega) (by decide) (hs.qp (by have := (ix_cl (a := a) (N := N) (by assumption) (by assumption) (by omega)).1; omega)) ?_
      exact v_aret (v := some (pa m f a.toNatClampNeg)) (pc := 20) hX hZ dX3_pieceIn_20 (Or.inl ⟨_, rfl⟩) (by decide) (by decide) ⟨(by rw [X3_pieceIn_r, if_neg c1, if_pos c2]), rfl⟩
    ·
      refine v_aconst_null (pc := 12) hX dX3_pieceIn_12 ?_
      exact v_aret (v := none) (pc := 13) hX hZ dX3_pieceIn_13 (Or.inl ⟨_, rfl⟩) (by decide) (by decide) ⟨(by rw [X3_pieceIn_r, if_neg c1, if_neg c2]), rfl⟩
def X3_hammerIn_r (g : mG) (m : mM) (f : Nat) (a : Int32) (H : Nat) : Option Nat := if a < 0 then none else (if a < (nI H) then (some (f + 12 + a.toNatClampNeg)) else none)

set_option maxHeartbeats 4000000 in
set_option maxRecDepth 100000 in
theorem c_X3_hammerIn {l : Launch} {g : mG} (hO : mO l g) (m : mM) (f : Nat) (a : Int32) (H : Nat) (hs : SF m f) (hH : gI m 164 f = nI H) (hH4 : H ≤ 4) : mT l g yX3_hammerIn (.code yX3_hammerIn cX3_hammerIn 2 (Option.some (FieldType.object "BirdForge$Hammer"))) 1 20 0 0 [.ref f, .int a] m (fun r m' => r = some (va_rf (X3_hammerIn_r g m f a H)) ∧ m' = m) nX := by
  refine mT_of hO (by decide) (Nat.le_of_ble_eq_true rfl) (fun x hX hZ => ?_)
  show mV g x m 0 0 0 [(0, .ref f), (1, .int a)] []
  refine v_iload_n (pc := 0) hX dX3_hammerIn_0 rfl ?_
  refine v_if_lt (tgt := 12) (pc := 1) hX dX3_hammerIn_1 (by decide) (fun c1 => ?_) (fun c1 => ?_)
  ·
    refine v_aconst_null (pc := 12) hX dX3_hammerIn_12 ?_
    exact v_aret (v := none) (pc := 13) hX hZ dX3_hammerIn_13 (Or.inl ⟨_, rfl⟩) (by decide) (by decide) ⟨(by rw [X3_hammerIn_r, if_pos c1]), rfl⟩
  ·
    refine v_iload_n (pc := 4) hX dX3_hammerIn_4 rfl ?_
    refine v_aload_n (pc := 5) hX dX3_hammerIn_5 rfl ?_
    refine v_get (v := .int (nI H)) (pc := 6) hX dX3_hammerIn_6 hs.k (ci := 5) (r := vwC5) rfl 4 (by decide) wd_158 (congrArg Value.int (by exact hH)) ?_
    refine v_icmp_lt (tgt := 14) (pc := 9) hX dX3_hammerIn_9 (by decide) (fun c2 => ?_) (fun c2 => ?_)
    ·
      refine v_aload_n (pc := 14) hX dX3_hammerIn_14 rfl ?_
      refine v_get (v := .ref (f + 3)) (pc := 15) hX dX3_hammerIn_15 hs.k (ci := 5) (r := vwC5) rfl 2 (by decide) wd_154 (fvR (by exact hs.r2)) ?_
      refine v_iload_n (pc := 18) hX dX3_hammerIn_18 rfl ?_
      refine v_aaldR (q := f + 12 + a.toNatClampNeg) (pc := 19) hX dX3_hammerIn_19 hs.k3 (by decide) (by decide) (ix_cl (a := a) (N := H) (by assumption) (by assumption) (by omega)).2 (by have := (ix_cl (a := a) (N := H) (by assumption) (by assumption) (by omega)).1; omega) (by decide) (hs.qh (by have := (ix_cl (a := a) (N := H) (by assumption) (by assumption) (by omega)).1; omega)) ?_
      exact v_aret (v := some (f + 12 + a.toNatClampNeg)) (pc := 20) hX hZ dX3_hammerIn_20 (Or.inl ⟨_, rfl⟩) (by decide) (by decide) ⟨(by rw [X3_hammerIn_r, if_neg c1, if_pos c2]), rfl⟩
    ·
      refine v_aconst_null (pc := 12) hX dX3_hammerIn_12 ?_
      exact v_aret (v := none) (pc := 13) hX hZ dX3_hammerIn_13 (Or.inl ⟨_, rfl⟩) (by decide) (by decide) ⟨(by rw [X3_hammerIn_r, if_neg c1, if_neg c2]), rfl⟩
theorem hamIn_k {g : mG} {m : mM} {f : Nat} {a : Int32} {H p : Nat} (hs : SF m f) (hH4 : H ≤ 4) (h : X3_hammerIn_r g m f a H = some p) : gK m p = some (.inl 7) := by
  unfold X3_hammerIn_r at h
  by_cases c1 : a < 0
  · rw [if_pos c1] at h; cases h
  · rw [if_neg c1] at h
    by_cases c2 : a < nI H
    · rw [if_pos c2] at h
      cases h
      exact hs.kh (by have := (ix_cl c1 c2 (by omega)).1; omega)
    · rw [if_neg c2] at h; cases h
