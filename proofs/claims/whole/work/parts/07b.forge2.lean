theorem ix_cl {a : Int32} {N : Nat} (h1 : ¬ a < 0) (h2 : a < nI N) (hN : N < 2 ^ 31) : a.toNatClampNeg < N ∧ a = nI a.toNatClampNeg := by
  obtain ⟨j, hj, rfl⟩ := nI_of h1
  rw [nI_clamp hj]
  exact ⟨(nI_ltI hj hN).mp h2, rfl⟩
theorem n8_lt {N : Nat} (h : ¬ (8 : Int32) ≤ nI N) (hN : N ≤ 8) : N < 8 := by
  rcases Nat.lt_or_ge N 8 with q | q
  · exact q
  · exact absurd (show nI 8 ≤ nI N from nI_le q (by omega)) h
theorem n8_lt' {N : Nat} (h : nI N < (8 : Int32)) (hN : N ≤ 8) : N < 8 := (nI_ltI (b := 8) (by omega) (by decide)).mp h
theorem n4_lt' {N : Nat} (h : nI N < (4 : Int32)) (hN : N ≤ 4) : N < 4 := (nI_ltI (b := 4) (by omega) (by decide)).mp h
theorem find_l {g : mG} {m : mM} {f : Nat} {a : Int32} {N p : Nat} : ∀ (n j : Nat), X3_find_l1 g m f a N n j = some p → ∃ i, j ≤ i ∧ i < j + n ∧ p = pa m f i ∧ gI m 288 p = a ∧ ∀ k, j ≤ k → k < i → gI m 288 (pa m f k) ≠ a := by
  intro n
  induction n with
  | zero => intro j h; cases h
  | succ n ih =>
    intro j h
    rw [X3_find_l1] at h
    by_cases c : gI m 288 (pa m f j) = a
    · rw [if_pos c] at h
      cases h
      exact ⟨j, Nat.le_refl _, by omega, rfl, c, fun k h1 h2 => by omega⟩
    · rw [if_neg c] at h
      obtain ⟨i, h1, h2, h3, h4, h5⟩ := ih (j + 1) h
      refine ⟨i, by omega, by omega, h3, h4, fun k h6 h7 => ?_⟩
      by_cases e : k = j
      · subst e; exact c
      · exact h5 k (by omega) h7
theorem find_at {g : mG} {m : mM} {f : Nat} {a : Int32} {N p : Nat} (h : X3_find_r g m f a N = some p) : ∃ i, i < N ∧ p = pa m f i ∧ gI m 288 p = a ∧ ∀ k, k < i → gI m 288 (pa m f k) ≠ a := by
  obtain ⟨i, -, h2, h3, h4, h5⟩ := find_l N 0 h
  exact ⟨i, by omega, h3, h4, fun k hk => h5 k (Nat.zero_le _) hk⟩
theorem find_no {g : mG} {m : mM} {f : Nat} {a : Int32} {N : Nat} : ∀ (n j : Nat), X3_find_l1 g m f a N n j = none → ∀ k, j ≤ k → k < j + n → gI m 288 (pa m f k) ≠ a := by
  intro n
  induction n with
  | zero => intro j h k h1 h2; omega
  | succ n ih =>
    intro j h k h1 h2
    rw [X3_find_l1] at h
    by_cases c : gI m 288 (pa m f j) = a
    · rw [if_pos c] at h; cases h
    · rw [if_neg c] at h
      by_cases e : k = j
      · subst e; exact c
      · exact ih (j + 1) h k (by omega) (by omega)
theorem find_k {g : mG} {m : mM} {f : Nat} {a : Int32} {N p : Nat} (hs : SF m f) (hN8 : N ≤ 8) (h : X3_find_r g m f a N = some p) : gK m p = some (.inl 9) := by
  obtain ⟨i, h1, rfl, -⟩ := find_at h
  exact hs.kp (by omega)
theorem find_b {g : mG} {m : mM} {f : Nat} {a : Int32} {N p : Nat} (hs : SF m f) (hN8 : N ≤ 8) (h : X3_find_r g m f a N = some p) : f + 4 ≤ p ∧ p < f + 12 := by
  obtain ⟨i, h1, rfl, -⟩ := find_at h
  exact ⟨hs.lo (by omega), hs.hi (by omega)⟩
def X3_pieceIn_r (g : mG) (m : mM) (f : Nat) (a : Int32) (N : Nat) : Option Nat := if a < 0 then none else (if a < (nI N) then (some (pa m f a.toNatClampNeg)) else none)

set_option maxHeartbeats 4000000 in
set_option maxRecDepth 100000 in
theorem c_X3_pieceIn {l : Launch} {g : mG} (hO : mO l g) (m : mM) (f : Nat) (a : Int32) (N : Nat) (hs : SF m f) (hN : gI m 163 f = nI N) (hN8 : N ≤ 8) : mT l g yX3_pieceIn (.code yX3_pieceIn cX3_pieceIn 2 (Option.some (FieldType.object "BirdForge$Piece"))) 1 20 0 0 [.ref f, .int a] m (fun r m' => r = some (va_rf (X3_pieceIn_r g m f a N)) ∧ m' = m) nX := by
  refine mT_of hO (by decide) (Nat.le_of_ble_eq_true rfl) (fun x hX hZ => ?_)
  show mV g x m 0 0 0 [(0, .ref f), (1, .int a)] []
  refine v_iload_n (pc := 0) hX dX3_pieceIn_0 rfl ?_
  refine v_if_lt (tgt := 12) (pc := 1) hX dX3_pieceIn_1 (by decide) (fun c1 => ?_) (fun c1 => ?_)
  ·
    refine v_aconst_null (pc := 12) hX dX3_pieceIn_12 ?_
    exact v_aret (v := none) (pc := 13) hX hZ dX3_pieceIn_13 (Or.inl ⟨_, rfl⟩) (by decide) (by decide) ⟨(by rw [X3_pieceIn_r, if_pos c1]), rfl⟩
  ·
    refine v_iload_n (pc := 4) hX dX3_pieceIn_4 rfl ?_
    refine v_aload_n (pc := 5) hX dX3_pieceIn_5 rfl ?_
    refine v_get (v := .int (nI N)) (pc := 6) hX dX3_pieceIn_6 hs.k (ci := 5) (r := vwC5) rfl 3 (by decide) wd_155 (congrArg Value.int hN) ?_
    refine v_icmp_lt (tgt := 14) (pc := 9) hX dX3_pieceIn_9 (by decide) (fun c2 => ?_) (fun c2 => ?_)
    ·
      refine v_aload_n (pc := 14) hX dX3_pieceIn_14 rfl ?_
      refine v_get (v := .ref (f + 2)) (pc := 15) hX dX3_pieceIn_15 hs.k (ci := 5) (r := vwC5) rfl 1 (by decide) wd_152 (fvR hs.r1) ?_
      refine v_iload_n (pc := 18) hX dX3_pieceIn_18 rfl ?_
      refine v_aaldR (q := pa m f a.toNatClampNeg) (pc := 19) hX dX3_pieceIn_19 hs.k2 (by decide) (by decide) (ix_cl (a := a) (N := N) (by assumption) (by assumption) (by omega)).2 (by have := (ix_cl (a := a) (N := N) (by assumption) (by assumption) (by omega)).1; omega) (by decide) (hs.qp (by have := (ix_cl (a := a) (N := N) (by assumption) (by assumption) (by omega)).1; omega)) ?_
      exact v_aret (v := some (pa m f a.toNatClampNeg)) (pc := 20) hX hZ dX3_pieceIn_20 (Or.inl ⟨_, rfl⟩) (by decide) (by decide) ⟨(by rw [X3_pieceIn_r, if_neg c1, if_pos c2]), rfl⟩
    ·
      refine v_aconst_null (pc := 12) hX dX3_pieceIn_12 ?_
      exact v_aret (v := none) (pc := 13) hX hZ dX3_pieceIn_13 (Or.inl ⟨_, rfl⟩) (by decide) (by decide) ⟨(by rw [X3_pieceIn_r, if_neg c1, if_neg c2]), rfl⟩
def X3_hammerIn_r (g : mG) (m : mM) (f : Nat) (a : Int32) (H : Nat) : Option Nat := if a < 0 then none else (if a < (nI H) then (some (f + 12 + a.toNatClampNeg)) else none)

set_option maxHeartbeats 4000000 in
set_option maxRecDepth 100000 in
theorem c_X3_hammerIn {l : Launch} {g : mG} (hO : mO l g) (m : mM) (f : Nat) (a : Int32) (H : Nat) (hs : SF m f) (hH : gI m 164 f = nI H) (hH4 : H ≤ 4) : mT l g yX3_hammerIn (.code yX3_hammerIn cX3_hammerIn 2 (Option.some (FieldType.object "BirdForge$Hammer"))) 1 20 0 0 [.ref f, .int a] m (fun r m' => r = some (va_rf (X3_hammerIn_r g m f a H)) ∧ m' = m) nX := by
  refine mT_of hO (by decide) (Nat.le_of_ble_eq_true rfl) (fun x hX hZ => ?_)
  show mV g x m 0 0 0 [(0, .ref f), (1, .int a)] []
  refine v_iload_n (pc := 0) hX dX3_hammerIn_0 rfl ?_
  refine v_if_lt (tgt := 12) (pc := 1) hX dX3_hammerIn_1 (by decide) (fun c1 => ?_) (fun c1 => ?_)
  ·
    refine v_aconst_null (pc := 12) hX dX3_hammerIn_12 ?_
    exact v_aret (v := none) (pc := 13) hX hZ dX3_hammerIn_13 (Or.inl ⟨_, rfl⟩) (by decide) (by decide) ⟨(by rw [X3_hammerIn_r, if_pos c1]), rfl⟩
  ·
    refine v_iload_n (pc := 4) hX dX3_hammerIn_4 rfl ?_
    refine v_aload_n (pc := 5) hX dX3_hammerIn_5 rfl ?_
    refine v_get (v := .int (nI H)) (pc := 6) hX dX3_hammerIn_6 hs.k (ci := 5) (r := vwC5) rfl 4 (by decide) wd_158 (congrArg Value.int hH) ?_
    refine v_icmp_lt (tgt := 14) (pc := 9) hX dX3_hammerIn_9 (by decide) (fun c2 => ?_) (fun c2 => ?_)
    ·
      refine v_aload_n (pc := 14) hX dX3_hammerIn_14 rfl ?_
      refine v_get (v := .ref (f + 3)) (pc := 15) hX dX3_hammerIn_15 hs.k (ci := 5) (r := vwC5) rfl 2 (by decide) wd_154 (fvR hs.r2) ?_
      refine v_iload_n (pc := 18) hX dX3_hammerIn_18 rfl ?_
      refine v_aaldR (q := f + 12 + a.toNatClampNeg) (pc := 19) hX dX3_hammerIn_19 hs.k3 (by decide) (by decide) (ix_cl (a := a) (N := H) (by assumption) (by assumption) (by omega)).2 (by have := (ix_cl (a := a) (N := H) (by assumption) (by assumption) (by omega)).1; omega) (by decide) (hs.qh (by have := (ix_cl (a := a) (N := H) (by assumption) (by assumption) (by omega)).1; omega)) ?_
      exact v_aret (v := some (f + 12 + a.toNatClampNeg)) (pc := 20) hX hZ dX3_hammerIn_20 (Or.inl ⟨_, rfl⟩) (by decide) (by decide) ⟨(by rw [X3_hammerIn_r, if_neg c1, if_pos c2]), rfl⟩
    ·
      refine v_aconst_null (pc := 12) hX dX3_hammerIn_12 ?_
      exact v_aret (v := none) (pc := 13) hX hZ dX3_hammerIn_13 (Or.inl ⟨_, rfl⟩) (by decide) (by decide) ⟨(by rw [X3_hammerIn_r, if_neg c1, if_neg c2]), rfl⟩
theorem hamIn_k {g : mG} {m : mM} {f : Nat} {a : Int32} {H p : Nat} (hs : SF m f) (hH4 : H ≤ 4) (h : X3_hammerIn_r g m f a H = some p) : gK m p = some (.inl 7) := by
  unfold X3_hammerIn_r at h
  by_cases c1 : a < 0
  · rw [if_pos c1] at h; cases h
  · rw [if_neg c1] at h
    by_cases c2 : a < nI H
    · rw [if_pos c2] at h
      cases h
      exact hs.kh (by have := (ix_cl c1 c2 (by omega)).1; omega)
    · rw [if_neg c2] at h; cases h
theorem hamIn_b {g : mG} {m : mM} {f : Nat} {a : Int32} {H p : Nat} (hs : SF m f) (hH4 : H ≤ 4) (h : X3_hammerIn_r g m f a H = some p) : f + 12 ≤ p ∧ p < f + 16 := by
  unfold X3_hammerIn_r at h
  by_cases c1 : a < 0
  · rw [if_pos c1] at h; cases h
  · rw [if_neg c1] at h
    by_cases c2 : a < nI H
    · rw [if_pos c2] at h
      cases h
      have := (ix_cl c1 c2 (by omega)).1
      omega
    · rw [if_neg c2] at h; cases h
def X3_storeCoal_r (g : mG) (m : mM) (f : Nat) (a : Int32)  : Int32 := if a < 1 then ((-3)) else (if a ≤ 50 then (if ((gI m 194 (f + 1)) + a) ≤ 99 then ((gI m 194 (f + 1)) + a) else ((-4))) else ((-3)))
def X3_storeCoal_m (g : mG) (m : mM) (f : Nat) (a : Int32)  : mM := if a < 1 then m else (if a ≤ 50 then (if ((gI m 194 (f + 1)) + a) ≤ 99 then ((sJ (sI m 194 (f + 1) ((gI m 194 (f + 1)) + a)) 171 f ((gJ m 171 f) + a.toInt64))) else m) else m)
theorem kK_X3_storeCoal (g : mG) (m : mM) (f : Nat) (a : Int32)  : gK (X3_storeCoal_m g m f a ) = gK m := by
  unfold X3_storeCoal_m
  repeat' split
  all_goals simp only [mm]
theorem kN_X3_storeCoal (g : mG) (m : mM) (f : Nat) (a : Int32)  : gN (X3_storeCoal_m g m f a ) = gN m := by
  unfold X3_storeCoal_m
  repeat' split
  all_goals simp only [mm]
theorem kI_X3_storeCoal (g : mG) (m : mM) (f : Nat) (a : Int32)  (k a9 : Nat) (h0 : k ≠ 194) : gI (X3_storeCoal_m g m f a ) k a9 = gI m k a9 := by
  unfold X3_storeCoal_m
  repeat' split
  all_goals simp [mm, h0]
theorem kJ_X3_storeCoal (g : mG) (m : mM) (f : Nat) (a : Int32)  (k a9 : Nat) (h0 : k ≠ 171) : gJ (X3_storeCoal_m g m f a ) k a9 = gJ m k a9 := by
  unfold X3_storeCoal_m
  repeat' split
  all_goals simp [mm, h0]
theorem kR_X3_storeCoal (g : mG) (m : mM) (f : Nat) (a : Int32)  : gR (X3_storeCoal_m g m f a ) = gR m := by
  unfold X3_storeCoal_m
  repeat' split
  all_goals simp only [mm]
theorem kA_X3_storeCoal (g : mG) (m : mM) (f : Nat) (a : Int32)  : gA (X3_storeCoal_m g m f a ) = gA m := by
  unfold X3_storeCoal_m
  repeat' split
  all_goals simp only [mm]
theorem kQ_X3_storeCoal (g : mG) (m : mM) (f : Nat) (a : Int32)  : gQ (X3_storeCoal_m g m f a ) = gQ m := by
  unfold X3_storeCoal_m
  repeat' split
  all_goals simp only [mm]
theorem kL_X3_storeCoal (g : mG) (m : mM) (f : Nat) (a : Int32)  : gL (X3_storeCoal_m g m f a ) = gL m := by
  unfold X3_storeCoal_m
  repeat' split
  all_goals simp only [mm]
theorem kD_X3_storeCoal (g : mG) (m : mM) (f : Nat) (a : Int32)  : gD (X3_storeCoal_m g m f a ) = gD m := by
  unfold X3_storeCoal_m
  repeat' split
  all_goals simp only [mm]
theorem fr_X3_storeCoal (g : mG) (m : mM) (f : Nat) (a : Int32)  (hs : SF m f) : Fr f (f + 16) m (X3_storeCoal_m g m f a ) := by
  unfold X3_storeCoal_m
  split
  ·
    exact Fr.rf
  ·
    split
    ·
      split
      ·
        exact ((((Fr.rf).I (by first | omega | (have h3_ := n8_lt' (by assumption) hN8; omega) | (have h3_ := n4_lt' (by assumption) hH4; omega)))).J (by first | omega | (have h3_ := n8_lt' (by assumption) hN8; omega) | (have h3_ := n4_lt' (by assumption) hH4; omega)))
      ·
        exact Fr.rf
    ·
      exact Fr.rf
set_option maxHeartbeats 4000000 in
set_option maxRecDepth 100000 in
theorem c_X3_storeCoal {l : Launch} {g : mG} (hO : mO l g) (m : mM) (f : Nat) (a : Int32)  (hs : SF m f) : mT l g yX3_storeCoal (.code yX3_storeCoal cX3_storeCoal 2 (Option.some FieldType.int)) 1 20 0 0 [.ref f, .int a] m (fun r m' => r = some (.int (X3_storeCoal_r g m f a )) ∧ m' = X3_storeCoal_m g m f a ) nX := by
  refine mT_of hO (by decide) (Nat.le_of_ble_eq_true rfl) (fun x hX hZ => ?_)
  show mV g x m 0 0 0 [(0, .ref f), (1, .int a)] []
  refine v_iload_n (pc := 0) hX dX3_storeCoal_0 rfl ?_
  refine v_iconst (v := 1) (pc := 1) hX dX3_storeCoal_1 (by decide) ?_
  refine v_icmp_lt (tgt := 11) (pc := 2) hX dX3_storeCoal_2 (by decide) (fun c1 => ?_) (fun c1 => ?_)
  ·
    refine v_bipush (v := (-3)) (pc := 11) hX dX3_storeCoal_11 (by decide) ?_
    exact v_iret (pc := 13) hX hZ dX3_storeCoal_13 (by decide) (by decide) ⟨(by rw [X3_storeCoal_r, if_pos c1]), (by rw [X3_storeCoal_m, if_pos c1])⟩
  ·
    refine v_iload_n (pc := 5) hX dX3_storeCoal_5 rfl ?_
    refine v_bipush (v := 50) (pc := 6) hX dX3_storeCoal_6 (by decide) ?_
    refine v_icmp_le (tgt := 14) (pc := 8) hX dX3_storeCoal_8 (by decide) (fun c2 => ?_) (fun c2 => ?_)
    ·
      refine v_aload_n (pc := 14) hX dX3_storeCoal_14 rfl ?_
      refine v_get (v := .ref (f + 1)) (pc := 15) hX dX3_storeCoal_15 hs.k (ci := 5) (r := vwC5) rfl 0 (by decide) wd_149 (fvR hs.r0) ?_
      refine v_getN (v := .int (gI m 194 (f + 1))) (pc := 18) hX dX3_storeCoal_18 hs.k1 (ci := 6) (r := vwC6) rfl 2 (by decide) wd_65 rfl ?_
      refine v_iload_n (pc := 21) hX dX3_storeCoal_21 rfl ?_
      refine v_iadd (pc := 22) hX dX3_storeCoal_22 ?_
      refine v_bipush (v := 99) (pc := 23) hX dX3_storeCoal_23 (by decide) ?_
      refine v_icmp_le (tgt := 31) (pc := 25) hX dX3_storeCoal_25 (by decide) (fun c3 => ?_) (fun c3 => ?_)
      ·
        refine v_aload_n (pc := 31) hX dX3_storeCoal_31 rfl ?_
        refine v_get (v := .ref (f + 1)) (pc := 32) hX dX3_storeCoal_32 hs.k (ci := 5) (r := vwC5) rfl 0 (by decide) wd_149 (fvR hs.r0) ?_
        refine v_dup (pc := 35) hX dX3_storeCoal_35 rfl ?_
        refine v_getN (v := .int (gI m 194 (f + 1))) (pc := 36) hX dX3_storeCoal_36 hs.k1 (ci := 6) (r := vwC6) rfl 2 (by decide) wd_65 rfl ?_
        refine v_iload_n (pc := 39) hX dX3_storeCoal_39 rfl ?_
        refine v_iadd (pc := 40) hX dX3_storeCoal_40 ?_
        refine v_putN (m1 := (sI m 194 (f + 1) ((gI m 194 (f + 1)) + a))) (pc := 41) hX dX3_storeCoal_41 hs.k1 (ci := 6) (r := vwC6) rfl 2 (by decide) wd_65 rfl rfl rfl rfl ?_
        refine v_aload_n (pc := 44) hX dX3_storeCoal_44 rfl ?_
        refine v_dup (pc := 45) hX dX3_storeCoal_45 rfl ?_
        refine v_get (v := .long (gJ m 171 f)) (pc := 46) hX dX3_storeCoal_46 (by simp only [mm]; exact hs.k) (ci := 5) (r := vwC5) rfl 11 (by decide) wd_171 (by show Value.long _ = Value.long _; simp [mm]) ?_
        refine v_iload_n (pc := 49) hX dX3_storeCoal_49 rfl ?_
        refine v_i2l (pc := 50) hX dX3_storeCoal_50 ?_
        refine v_ladd (pc := 51) hX dX3_storeCoal_51 ?_
        refine v_put (m1 := (sJ (sI m 194 (f + 1) ((gI m 194 (f + 1)) + a)) 171 f ((gJ m 171 f) + a.toInt64))) (pc := 52) hX dX3_storeCoal_52 (by simp only [mm]; exact hs.k) (ci := 5) (r := vwC5) rfl 11 (by decide) wd_171 rfl rfl rfl rfl ?_
        refine v_aload_n (pc := 55) hX dX3_storeCoal_55 rfl ?_
        refine v_get (v := .ref (f + 1)) (pc := 56) hX dX3_storeCoal_56 (by simp only [mm]; exact hs.k) (ci := 5) (r := vwC5) rfl 0 (by decide) wd_149 (fvR (by simp [mm, hs.r0])) ?_
        refine v_getN (v := .int ((gI m 194 (f + 1)) + a)) (pc := 59) hX dX3_storeCoal_59 (by simp only [mm]; exact hs.k1) (ci := 6) (r := vwC6) rfl 2 (by decide) wd_65 (by show Value.int _ = Value.int _; simp [mm]) ?_
        exact v_iret (pc := 62) hX hZ dX3_storeCoal_62 (by decide) (by decide) ⟨(by rw [X3_storeCoal_r, if_neg c1, if_pos c2, if_pos c3]), (by rw [X3_storeCoal_m, if_neg c1, if_pos c2, if_pos c3])⟩
      ·
        refine v_bipush (v := (-4)) (pc := 28) hX dX3_storeCoal_28 (by decide) ?_
        exact v_iret (pc := 30) hX hZ dX3_storeCoal_30 (by decide) (by decide) ⟨(by rw [X3_storeCoal_r, if_neg c1, if_pos c2, if_neg c3]), (by rw [X3_storeCoal_m, if_neg c1, if_pos c2, if_neg c3])⟩
    ·
      refine v_bipush (v := (-3)) (pc := 11) hX dX3_storeCoal_11 (by decide) ?_
      exact v_iret (pc := 13) hX hZ dX3_storeCoal_13 (by decide) (by decide) ⟨(by rw [X3_storeCoal_r, if_neg c1, if_neg c2]), (by rw [X3_storeCoal_m, if_neg c1, if_neg c2])⟩
def X3_changeLevel_r (g : mG) (m : mM) (f : Nat) (a : Int32)  : Int32 := if a < 0 then ((-3)) else (if a ≤ 5 then (gI m 193 (f + 1)) else ((-3)))
def X3_changeLevel_m (g : mG) (m : mM) (f : Nat) (a : Int32)  : mM := if a < 0 then m else (if a ≤ 5 then ((sI m 193 (f + 1) a)) else m)
theorem kK_X3_changeLevel (g : mG) (m : mM) (f : Nat) (a : Int32)  : gK (X3_changeLevel_m g m f a ) = gK m := by
  unfold X3_changeLevel_m
  repeat' split
  all_goals simp only [mm]
theorem kN_X3_changeLevel (g : mG) (m : mM) (f : Nat) (a : Int32)  : gN (X3_changeLevel_m g m f a ) = gN m := by
  unfold X3_changeLevel_m
  repeat' split
  all_goals simp only [mm]
theorem kI_X3_changeLevel (g : mG) (m : mM) (f : Nat) (a : Int32)  (k a9 : Nat) (h0 : k ≠ 193) : gI (X3_changeLevel_m g m f a ) k a9 = gI m k a9 := by
  unfold X3_changeLevel_m
  repeat' split
  all_goals simp [mm, h0]
theorem kJ_X3_changeLevel (g : mG) (m : mM) (f : Nat) (a : Int32)  : gJ (X3_changeLevel_m g m f a ) = gJ m := by
  unfold X3_changeLevel_m
  repeat' split
  all_goals simp only [mm]
theorem kR_X3_changeLevel (g : mG) (m : mM) (f : Nat) (a : Int32)  : gR (X3_changeLevel_m g m f a ) = gR m := by
  unfold X3_changeLevel_m
  repeat' split
  all_goals simp only [mm]
theorem kA_X3_changeLevel (g : mG) (m : mM) (f : Nat) (a : Int32)  : gA (X3_changeLevel_m g m f a ) = gA m := by
  unfold X3_changeLevel_m
  repeat' split
  all_goals simp only [mm]
theorem kQ_X3_changeLevel (g : mG) (m : mM) (f : Nat) (a : Int32)  : gQ (X3_changeLevel_m g m f a ) = gQ m := by
  unfold X3_changeLevel_m
  repeat' split
  all_goals simp only [mm]
theorem kL_X3_changeLevel (g : mG) (m : mM) (f : Nat) (a : Int32)  : gL (X3_changeLevel_m g m f a ) = gL m := by
  unfold X3_changeLevel_m
  repeat' split
  all_goals simp only [mm]
theorem kD_X3_changeLevel (g : mG) (m : mM) (f : Nat) (a : Int32)  : gD (X3_changeLevel_m g m f a ) = gD m := by
  unfold X3_changeLevel_m
  repeat' split
  all_goals simp only [mm]
theorem fr_X3_changeLevel (g : mG) (m : mM) (f : Nat) (a : Int32)  (hs : SF m f) : Fr f (f + 16) m (X3_changeLevel_m g m f a ) := by
  unfold X3_changeLevel_m
  split
  ·
    exact Fr.rf
  ·
    split
    ·
      exact ((Fr.rf).I (by first | omega | (have h3_ := n8_lt' (by assumption) hN8; omega) | (have h3_ := n4_lt' (by assumption) hH4; omega)))
    ·
      exact Fr.rf
set_option maxHeartbeats 4000000 in
set_option maxRecDepth 100000 in
theorem c_X3_changeLevel {l : Launch} {g : mG} (hO : mO l g) (m : mM) (f : Nat) (a : Int32)  (hs : SF m f) : mT l g yX3_changeLevel (.code yX3_changeLevel cX3_changeLevel 3 (Option.some FieldType.int)) 1 20 0 0 [.ref f, .int a] m (fun r m' => r = some (.int (X3_changeLevel_r g m f a )) ∧ m' = X3_changeLevel_m g m f a ) nX := by
  refine mT_of hO (by decide) (Nat.le_of_ble_eq_true rfl) (fun x hX hZ => ?_)
  show mV g x m 0 0 0 [(0, .ref f), (1, .int a)] []
  refine v_iload_n (pc := 0) hX dX3_changeLevel_0 rfl ?_
  refine v_if_lt (tgt := 9) (pc := 1) hX dX3_changeLevel_1 (by decide) (fun c1 => ?_) (fun c1 => ?_)
  ·
    refine v_bipush (v := (-3)) (pc := 9) hX dX3_changeLevel_9 (by decide) ?_
    exact v_iret (pc := 11) hX hZ dX3_changeLevel_11 (by decide) (by decide) ⟨(by rw [X3_changeLevel_r, if_pos c1]), (by rw [X3_changeLevel_m, if_pos c1])⟩
  ·
    refine v_iload_n (pc := 4) hX dX3_changeLevel_4 rfl ?_
    refine v_iconst (v := 5) (pc := 5) hX dX3_changeLevel_5 (by decide) ?_
    refine v_icmp_le (tgt := 12) (pc := 6) hX dX3_changeLevel_6 (by decide) (fun c2 => ?_) (fun c2 => ?_)
    ·
      refine v_aload_n (pc := 12) hX dX3_changeLevel_12 rfl ?_
      refine v_get (v := .ref (f + 1)) (pc := 13) hX dX3_changeLevel_13 hs.k (ci := 5) (r := vwC5) rfl 0 (by decide) wd_149 (fvR hs.r0) ?_
      refine v_getN (v := .int (gI m 193 (f + 1))) (pc := 16) hX dX3_changeLevel_16 hs.k1 (ci := 6) (r := vwC6) rfl 1 (by decide) wd_62 rfl ?_
      refine v_istore_n (pc := 19) hX dX3_changeLevel_19 (by decide) rfl ?_
      refine v_aload_n (pc := 20) hX dX3_changeLevel_20 rfl ?_
      refine v_get (v := .ref (f + 1)) (pc := 21) hX dX3_changeLevel_21 hs.k (ci := 5) (r := vwC5) rfl 0 (by decide) wd_149 (fvR hs.r0) ?_
      refine v_iload_n (pc := 24) hX dX3_changeLevel_24 rfl ?_
      refine v_putN (m1 := (sI m 193 (f + 1) a)) (pc := 25) hX dX3_changeLevel_25 hs.k1 (ci := 6) (r := vwC6) rfl 1 (by decide) wd_62 rfl rfl rfl rfl ?_
      refine v_iload_n (pc := 28) hX dX3_changeLevel_28 rfl ?_
      exact v_iret (pc := 29) hX hZ dX3_changeLevel_29 (by decide) (by decide) ⟨(by rw [X3_changeLevel_r, if_neg c1, if_pos c2]), (by rw [X3_changeLevel_m, if_neg c1, if_pos c2])⟩
    ·
      refine v_bipush (v := (-3)) (pc := 9) hX dX3_changeLevel_9 (by decide) ?_
      exact v_iret (pc := 11) hX hZ dX3_changeLevel_11 (by decide) (by decide) ⟨(by rw [X3_changeLevel_r, if_neg c1, if_neg c2]), (by rw [X3_changeLevel_m, if_neg c1, if_neg c2])⟩
def X3_intoFurnace_r (g : mG) (m : mM) (f : Nat) (a : Int32) (N : Nat) : Int32 := (match X3_find_r g m f a N with | none => (-1) | some p1 => if (gI m 293 p1) = 0 then (if (X3_countInFurnace_r g m f N) < 3 then (X3_countInFurnace_r g ((sI m 293 p1 1)) f N) else ((-4))) else ((-4)))
def X3_intoFurnace_m (g : mG) (m : mM) (f : Nat) (a : Int32) (N : Nat) : mM := (match X3_find_r g m f a N with | none => m | some p1 => if (gI m 293 p1) = 0 then (if (X3_countInFurnace_r g m f N) < 3 then ((sI m 293 p1 1)) else m) else m)
theorem kK_X3_intoFurnace (g : mG) (m : mM) (f : Nat) (a : Int32) (N : Nat) : gK (X3_intoFurnace_m g m f a N) = gK m := by
  unfold X3_intoFurnace_m
  repeat' split
  all_goals simp only [mm]
theorem kN_X3_intoFurnace (g : mG) (m : mM) (f : Nat) (a : Int32) (N : Nat) : gN (X3_intoFurnace_m g m f a N) = gN m := by
  unfold X3_intoFurnace_m
  repeat' split
  all_goals simp only [mm]
theorem kI_X3_intoFurnace (g : mG) (m : mM) (f : Nat) (a : Int32) (N : Nat) (k a9 : Nat) (h0 : k ≠ 293) : gI (X3_intoFurnace_m g m f a N) k a9 = gI m k a9 := by
  unfold X3_intoFurnace_m
  repeat' split
  all_goals simp [mm, h0]
theorem kJ_X3_intoFurnace (g : mG) (m : mM) (f : Nat) (a : Int32) (N : Nat) : gJ (X3_intoFurnace_m g m f a N) = gJ m := by
  unfold X3_intoFurnace_m
  repeat' split
  all_goals simp only [mm]
theorem kR_X3_intoFurnace (g : mG) (m : mM) (f : Nat) (a : Int32) (N : Nat) : gR (X3_intoFurnace_m g m f a N) = gR m := by
  unfold X3_intoFurnace_m
  repeat' split
  all_goals simp only [mm]
theorem kA_X3_intoFurnace (g : mG) (m : mM) (f : Nat) (a : Int32) (N : Nat) : gA (X3_intoFurnace_m g m f a N) = gA m := by
  unfold X3_intoFurnace_m
  repeat' split
  all_goals simp only [mm]
theorem kQ_X3_intoFurnace (g : mG) (m : mM) (f : Nat) (a : Int32) (N : Nat) : gQ (X3_intoFurnace_m g m f a N) = gQ m := by
  unfold X3_intoFurnace_m
  repeat' split
  all_goals simp only [mm]
theorem kL_X3_intoFurnace (g : mG) (m : mM) (f : Nat) (a : Int32) (N : Nat) : gL (X3_intoFurnace_m g m f a N) = gL m := by
  unfold X3_intoFurnace_m
  repeat' split
  all_goals simp only [mm]
theorem kD_X3_intoFurnace (g : mG) (m : mM) (f : Nat) (a : Int32) (N : Nat) : gD (X3_intoFurnace_m g m f a N) = gD m := by
  unfold X3_intoFurnace_m
  repeat' split
  all_goals simp only [mm]
theorem fr_X3_intoFurnace (g : mG) (m : mM) (f : Nat) (a : Int32) (N : Nat) (hs : SF m f) (hN8 : N ≤ 8) : Fr f (f + 16) m (X3_intoFurnace_m g m f a N) := by
  unfold X3_intoFurnace_m
  split
  ·
    exact Fr.rf
  ·
    rename_i p1 hq1
    have hb_p1 := find_b hs hN8 hq1
    split
    ·
      split
      ·
        exact ((Fr.rf).I (by first | omega | (have h3_ := n8_lt' (by assumption) hN8; omega) | (have h3_ := n4_lt' (by assumption) hH4; omega)))
      ·
        exact Fr.rf
    ·
      exact Fr.rf
set_option maxHeartbeats 4000000 in
set_option maxRecDepth 100000 in
theorem c_X3_intoFurnace {l : Launch} {g : mG} (hO : mO l g) (m : mM) (f : Nat) (a : Int32) (N : Nat) (hs : SF m f) (hN : gI m 163 f = nI N) (hN8 : N ≤ 8) : mT l g yX3_intoFurnace (.code yX3_intoFurnace cX3_intoFurnace 3 (Option.some FieldType.int)) 2 42 0 0 [.ref f, .int a] m (fun r m' => r = some (.int (X3_intoFurnace_r g m f a N)) ∧ m' = X3_intoFurnace_m g m f a N) nX := by
  refine mT_of hO (by decide) (Nat.le_of_ble_eq_true rfl) (fun x hX hZ => ?_)
  show mV g x m 0 0 0 [(0, .ref f), (1, .int a)] []
  refine v_aload_n (pc := 0) hX dX3_intoFurnace_0 rfl ?_
  refine v_iload_n (pc := 1) hX dX3_intoFurnace_1 rfl ?_
  refine v_callV (z := yX3_find) (pc := 2) hX dX3_intoFurnace_2 (c_X3_find hO m f a N hs hN hN8) hs.k rfl wd_1002 wd_370 wd_371 wd_2 wd_372 ⟨by decide, by decide, (by decide +kernel : (parseMethodDescriptor yX3_find.desc).map (fun d => d.parameters.length) = some 1)⟩ rfl (Nat.le_of_ble_eq_true rfl) ⟨⟨by decide, by decide⟩, by decide, by decide⟩ (fun E m9 h9 => h9.elim) (fun r9 m9 h9 => ?_)
  obtain ⟨rfl, h8⟩ := h9
  replace h8 := h8.symm
  subst h8
  show mV g x _ _ _ _ _ [va_rf (X3_find_r g m f a N)]
  rcases hq1 : X3_find_r g m f a N with _ | p1
  ·
    show mV g x _ _ _ _ _ [.null]
    refine v_astore_nN (pc := 5) hX dX3_intoFurnace_5 (by decide) rfl ?_
    refine v_aload_nN (pc := 6) hX dX3_intoFurnace_6 rfl ?_
    refine v_ifnonnull_n (pc := 7) hX dX3_intoFurnace_7 ?_
    refine v_iconst (v := (-1)) (pc := 10) hX dX3_intoFurnace_10 (by decide) ?_
    exact v_iret (pc := 11) hX hZ dX3_intoFurnace_11 (by decide) (by decide) ⟨(by simp only [X3_intoFurnace_r, hq1]), (by simp only [X3_intoFurnace_m, hq1])⟩
  ·
    show mV g x _ _ _ _ _ [.ref p1]
    refine v_astore_n (pc := 5) hX dX3_intoFurnace_5 (by decide) rfl ?_
    refine v_aload_n (pc := 6) hX dX3_intoFurnace_6 rfl ?_
    refine v_ifnonnull_s (tgt := 12) (pc := 7) hX dX3_intoFurnace_7 (by decide) ?_
    refine v_aload_n (pc := 12) hX dX3_intoFurnace_12 rfl ?_
    refine v_getN (v := .int (gI m 293 p1)) (pc := 13) hX dX3_intoFurnace_13 (find_k hs hN8 hq1) (ci := 9) (r := vwC9) rfl 5 (by decide) wd_108 rfl ?_
    refine v_if_ne (tgt := 27) (pc := 16) hX dX3_intoFurnace_16 (by decide) (fun c1 => ?_) (fun c1 => ?_)
    ·
      refine v_bipush (v := (-4)) (pc := 27) hX dX3_intoFurnace_27 (by decide) ?_
      exact v_iret (pc := 29) hX hZ dX3_intoFurnace_29 (by decide) (by decide) ⟨(by simp only [X3_intoFurnace_r, hq1, if_neg c1]), (by simp only [X3_intoFurnace_m, hq1, if_neg c1])⟩
    ·
      refine v_aload_n (pc := 19) hX dX3_intoFurnace_19 rfl ?_
      refine v_callV (z := yX3_countInFurnace) (pc := 20) hX dX3_intoFurnace_20 (c_X3_countInFurnace hO m f N hs hN hN8) hs.k rfl wd_1003 wd_358 wd_359 wd_2 wd_360 ⟨by decide, by decide, (by decide +kernel : (parseMethodDescriptor yX3_countInFurnace.desc).map (fun d => d.parameters.length) = some 0)⟩ rfl (Nat.le_of_ble_eq_true rfl) ⟨⟨by decide, by decide⟩, by decide, by decide⟩ (fun E m9 h9 => h9.elim) (fun r9 m9 h9 => ?_)
      obtain ⟨rfl, h8⟩ := h9
      replace h8 := h8.symm
      subst h8
      show mV g x _ _ _ _ _ [.int (X3_countInFurnace_r g m f N)]
      refine v_iconst (v := 3) (pc := 23) hX dX3_intoFurnace_23 (by decide) ?_
      refine v_icmp_lt (tgt := 30) (pc := 24) hX dX3_intoFurnace_24 (by decide) (fun c2 => ?_) (fun c2 => ?_)
      ·
        refine v_aload_n (pc := 30) hX dX3_intoFurnace_30 rfl ?_
        refine v_iconst (v := 1) (pc := 31) hX dX3_intoFurnace_31 (by decide) ?_
        refine v_putN (m1 := (sI m 293 p1 1)) (pc := 32) hX dX3_intoFurnace_32 (find_k hs hN8 hq1) (ci := 9) (r := vwC9) rfl 5 (by decide) wd_108 rfl (by decide) (by decide) rfl ?_
        refine v_aload_n (pc := 35) hX dX3_intoFurnace_35 rfl ?_
        refine v_callV (z := yX3_countInFurnace) (pc := 36) hX dX3_intoFurnace_36 (c_X3_countInFurnace hO ((sI m 293 p1 1)) f N (hs.to rfl rfl rfl rfl rfl) (by simp [mm, hN]) hN8) (by simp only [mm]; exact hs.k) rfl wd_1003 wd_358 wd_359 wd_2 wd_360 ⟨by decide, by decide, (by decide +kernel : (parseMethodDescriptor yX3_countInFurnace.desc).map (fun d => d.parameters.length) = some 0)⟩ rfl (Nat.le_of_ble_eq_true rfl) ⟨⟨by decide, by decide⟩, by decide, by decide⟩ (fun E m9 h9 => h9.elim) (fun r9 m9 h9 => ?_)
        obtain ⟨rfl, h8⟩ := h9
        replace h8 := h8.symm
        subst h8
        show mV g x _ _ _ _ _ [.int (X3_countInFurnace_r g ((sI m 293 p1 1)) f N)]
        exact v_iret (pc := 39) hX hZ dX3_intoFurnace_39 (by decide) (by decide) ⟨(by simp only [X3_intoFurnace_r, hq1, if_pos c1, if_pos c2]), (by simp only [X3_intoFurnace_m, hq1, if_pos c1, if_pos c2])⟩
      ·
        refine v_bipush (v := (-4)) (pc := 27) hX dX3_intoFurnace_27 (by decide) ?_
        exact v_iret (pc := 29) hX hZ dX3_intoFurnace_29 (by decide) (by decide) ⟨(by simp only [X3_intoFurnace_r, hq1, if_pos c1, if_neg c2]), (by simp only [X3_intoFurnace_m, hq1, if_pos c1, if_neg c2])⟩
def X3_ontoBench_r (g : mG) (m : mM) (f : Nat) (a : Int32) (N : Nat) : Int32 := (match X3_find_r g m f a N with | none => (-1) | some p1 => if (gI m 293 p1) = 0 then ((-4)) else (gI m 290 p1))
def X3_ontoBench_m (g : mG) (m : mM) (f : Nat) (a : Int32) (N : Nat) : mM := (match X3_find_r g m f a N with | none => m | some p1 => if (gI m 293 p1) = 0 then m else ((sI m 293 p1 0)))
theorem kK_X3_ontoBench (g : mG) (m : mM) (f : Nat) (a : Int32) (N : Nat) : gK (X3_ontoBench_m g m f a N) = gK m := by
  unfold X3_ontoBench_m
  repeat' split
  all_goals simp only [mm]
theorem kN_X3_ontoBench (g : mG) (m : mM) (f : Nat) (a : Int32) (N : Nat) : gN (X3_ontoBench_m g m f a N) = gN m := by
  unfold X3_ontoBench_m
  repeat' split
  all_goals simp only [mm]
theorem kI_X3_ontoBench (g : mG) (m : mM) (f : Nat) (a : Int32) (N : Nat) (k a9 : Nat) (h0 : k ≠ 293) : gI (X3_ontoBench_m g m f a N) k a9 = gI m k a9 := by
  unfold X3_ontoBench_m
  repeat' split
  all_goals simp [mm, h0]
theorem kJ_X3_ontoBench (g : mG) (m : mM) (f : Nat) (a : Int32) (N : Nat) : gJ (X3_ontoBench_m g m f a N) = gJ m := by
  unfold X3_ontoBench_m
  repeat' split
  all_goals simp only [mm]
theorem kR_X3_ontoBench (g : mG) (m : mM) (f : Nat) (a : Int32) (N : Nat) : gR (X3_ontoBench_m g m f a N) = gR m := by
  unfold X3_ontoBench_m
  repeat' split
  all_goals simp only [mm]
theorem kA_X3_ontoBench (g : mG) (m : mM) (f : Nat) (a : Int32) (N : Nat) : gA (X3_ontoBench_m g m f a N) = gA m := by
  unfold X3_ontoBench_m
  repeat' split
  all_goals simp only [mm]
theorem kQ_X3_ontoBench (g : mG) (m : mM) (f : Nat) (a : Int32) (N : Nat) : gQ (X3_ontoBench_m g m f a N) = gQ m := by
  unfold X3_ontoBench_m
  repeat' split
  all_goals simp only [mm]
theorem kL_X3_ontoBench (g : mG) (m : mM) (f : Nat) (a : Int32) (N : Nat) : gL (X3_ontoBench_m g m f a N) = gL m := by
  unfold X3_ontoBench_m
  repeat' split
  all_goals simp only [mm]
theorem kD_X3_ontoBench (g : mG) (m : mM) (f : Nat) (a : Int32) (N : Nat) : gD (X3_ontoBench_m g m f a N) = gD m := by
  unfold X3_ontoBench_m
  repeat' split
  all_goals simp only [mm]
theorem fr_X3_ontoBench (g : mG) (m : mM) (f : Nat) (a : Int32) (N : Nat) (hs : SF m f) (hN8 : N ≤ 8) : Fr f (f + 16) m (X3_ontoBench_m g m f a N) := by
  unfold X3_ontoBench_m
  split
  ·
    exact Fr.rf
  ·
    rename_i p1 hq1
    have hb_p1 := find_b hs hN8 hq1
    split
    ·
      exact Fr.rf
    ·
      exact ((Fr.rf).I (by first | omega | (have h3_ := n8_lt' (by assumption) hN8; omega) | (have h3_ := n4_lt' (by assumption) hH4; omega)))
set_option maxHeartbeats 4000000 in
set_option maxRecDepth 100000 in
theorem c_X3_ontoBench {l : Launch} {g : mG} (hO : mO l g) (m : mM) (f : Nat) (a : Int32) (N : Nat) (hs : SF m f) (hN : gI m 163 f = nI N) (hN8 : N ≤ 8) : mT l g yX3_ontoBench (.code yX3_ontoBench cX3_ontoBench 3 (Option.some FieldType.int)) 2 42 0 0 [.ref f, .int a] m (fun r m' => r = some (.int (X3_ontoBench_r g m f a N)) ∧ m' = X3_ontoBench_m g m f a N) nX := by
  refine mT_of hO (by decide) (Nat.le_of_ble_eq_true rfl) (fun x hX hZ => ?_)
  show mV g x m 0 0 0 [(0, .ref f), (1, .int a)] []
  refine v_aload_n (pc := 0) hX dX3_ontoBench_0 rfl ?_
  refine v_iload_n (pc := 1) hX dX3_ontoBench_1 rfl ?_
  refine v_callV (z := yX3_find) (pc := 2) hX dX3_ontoBench_2 (c_X3_find hO m f a N hs hN hN8) hs.k rfl wd_1002 wd_370 wd_371 wd_2 wd_372 ⟨by decide, by decide, (by decide +kernel : (parseMethodDescriptor yX3_find.desc).map (fun d => d.parameters.length) = some 1)⟩ rfl (Nat.le_of_ble_eq_true rfl) ⟨⟨by decide, by decide⟩, by decide, by decide⟩ (fun E m9 h9 => h9.elim) (fun r9 m9 h9 => ?_)
  obtain ⟨rfl, h8⟩ := h9
  replace h8 := h8.symm
  subst h8
  show mV g x _ _ _ _ _ [va_rf (X3_find_r g m f a N)]
  rcases hq1 : X3_find_r g m f a N with _ | p1
  ·
    show mV g x _ _ _ _ _ [.null]
    refine v_astore_nN (pc := 5) hX dX3_ontoBench_5 (by decide) rfl ?_
    refine v_aload_nN (pc := 6) hX dX3_ontoBench_6 rfl ?_
    refine v_ifnonnull_n (pc := 7) hX dX3_ontoBench_7 ?_
    refine v_iconst (v := (-1)) (pc := 10) hX dX3_ontoBench_10 (by decide) ?_
    exact v_iret (pc := 11) hX hZ dX3_ontoBench_11 (by decide) (by decide) ⟨(by simp only [X3_ontoBench_r, hq1]), (by simp only [X3_ontoBench_m, hq1])⟩
  ·
    show mV g x _ _ _ _ _ [.ref p1]
    refine v_astore_n (pc := 5) hX dX3_ontoBench_5 (by decide) rfl ?_
    refine v_aload_n (pc := 6) hX dX3_ontoBench_6 rfl ?_
    refine v_ifnonnull_s (tgt := 12) (pc := 7) hX dX3_ontoBench_7 (by decide) ?_
    refine v_aload_n (pc := 12) hX dX3_ontoBench_12 rfl ?_
    refine v_getN (v := .int (gI m 293 p1)) (pc := 13) hX dX3_ontoBench_13 (find_k hs hN8 hq1) (ci := 9) (r := vwC9) rfl 5 (by decide) wd_108 rfl ?_
    refine v_if_ne (tgt := 22) (pc := 16) hX dX3_ontoBench_16 (by decide) (fun c1 => ?_) (fun c1 => ?_)
    ·
      refine v_aload_n (pc := 22) hX dX3_ontoBench_22 rfl ?_
      refine v_iconst (v := 0) (pc := 23) hX dX3_ontoBench_23 (by decide) ?_
      refine v_putN (m1 := (sI m 293 p1 0)) (pc := 24) hX dX3_ontoBench_24 (find_k hs hN8 hq1) (ci := 9) (r := vwC9) rfl 5 (by decide) wd_108 rfl (by decide) (by decide) rfl ?_
      refine v_aload_n (pc := 27) hX dX3_ontoBench_27 rfl ?_
      refine v_getN (v := .int (gI m 290 p1)) (pc := 28) hX dX3_ontoBench_28 (by simp only [mm]; exact (find_k hs hN8 hq1)) (ci := 9) (r := vwC9) rfl 2 (by decide) wd_99 (by show Value.int _ = Value.int _; simp [mm]) ?_
      exact v_iret (pc := 31) hX hZ dX3_ontoBench_31 (by decide) (by decide) ⟨(by simp only [X3_ontoBench_r, hq1, if_neg c1]), (by simp only [X3_ontoBench_m, hq1, if_neg c1])⟩
    ·
      refine v_bipush (v := (-4)) (pc := 19) hX dX3_ontoBench_19 (by decide) ?_
      exact v_iret (pc := 21) hX hZ dX3_ontoBench_21 (by decide) (by decide) ⟨(by simp only [X3_ontoBench_r, hq1, if_pos c1]), (by simp only [X3_ontoBench_m, hq1, if_pos c1])⟩
def X3_strike_r (g : mG) (m : mM) (f : Nat) (a : Int32) (b : Int32) (N : Nat) (H : Nat) : Int32 := (match X3_find_r g m f a N with | none => (-1) | some p1 => (match X3_hammerIn_r g m f b H with | none => (-2) | some p2 => if (gI m 293 p1) = 0 then (if (gI m 294 p1) = 0 then (if 10 ≤ (gI m 291 p1) then ((-4)) else (if (X5_isWornOut_r g m p2) = 0 then (if (gI m 290 p1) < 600 then ((-5)) else (if (gI m 290 p1) ≤ 1100 then (gI (X7_harden_m g ((sI m 291 p1 ((gI m 291 p1) + (X7_stagesGained_r g m p1 (gI m 224 p2))))) p1 2) 291 p1) else ((-5)))) else ((-4)))) else ((-4))) else ((-4))))
def X3_strike_m (g : mG) (m : mM) (f : Nat) (a : Int32) (b : Int32) (N : Nat) (H : Nat) : mM := (match X3_find_r g m f a N with | none => m | some p1 => (match X3_hammerIn_r g m f b H with | none => m | some p2 => if (gI m 293 p1) = 0 then (if (gI m 294 p1) = 0 then (if 10 ≤ (gI m 291 p1) then m else (if (X5_isWornOut_r g m p2) = 0 then (if (gI m 290 p1) < 600 then m else (if (gI m 290 p1) ≤ 1100 then ((sI (sI (X7_harden_m g ((sI m 291 p1 ((gI m 291 p1) + (X7_stagesGained_r g m p1 (gI m 224 p2))))) p1 2) 225 p2 ((gI (X7_harden_m g ((sI m 291 p1 ((gI m 291 p1) + (X7_stagesGained_r g m p1 (gI m 224 p2))))) p1 2) 225 p2) + 1)) 167 f ((gI (X7_harden_m g ((sI m 291 p1 ((gI m 291 p1) + (X7_stagesGained_r g m p1 (gI m 224 p2))))) p1 2) 167 f) + 1))) else m)) else m)) else m) else m))
theorem kK_X3_strike (g : mG) (m : mM) (f : Nat) (a : Int32) (b : Int32) (N : Nat) (H : Nat) : gK (X3_strike_m g m f a b N H) = gK m := by
  unfold X3_strike_m
  repeat' split
  all_goals simp only [mm, kK_X7_harden]
theorem kN_X3_strike (g : mG) (m : mM) (f : Nat) (a : Int32) (b : Int32) (N : Nat) (H : Nat) : gN (X3_strike_m g m f a b N H) = gN m := by
  unfold X3_strike_m
  repeat' split
  all_goals simp only [mm, kN_X7_harden]
theorem kI_X3_strike (g : mG) (m : mM) (f : Nat) (a : Int32) (b : Int32) (N : Nat) (H : Nat) (k a9 : Nat) (h0 : k ≠ 167) (h1 : k ≠ 225) (h2 : k ≠ 291) (h3 : k ≠ 292) : gI (X3_strike_m g m f a b N H) k a9 = gI m k a9 := by
  unfold X3_strike_m
  repeat' split
  all_goals simp [mm, kI_X7_harden, h0, h1, h2, h3]
theorem kJ_X3_strike (g : mG) (m : mM) (f : Nat) (a : Int32) (b : Int32) (N : Nat) (H : Nat) : gJ (X3_strike_m g m f a b N H) = gJ m := by
  unfold X3_strike_m
  repeat' split
  all_goals simp only [mm, kJ_X7_harden]
theorem kR_X3_strike (g : mG) (m : mM) (f : Nat) (a : Int32) (b : Int32) (N : Nat) (H : Nat) : gR (X3_strike_m g m f a b N H) = gR m := by
  unfold X3_strike_m
  repeat' split
  all_goals simp only [mm, kR_X7_harden]
theorem kA_X3_strike (g : mG) (m : mM) (f : Nat) (a : Int32) (b : Int32) (N : Nat) (H : Nat) : gA (X3_strike_m g m f a b N H) = gA m := by
  unfold X3_strike_m
  repeat' split
  all_goals simp only [mm, kA_X7_harden]
theorem kQ_X3_strike (g : mG) (m : mM) (f : Nat) (a : Int32) (b : Int32) (N : Nat) (H : Nat) : gQ (X3_strike_m g m f a b N H) = gQ m := by
  unfold X3_strike_m
  repeat' split
  all_goals simp only [mm, kQ_X7_harden]
theorem kL_X3_strike (g : mG) (m : mM) (f : Nat) (a : Int32) (b : Int32) (N : Nat) (H : Nat) : gL (X3_strike_m g m f a b N H) = gL m := by
  unfold X3_strike_m
  repeat' split
  all_goals simp only [mm, kL_X7_harden]
theorem kD_X3_strike (g : mG) (m : mM) (f : Nat) (a : Int32) (b : Int32) (N : Nat) (H : Nat) : gD (X3_strike_m g m f a b N H) = gD m := by
  unfold X3_strike_m
  repeat' split
  all_goals simp only [mm, kD_X7_harden]
theorem fr_X3_strike (g : mG) (m : mM) (f : Nat) (a : Int32) (b : Int32) (N : Nat) (H : Nat) (hs : SF m f) (hN8 : N ≤ 8) (hH4 : H ≤ 4) : Fr f (f + 16) m (X3_strike_m g m f a b N H) := by
  unfold X3_strike_m
  split
  ·
    exact Fr.rf
  ·
    rename_i p1 hq1
    have hb_p1 := find_b hs hN8 hq1
    split
    ·
      exact Fr.rf
    ·
      rename_i p2 hq2
      have hb_p2 := hamIn_b hs hH4 hq2
      split
      ·
        split
        ·
          split
          ·
            exact Fr.rf
          ·
            split
            ·
              split
              ·
                exact Fr.rf
              ·
                split
                ·
                  exact ((((((((Fr.rf).I (by first | omega | (have h3_ := n8_lt' (by assumption) hN8; omega) | (have h3_ := n4_lt' (by assumption) hH4; omega)))).tr (fr_X7_harden g (sI m 291 p1 ((gI m 291 p1) + (X7_stagesGained_r g m p1 (gI m 224 p2)))) p1 2 ) (by first | omega | (have h3_ := n8_lt' (by assumption) hN8; omega) | (have h3_ := n4_lt' (by assumption) hH4; omega)) (by first | omega | (have h3_ := n8_lt' (by assumption) hN8; omega) | (have h3_ := n4_lt' (by assumption) hH4; omega)))).I (by first | omega | (have h3_ := n8_lt' (by assumption) hN8; omega) | (have h3_ := n4_lt' (by assumption) hH4; omega)))).I (by first | omega | (have h3_ := n8_lt' (by assumption) hN8; omega) | (have h3_ := n4_lt' (by assumption) hH4; omega)))
                ·
                  exact Fr.rf
            ·
              exact Fr.rf
        ·
          exact Fr.rf
      ·
        exact Fr.rf
set_option maxHeartbeats 4000000 in
set_option maxRecDepth 100000 in
theorem c_X3_strike {l : Launch} {g : mG} (hO : mO l g) (m : mM) (f : Nat) (a : Int32) (b : Int32) (N : Nat) (H : Nat) (hs : SF m f) (hN : gI m 163 f = nI N) (hN8 : N ≤ 8) (hH : gI m 164 f = nI H) (hH4 : H ≤ 4) : mT l g yX3_strike (.code yX3_strike cX3_strike 5 (Option.some FieldType.int)) 2 43 0 0 [.ref f, .int a, .int b] m (fun r m' => r = some (.int (X3_strike_r g m f a b N H)) ∧ m' = X3_strike_m g m f a b N H) nX := by
  refine mT_of hO (by decide) (Nat.le_of_ble_eq_true rfl) (fun x hX hZ => ?_)
  show mV g x m 0 0 0 [(0, .ref f), (1, .int a), (2, .int b)] []
  refine v_aload_n (pc := 0) hX dX3_strike_0 rfl ?_
  refine v_iload_n (pc := 1) hX dX3_strike_1 rfl ?_
  refine v_callV (z := yX3_find) (pc := 2) hX dX3_strike_2 (c_X3_find hO m f a N hs hN hN8) hs.k rfl wd_1002 wd_370 wd_371 wd_2 wd_372 ⟨by decide, by decide, (by decide +kernel : (parseMethodDescriptor yX3_find.desc).map (fun d => d.parameters.length) = some 1)⟩ rfl (Nat.le_of_ble_eq_true rfl) ⟨⟨by decide, by decide⟩, by decide, by decide⟩ (fun E m9 h9 => h9.elim) (fun r9 m9 h9 => ?_)
  obtain ⟨rfl, h8⟩ := h9
  replace h8 := h8.symm
  subst h8
  show mV g x _ _ _ _ _ [va_rf (X3_find_r g m f a N)]
  rcases hq1 : X3_find_r g m f a N with _ | p1
  ·
    show mV g x _ _ _ _ _ [.null]
    refine v_astore_nN (pc := 5) hX dX3_strike_5 (by decide) rfl ?_
    refine v_aload_nN (pc := 6) hX dX3_strike_6 rfl ?_
    refine v_ifnonnull_n (pc := 7) hX dX3_strike_7 ?_
    refine v_iconst (v := (-1)) (pc := 10) hX dX3_strike_10 (by decide) ?_
    exact v_iret (pc := 11) hX hZ dX3_strike_11 (by decide) (by decide) ⟨(by simp only [X3_strike_r, hq1]), (by simp only [X3_strike_m, hq1])⟩
  ·
    show mV g x _ _ _ _ _ [.ref p1]
    refine v_astore_n (pc := 5) hX dX3_strike_5 (by decide) rfl ?_
    refine v_aload_n (pc := 6) hX dX3_strike_6 rfl ?_
    refine v_ifnonnull_s (tgt := 12) (pc := 7) hX dX3_strike_7 (by decide) ?_
    refine v_aload_n (pc := 12) hX dX3_strike_12 rfl ?_
    refine v_iload_n (pc := 13) hX dX3_strike_13 rfl ?_
    refine v_callV (z := yX3_hammerIn) (pc := 14) hX dX3_strike_14 (c_X3_hammerIn hO m f b H hs hH hH4) hs.k rfl wd_1030 wd_1031 wd_1032 wd_2 wd_1033 ⟨by decide, by decide, (by decide +kernel : (parseMethodDescriptor yX3_hammerIn.desc).map (fun d => d.parameters.length) = some 1)⟩ rfl (Nat.le_of_ble_eq_true rfl) ⟨⟨by decide, by decide⟩, by decide, by decide⟩ (fun E m9 h9 => h9.elim) (fun r9 m9 h9 => ?_)
    obtain ⟨rfl, h8⟩ := h9
    replace h8 := h8.symm
    subst h8
    show mV g x _ _ _ _ _ [va_rf (X3_hammerIn_r g m f b H)]
    rcases hq2 : X3_hammerIn_r g m f b H with _ | p2
    ·
      show mV g x _ _ _ _ _ [.null]
      refine v_astoreN (pc := 17) hX dX3_strike_17 (by decide) rfl ?_
      refine v_aloadN (pc := 19) hX dX3_strike_19 rfl ?_
      refine v_ifnonnull_n (pc := 21) hX dX3_strike_21 ?_
      refine v_bipush (v := (-2)) (pc := 24) hX dX3_strike_24 (by decide) ?_
      exact v_iret (pc := 26) hX hZ dX3_strike_26 (by decide) (by decide) ⟨(by simp only [X3_strike_r, hq1, hq2]), (by simp only [X3_strike_m, hq1, hq2])⟩
    ·
      show mV g x _ _ _ _ _ [.ref p2]
      refine v_astore (pc := 17) hX dX3_strike_17 (by decide) rfl ?_
      refine v_aload (pc := 19) hX dX3_strike_19 rfl ?_
      refine v_ifnonnull_s (tgt := 27) (pc := 21) hX dX3_strike_21 (by decide) ?_
      refine v_aload_n (pc := 27) hX dX3_strike_27 rfl ?_
      refine v_getN (v := .int (gI m 293 p1)) (pc := 28) hX dX3_strike_28 (find_k hs hN8 hq1) (ci := 9) (r := vwC9) rfl 5 (by decide) wd_108 rfl ?_
      refine v_if_ne (tgt := 58) (pc := 31) hX dX3_strike_31 (by decide) (fun c1 => ?_) (fun c1 => ?_)
      ·
        refine v_bipush (v := (-4)) (pc := 58) hX dX3_strike_58 (by decide) ?_
        exact v_iret (pc := 60) hX hZ dX3_strike_60 (by decide) (by decide) ⟨(by simp only [X3_strike_r, hq1, hq2, if_neg c1]), (by simp only [X3_strike_m, hq1, hq2, if_neg c1])⟩
      ·
        refine v_aload_n (pc := 34) hX dX3_strike_34 rfl ?_
        refine v_getN (v := .int (gI m 294 p1)) (pc := 35) hX dX3_strike_35 (find_k hs hN8 hq1) (ci := 9) (r := vwC9) rfl 6 (by decide) wd_111 rfl ?_
        refine v_if_ne (tgt := 58) (pc := 38) hX dX3_strike_38 (by decide) (fun c2 => ?_) (fun c2 => ?_)
        ·
          refine v_bipush (v := (-4)) (pc := 58) hX dX3_strike_58 (by decide) ?_
          exact v_iret (pc := 60) hX hZ dX3_strike_60 (by decide) (by decide) ⟨(by simp only [X3_strike_r, hq1, hq2, if_pos c1, if_neg c2]), (by simp only [X3_strike_m, hq1, hq2, if_pos c1, if_neg c2])⟩
        ·
          refine v_aload_n (pc := 41) hX dX3_strike_41 rfl ?_
          refine v_getN (v := .int (gI m 291 p1)) (pc := 42) hX dX3_strike_42 (find_k hs hN8 hq1) (ci := 9) (r := vwC9) rfl 3 (by decide) wd_102 rfl ?_
          refine v_bipush (v := 10) (pc := 45) hX dX3_strike_45 (by decide) ?_
          refine v_icmp_ge (tgt := 58) (pc := 47) hX dX3_strike_47 (by decide) (fun c3 => ?_) (fun c3 => ?_)
          ·
            refine v_bipush (v := (-4)) (pc := 58) hX dX3_strike_58 (by decide) ?_
            exact v_iret (pc := 60) hX hZ dX3_strike_60 (by decide) (by decide) ⟨(by simp only [X3_strike_r, hq1, hq2, if_pos c1, if_pos c2, if_pos c3]), (by simp only [X3_strike_m, hq1, hq2, if_pos c1, if_pos c2, if_pos c3])⟩
          ·
            refine v_aload (pc := 50) hX dX3_strike_50 rfl ?_
            refine v_callV (z := yX5_isWornOut) (pc := 52) hX dX3_strike_52 (c_X5_isWornOut hO m p2 (by exact (hamIn_k hs hH4 hq2))) (hamIn_k hs hH4 hq2) rfl wd_1034 wd_1035 wd_1036 wd_7 wd_1037 ⟨by decide, by decide, (by decide +kernel : (parseMethodDescriptor yX5_isWornOut.desc).map (fun d => d.parameters.length) = some 0)⟩ rfl (Nat.le_of_ble_eq_true rfl) ⟨⟨by decide, by decide⟩, by decide, by decide⟩ (fun E m9 h9 => h9.elim) (fun r9 m9 h9 => ?_)
            obtain ⟨rfl, h8⟩ := h9
            replace h8 := h8.symm
            subst h8
            show mV g x _ _ _ _ _ [.int (X5_isWornOut_r g m p2)]
            refine v_if_eq (tgt := 61) (pc := 55) hX dX3_strike_55 (by decide) (fun c4 => ?_) (fun c4 => ?_)
            ·
              refine v_aload_n (pc := 61) hX dX3_strike_61 rfl ?_
              refine v_getN (v := .int (gI m 290 p1)) (pc := 62) hX dX3_strike_62 (find_k hs hN8 hq1) (ci := 9) (r := vwC9) rfl 2 (by decide) wd_99 rfl ?_
              refine v_sipush (v := 600) (pc := 65) hX dX3_strike_65 (by decide) ?_
              refine v_icmp_lt (tgt := 81) (pc := 68) hX dX3_strike_68 (by decide) (fun c5 => ?_) (fun c5 => ?_)
              ·
                refine v_bipush (v := (-5)) (pc := 81) hX dX3_strike_81 (by decide) ?_
                exact v_iret (pc := 83) hX hZ dX3_strike_83 (by decide) (by decide) ⟨(by simp only [X3_strike_r, hq1, hq2, if_pos c1, if_pos c2, if_neg c3, if_pos c4, if_pos c5]), (by simp only [X3_strike_m, hq1, hq2, if_pos c1, if_pos c2, if_neg c3, if_pos c4, if_pos c5])⟩
              ·
                refine v_aload_n (pc := 71) hX dX3_strike_71 rfl ?_
                refine v_getN (v := .int (gI m 290 p1)) (pc := 72) hX dX3_strike_72 (find_k hs hN8 hq1) (ci := 9) (r := vwC9) rfl 2 (by decide) wd_99 rfl ?_
                refine v_sipush (v := 1100) (pc := 75) hX dX3_strike_75 (by decide) ?_
                refine v_icmp_le (tgt := 84) (pc := 78) hX dX3_strike_78 (by decide) (fun c6 => ?_) (fun c6 => ?_)
                ·
                  refine v_aload_n (pc := 84) hX dX3_strike_84 rfl ?_
                  refine v_dup (pc := 85) hX dX3_strike_85 rfl ?_
                  refine v_getN (v := .int (gI m 291 p1)) (pc := 86) hX dX3_strike_86 (find_k hs hN8 hq1) (ci := 9) (r := vwC9) rfl 3 (by decide) wd_102 rfl ?_
                  refine v_aload_n (pc := 89) hX dX3_strike_89 rfl ?_
                  refine v_aload (pc := 90) hX dX3_strike_90 rfl ?_
                  refine v_getN (v := .int (gI m 224 p2)) (pc := 92) hX dX3_strike_92 (hamIn_k hs hH4 hq2) (ci := 7) (r := vwC7) rfl 0 (by decide) wd_139 rfl ?_
                  refine v_callV (z := yX7_stagesGained) (pc := 95) hX dX3_strike_95 (c_X7_stagesGained hO m p1 (gI m 224 p2) (by exact (find_k hs hN8 hq1))) (find_k hs hN8 hq1) rfl wd_1038 wd_1039 wd_1040 wd_4 wd_1041 ⟨by decide, by decide, (by decide +kernel : (parseMethodDescriptor yX7_stagesGained.desc).map (fun d => d.parameters.length) = some 1)⟩ rfl (Nat.le_of_ble_eq_true rfl) ⟨⟨by decide, by decide⟩, by decide, by decide⟩ (fun E m9 h9 => h9.elim) (fun r9 m9 h9 => ?_)
                  obtain ⟨rfl, h8⟩ := h9
                  replace h8 := h8.symm
                  subst h8
                  show mV g x _ _ _ _ _ [.int (X7_stagesGained_r g m p1 (gI m 224 p2)), .int (gI m 291 p1), .ref p1]
                  refine v_iadd (pc := 98) hX dX3_strike_98 ?_
                  refine v_putN (m1 := (sI m 291 p1 ((gI m 291 p1) + (X7_stagesGained_r g m p1 (gI m 224 p2))))) (pc := 99) hX dX3_strike_99 (find_k hs hN8 hq1) (ci := 9) (r := vwC9) rfl 3 (by decide) wd_102 rfl rfl rfl rfl ?_
                  refine v_aload_n (pc := 102) hX dX3_strike_102 rfl ?_
                  refine v_iconst (v := 2) (pc := 103) hX dX3_strike_103 (by decide) ?_
                  refine v_callV (z := yX7_harden) (pc := 104) hX dX3_strike_104 (c_X7_harden hO ((sI m 291 p1 ((gI m 291 p1) + (X7_stagesGained_r g m p1 (gI m 224 p2))))) p1 2 (by simp only [mm]; exact (find_k hs hN8 hq1))) (by simp only [mm]; exact (find_k hs hN8 hq1)) rfl wd_1043 wd_1044 wd_1045 wd_4 wd_1046 ⟨by decide, by decide, (by decide +kernel : (parseMethodDescriptor yX7_harden.desc).map (fun d => d.parameters.length) = some 1)⟩ rfl (Nat.le_of_ble_eq_true rfl) ⟨⟨by decide, by decide⟩, by decide, by decide⟩ (fun E m9 h9 => h9.elim) (fun r9 m9 h9 => ?_)
                  obtain ⟨rfl, h8⟩ := h9
                  replace h8 := h8.symm
                  subst h8
                  show mV g x _ _ _ _ _ []
                  refine v_aload (pc := 107) hX dX3_strike_107 rfl ?_
                  refine v_dup (pc := 109) hX dX3_strike_109 rfl ?_
                  refine v_getN (v := .int (gI (X7_harden_m g ((sI m 291 p1 ((gI m 291 p1) + (X7_stagesGained_r g m p1 (gI m 224 p2))))) p1 2) 225 p2)) (pc := 110) hX dX3_strike_110 (by simp only [mm, kK_X7_harden]; exact (hamIn_k hs hH4 hq2)) (ci := 7) (r := vwC7) rfl 1 (by decide) wd_142 rfl ?_
                  refine v_iconst (v := 1) (pc := 113) hX dX3_strike_113 (by decide) ?_
                  refine v_iadd (pc := 114) hX dX3_strike_114 ?_
                  refine v_putN (m1 := (sI (X7_harden_m g ((sI m 291 p1 ((gI m 291 p1) + (X7_stagesGained_r g m p1 (gI m 224 p2))))) p1 2) 225 p2 ((gI (X7_harden_m g ((sI m 291 p1 ((gI m 291 p1) + (X7_stagesGained_r g m p1 (gI m 224 p2))))) p1 2) 225 p2) + 1))) (pc := 115) hX dX3_strike_115 (by simp only [mm, kK_X7_harden]; exact (hamIn_k hs hH4 hq2)) (ci := 7) (r := vwC7) rfl 1 (by decide) wd_142 rfl rfl rfl rfl ?_
                  refine v_aload_n (pc := 118) hX dX3_strike_118 rfl ?_
                  refine v_dup (pc := 119) hX dX3_strike_119 rfl ?_
                  refine v_get (v := .int (gI (X7_harden_m g ((sI m 291 p1 ((gI m 291 p1) + (X7_stagesGained_r g m p1 (gI m 224 p2))))) p1 2) 167 f)) (pc := 120) hX dX3_strike_120 (by simp only [mm, kK_X7_harden]; exact hs.k) (ci := 5) (r := vwC5) rfl 7 (by decide) wd_163 (by show Value.int _ = Value.int _; simp [mm]) ?_
                  refine v_iconst (v := 1) (pc := 123) hX dX3_strike_123 (by decide) ?_
                  refine v_iadd (pc := 124) hX dX3_strike_124 ?_
                  refine v_put (m1 := (sI (sI (X7_harden_m g ((sI m 291 p1 ((gI m 291 p1) + (X7_stagesGained_r g m p1 (gI m 224 p2))))) p1 2) 225 p2 ((gI (X7_harden_m g ((sI m 291 p1 ((gI m 291 p1) + (X7_stagesGained_r g m p1 (gI m 224 p2))))) p1 2) 225 p2) + 1)) 167 f ((gI (X7_harden_m g ((sI m 291 p1 ((gI m 291 p1) + (X7_stagesGained_r g m p1 (gI m 224 p2))))) p1 2) 167 f) + 1))) (pc := 125) hX dX3_strike_125 (by simp only [mm, kK_X7_harden]; exact hs.k) (ci := 5) (r := vwC5) rfl 7 (by decide) wd_163 rfl rfl rfl rfl ?_
                  refine v_aload_n (pc := 128) hX dX3_strike_128 rfl ?_
                  refine v_getN (v := .int (gI (X7_harden_m g ((sI m 291 p1 ((gI m 291 p1) + (X7_stagesGained_r g m p1 (gI m 224 p2))))) p1 2) 291 p1)) (pc := 129) hX dX3_strike_129 (by simp only [mm, kK_X7_harden]; exact (find_k hs hN8 hq1)) (ci := 9) (r := vwC9) rfl 3 (by decide) wd_102 (by show Value.int _ = Value.int _; simp [mm]) ?_
                  exact v_iret (pc := 132) hX hZ dX3_strike_132 (by decide) (by decide) ⟨(by simp only [X3_strike_r, hq1, hq2, if_pos c1, if_pos c2, if_neg c3, if_pos c4, if_neg c5, if_pos c6]), (by simp only [X3_strike_m, hq1, hq2, if_pos c1, if_pos c2, if_neg c3, if_pos c4, if_neg c5, if_pos c6])⟩
                ·
                  refine v_bipush (v := (-5)) (pc := 81) hX dX3_strike_81 (by decide) ?_
                  exact v_iret (pc := 83) hX hZ dX3_strike_83 (by decide) (by decide) ⟨(by simp only [X3_strike_r, hq1, hq2, if_pos c1, if_pos c2, if_neg c3, if_pos c4, if_neg c5, if_neg c6]), (by simp only [X3_strike_m, hq1, hq2, if_pos c1, if_pos c2, if_neg c3, if_pos c4, if_neg c5, if_neg c6])⟩
            ·
              refine v_bipush (v := (-4)) (pc := 58) hX dX3_strike_58 (by decide) ?_
              exact v_iret (pc := 60) hX hZ dX3_strike_60 (by decide) (by decide) ⟨(by simp only [X3_strike_r, hq1, hq2, if_pos c1, if_pos c2, if_neg c3, if_neg c4]), (by simp only [X3_strike_m, hq1, hq2, if_pos c1, if_pos c2, if_neg c3, if_neg c4])⟩
def X3_chill_r (g : mG) (m : mM) (f : Nat) (a : Int32) (N : Nat) : Int32 := (match X3_find_r g m f a N with | none => (-1) | some p1 => if (gI m 293 p1) = 0 then (if (gI m 294 p1) = 0 then (if 700 ≤ (gI m 290 p1) then (gI (X7_harden_m g m p1 (((gI m 290 p1) - 600) / 8)) 292 p1) else ((-5))) else ((-4))) else ((-4)))
def X3_chill_m (g : mG) (m : mM) (f : Nat) (a : Int32) (N : Nat) : mM := (match X3_find_r g m f a N with | none => m | some p1 => if (gI m 293 p1) = 0 then (if (gI m 294 p1) = 0 then (if 700 ≤ (gI m 290 p1) then ((sI (sI (X7_harden_m g m p1 (((gI m 290 p1) - 600) / 8)) 290 p1 20) 294 p1 1)) else m) else m) else m)
theorem kK_X3_chill (g : mG) (m : mM) (f : Nat) (a : Int32) (N : Nat) : gK (X3_chill_m g m f a N) = gK m := by
  unfold X3_chill_m
  repeat' split
  all_goals simp only [mm, kK_X7_harden]
theorem kN_X3_chill (g : mG) (m : mM) (f : Nat) (a : Int32) (N : Nat) : gN (X3_chill_m g m f a N) = gN m := by
  unfold X3_chill_m
  repeat' split
  all_goals simp only [mm, kN_X7_harden]
theorem kI_X3_chill (g : mG) (m : mM) (f : Nat) (a : Int32) (N : Nat) (k a9 : Nat) (h0 : k ≠ 290) (h1 : k ≠ 292) (h2 : k ≠ 294) : gI (X3_chill_m g m f a N) k a9 = gI m k a9 := by
  unfold X3_chill_m
  repeat' split
  all_goals simp [mm, kI_X7_harden, h0, h1, h2]
theorem kJ_X3_chill (g : mG) (m : mM) (f : Nat) (a : Int32) (N : Nat) : gJ (X3_chill_m g m f a N) = gJ m := by
  unfold X3_chill_m
  repeat' split
  all_goals simp only [mm, kJ_X7_harden]
theorem kR_X3_chill (g : mG) (m : mM) (f : Nat) (a : Int32) (N : Nat) : gR (X3_chill_m g m f a N) = gR m := by
  unfold X3_chill_m
  repeat' split
  all_goals simp only [mm, kR_X7_harden]
theorem kA_X3_chill (g : mG) (m : mM) (f : Nat) (a : Int32) (N : Nat) : gA (X3_chill_m g m f a N) = gA m := by
  unfold X3_chill_m
  repeat' split
  all_goals simp only [mm, kA_X7_harden]
theorem kQ_X3_chill (g : mG) (m : mM) (f : Nat) (a : Int32) (N : Nat) : gQ (X3_chill_m g m f a N) = gQ m := by
  unfold X3_chill_m
  repeat' split
  all_goals simp only [mm, kQ_X7_harden]
theorem kL_X3_chill (g : mG) (m : mM) (f : Nat) (a : Int32) (N : Nat) : gL (X3_chill_m g m f a N) = gL m := by
  unfold X3_chill_m
  repeat' split
  all_goals simp only [mm, kL_X7_harden]
theorem kD_X3_chill (g : mG) (m : mM) (f : Nat) (a : Int32) (N : Nat) : gD (X3_chill_m g m f a N) = gD m := by
  unfold X3_chill_m
  repeat' split
  all_goals simp only [mm, kD_X7_harden]
theorem fr_X3_chill (g : mG) (m : mM) (f : Nat) (a : Int32) (N : Nat) (hs : SF m f) (hN8 : N ≤ 8) : Fr f (f + 16) m (X3_chill_m g m f a N) := by
  unfold X3_chill_m
  split
  ·
    exact Fr.rf
  ·
    rename_i p1 hq1
    have hb_p1 := find_b hs hN8 hq1
    split
    ·
      split
      ·
        split
        ·
          exact ((((((Fr.rf).tr (fr_X7_harden g m p1 (((gI m 290 p1) - 600) / 8) ) (by first | omega | (have h3_ := n8_lt' (by assumption) hN8; omega) | (have h3_ := n4_lt' (by assumption) hH4; omega)) (by first | omega | (have h3_ := n8_lt' (by assumption) hN8; omega) | (have h3_ := n4_lt' (by assumption) hH4; omega)))).I (by first | omega | (have h3_ := n8_lt' (by assumption) hN8; omega) | (have h3_ := n4_lt' (by assumption) hH4; omega)))).I (by first | omega | (have h3_ := n8_lt' (by assumption) hN8; omega) | (have h3_ := n4_lt' (by assumption) hH4; omega)))
        ·
          exact Fr.rf
      ·
        exact Fr.rf
    ·
      exact Fr.rf
set_option maxHeartbeats 4000000 in
set_option maxRecDepth 100000 in
theorem c_X3_chill {l : Launch} {g : mG} (hO : mO l g) (m : mM) (f : Nat) (a : Int32) (N : Nat) (hs : SF m f) (hN : gI m 163 f = nI N) (hN8 : N ≤ 8) : mT l g yX3_chill (.code yX3_chill cX3_chill 3 (Option.some FieldType.int)) 2 42 0 0 [.ref f, .int a] m (fun r m' => r = some (.int (X3_chill_r g m f a N)) ∧ m' = X3_chill_m g m f a N) nX := by
  refine mT_of hO (by decide) (Nat.le_of_ble_eq_true rfl) (fun x hX hZ => ?_)
  show mV g x m 0 0 0 [(0, .ref f), (1, .int a)] []
  refine v_aload_n (pc := 0) hX dX3_chill_0 rfl ?_
  refine v_iload_n (pc := 1) hX dX3_chill_1 rfl ?_
  refine v_callV (z := yX3_find) (pc := 2) hX dX3_chill_2 (c_X3_find hO m f a N hs hN hN8) hs.k rfl wd_1002 wd_370 wd_371 wd_2 wd_372 ⟨by decide, by decide, (by decide +kernel : (parseMethodDescriptor yX3_find.desc).map (fun d => d.parameters.length) = some 1)⟩ rfl (Nat.le_of_ble_eq_true rfl) ⟨⟨by decide, by decide⟩, by decide, by decide⟩ (fun E m9 h9 => h9.elim) (fun r9 m9 h9 => ?_)
  obtain ⟨rfl, h8⟩ := h9
  replace h8 := h8.symm
  subst h8
  show mV g x _ _ _ _ _ [va_rf (X3_find_r g m f a N)]
  rcases hq1 : X3_find_r g m f a N with _ | p1
  ·
    show mV g x _ _ _ _ _ [.null]
    refine v_astore_nN (pc := 5) hX dX3_chill_5 (by decide) rfl ?_
    refine v_aload_nN (pc := 6) hX dX3_chill_6 rfl ?_
    refine v_ifnonnull_n (pc := 7) hX dX3_chill_7 ?_
    refine v_iconst (v := (-1)) (pc := 10) hX dX3_chill_10 (by decide) ?_
    exact v_iret (pc := 11) hX hZ dX3_chill_11 (by decide) (by decide) ⟨(by simp only [X3_chill_r, hq1]), (by simp only [X3_chill_m, hq1])⟩
  ·
    show mV g x _ _ _ _ _ [.ref p1]
    refine v_astore_n (pc := 5) hX dX3_chill_5 (by decide) rfl ?_
    refine v_aload_n (pc := 6) hX dX3_chill_6 rfl ?_
    refine v_ifnonnull_s (tgt := 12) (pc := 7) hX dX3_chill_7 (by decide) ?_
    refine v_aload_n (pc := 12) hX dX3_chill_12 rfl ?_
    refine v_getN (v := .int (gI m 293 p1)) (pc := 13) hX dX3_chill_13 (find_k hs hN8 hq1) (ci := 9) (r := vwC9) rfl 5 (by decide) wd_108 rfl ?_
    refine v_if_ne (tgt := 26) (pc := 16) hX dX3_chill_16 (by decide) (fun c1 => ?_) (fun c1 => ?_)
    ·
      refine v_bipush (v := (-4)) (pc := 26) hX dX3_chill_26 (by decide) ?_
      exact v_iret (pc := 28) hX hZ dX3_chill_28 (by decide) (by decide) ⟨(by simp only [X3_chill_r, hq1, if_neg c1]), (by simp only [X3_chill_m, hq1, if_neg c1])⟩
    ·
      refine v_aload_n (pc := 19) hX dX3_chill_19 rfl ?_
      refine v_getN (v := .int (gI m 294 p1)) (pc := 20) hX dX3_chill_20 (find_k hs hN8 hq1) (ci := 9) (r := vwC9) rfl 6 (by decide) wd_111 rfl ?_
      refine v_if_eq (tgt := 29) (pc := 23) hX dX3_chill_23 (by decide) (fun c2 => ?_) (fun c2 => ?_)
      ·
        refine v_aload_n (pc := 29) hX dX3_chill_29 rfl ?_
        refine v_getN (v := .int (gI m 290 p1)) (pc := 30) hX dX3_chill_30 (find_k hs hN8 hq1) (ci := 9) (r := vwC9) rfl 2 (by decide) wd_99 rfl ?_
        refine v_sipush (v := 700) (pc := 33) hX dX3_chill_33 (by decide) ?_
        refine v_icmp_ge (tgt := 42) (pc := 36) hX dX3_chill_36 (by decide) (fun c3 => ?_) (fun c3 => ?_)
        ·
          refine v_aload_n (pc := 42) hX dX3_chill_42 rfl ?_
          refine v_aload_n (pc := 43) hX dX3_chill_43 rfl ?_
          refine v_getN (v := .int (gI m 290 p1)) (pc := 44) hX dX3_chill_44 (find_k hs hN8 hq1) (ci := 9) (r := vwC9) rfl 2 (by decide) wd_99 rfl ?_
          refine v_sipush (v := 600) (pc := 47) hX dX3_chill_47 (by decide) ?_
          refine v_isub (pc := 50) hX dX3_chill_50 ?_
          refine v_bipush (v := 8) (pc := 51) hX dX3_chill_51 (by decide) ?_
          refine v_idiv (pc := 53) hX dX3_chill_53 (by decide) ?_
          refine v_callV (z := yX7_harden) (pc := 54) hX dX3_chill_54 (c_X7_harden hO m p1 (((gI m 290 p1) - 600) / 8) (by exact (find_k hs hN8 hq1))) (find_k hs hN8 hq1) rfl wd_1043 wd_1044 wd_1045 wd_4 wd_1046 ⟨by decide, by decide, (by decide +kernel : (parseMethodDescriptor yX7_harden.desc).map (fun d => d.parameters.length) = some 1)⟩ rfl (Nat.le_of_ble_eq_true rfl) ⟨⟨by decide, by decide⟩, by decide, by decide⟩ (fun E m9 h9 => h9.elim) (fun r9 m9 h9 => ?_)
          obtain ⟨rfl, h8⟩ := h9
          replace h8 := h8.symm
          subst h8
          show mV g x _ _ _ _ _ []
          refine v_aload_n (pc := 57) hX dX3_chill_57 rfl ?_
          refine v_bipush (v := 20) (pc := 58) hX dX3_chill_58 (by decide) ?_
          refine v_putN (m1 := (sI (X7_harden_m g m p1 (((gI m 290 p1) - 600) / 8)) 290 p1 20)) (pc := 60) hX dX3_chill_60 (by simp only [mm, kK_X7_harden]; exact (find_k hs hN8 hq1)) (ci := 9) (r := vwC9) rfl 2 (by decide) wd_99 rfl rfl rfl rfl ?_
          refine v_aload_n (pc := 63) hX dX3_chill_63 rfl ?_
          refine v_iconst (v := 1) (pc := 64) hX dX3_chill_64 (by decide) ?_
          refine v_putN (m1 := (sI (sI (X7_harden_m g m p1 (((gI m 290 p1) - 600) / 8)) 290 p1 20) 294 p1 1)) (pc := 65) hX dX3_chill_65 (by simp only [mm, kK_X7_harden]; exact (find_k hs hN8 hq1)) (ci := 9) (r := vwC9) rfl 6 (by decide) wd_111 rfl (by decide) (by decide) rfl ?_
          refine v_aload_n (pc := 68) hX dX3_chill_68 rfl ?_
          refine v_getN (v := .int (gI (X7_harden_m g m p1 (((gI m 290 p1) - 600) / 8)) 292 p1)) (pc := 69) hX dX3_chill_69 (by simp only [mm, kK_X7_harden]; exact (find_k hs hN8 hq1)) (ci := 9) (r := vwC9) rfl 4 (by decide) wd_105 (by show Value.int _ = Value.int _; simp [mm]) ?_
          exact v_iret (pc := 72) hX hZ dX3_chill_72 (by decide) (by decide) ⟨(by simp only [X3_chill_r, hq1, if_pos c1, if_pos c2, if_pos c3]), (by simp only [X3_chill_m, hq1, if_pos c1, if_pos c2, if_pos c3])⟩
        ·
          refine v_bipush (v := (-5)) (pc := 39) hX dX3_chill_39 (by decide) ?_
          exact v_iret (pc := 41) hX hZ dX3_chill_41 (by decide) (by decide) ⟨(by simp only [X3_chill_r, hq1, if_pos c1, if_pos c2, if_neg c3]), (by simp only [X3_chill_m, hq1, if_pos c1, if_pos c2, if_neg c3])⟩
      ·
        refine v_bipush (v := (-4)) (pc := 26) hX dX3_chill_26 (by decide) ?_
        exact v_iret (pc := 28) hX hZ dX3_chill_28 (by decide) (by decide) ⟨(by simp only [X3_chill_r, hq1, if_pos c1, if_neg c2]), (by simp only [X3_chill_m, hq1, if_pos c1, if_neg c2])⟩
def X3_examine_r (g : mG) (m : mM) (f : Nat) (a : Int32) (N : Nat) : Int32 := (match X3_find_r g m f a N with | none => (-1) | some p1 => if (gI m 293 p1) = 0 then (if (gI m 294 p1) = 0 then ((-4)) else (if (gR m 295 p1) = (some (vdA g 0)) then (if (gI m 290 p1) ≤ 60 then (if (X7_meetsTest_r g ((sI m 169 f ((gI m 169 f) + 1))) p1) = 0 then 0 else 1) else ((-5))) else ((-4)))) else ((-4)))
def X3_examine_m (g : mG) (m : mM) (f : Nat) (a : Int32) (N : Nat) : mM := (match X3_find_r g m f a N with | none => m | some p1 => if (gI m 293 p1) = 0 then (if (gI m 294 p1) = 0 then m else (if (gR m 295 p1) = (some (vdA g 0)) then (if (gI m 290 p1) ≤ 60 then (if (X7_meetsTest_r g ((sI m 169 f ((gI m 169 f) + 1))) p1) = 0 then ((sR (sI m 169 f ((gI m 169 f) + 1)) 295 p1 (some (vdA g 2)))) else ((sI (sR (sI m 169 f ((gI m 169 f) + 1)) 295 p1 (some (vdA g 1))) 170 f ((gI m 170 f) + 1)))) else m) else m)) else m)
theorem kK_X3_examine (g : mG) (m : mM) (f : Nat) (a : Int32) (N : Nat) : gK (X3_examine_m g m f a N) = gK m := by
  unfold X3_examine_m
  repeat' split
  all_goals simp only [mm]
theorem kN_X3_examine (g : mG) (m : mM) (f : Nat) (a : Int32) (N : Nat) : gN (X3_examine_m g m f a N) = gN m := by
  unfold X3_examine_m
  repeat' split
  all_goals simp only [mm]
theorem kI_X3_examine (g : mG) (m : mM) (f : Nat) (a : Int32) (N : Nat) (k a9 : Nat) (h0 : k ≠ 169) (h1 : k ≠ 170) : gI (X3_examine_m g m f a N) k a9 = gI m k a9 := by
  unfold X3_examine_m
  repeat' split
  all_goals simp [mm, h0, h1]
theorem kJ_X3_examine (g : mG) (m : mM) (f : Nat) (a : Int32) (N : Nat) : gJ (X3_examine_m g m f a N) = gJ m := by
  unfold X3_examine_m
  repeat' split
  all_goals simp only [mm]
theorem kR_X3_examine (g : mG) (m : mM) (f : Nat) (a : Int32) (N : Nat) (k a9 : Nat) (h0 : k ≠ 295) : gR (X3_examine_m g m f a N) k a9 = gR m k a9 := by
  unfold X3_examine_m
  repeat' split
  all_goals simp [mm, h0]
theorem kA_X3_examine (g : mG) (m : mM) (f : Nat) (a : Int32) (N : Nat) : gA (X3_examine_m g m f a N) = gA m := by
  unfold X3_examine_m
  repeat' split
  all_goals simp only [mm]
theorem kQ_X3_examine (g : mG) (m : mM) (f : Nat) (a : Int32) (N : Nat) : gQ (X3_examine_m g m f a N) = gQ m := by
  unfold X3_examine_m
  repeat' split
  all_goals simp only [mm]
theorem kL_X3_examine (g : mG) (m : mM) (f : Nat) (a : Int32) (N : Nat) : gL (X3_examine_m g m f a N) = gL m := by
  unfold X3_examine_m
  repeat' split
  all_goals simp only [mm]
theorem kD_X3_examine (g : mG) (m : mM) (f : Nat) (a : Int32) (N : Nat) : gD (X3_examine_m g m f a N) = gD m := by
  unfold X3_examine_m
  repeat' split
  all_goals simp only [mm]
theorem fr_X3_examine (g : mG) (m : mM) (f : Nat) (a : Int32) (N : Nat) (hs : SF m f) (hN8 : N ≤ 8) : Fr f (f + 16) m (X3_examine_m g m f a N) := by
  unfold X3_examine_m
  split
  ·
    exact Fr.rf
  ·
    rename_i p1 hq1
    have hb_p1 := find_b hs hN8 hq1
    split
    ·
      split
      ·
        exact Fr.rf
      ·
        split
        ·
          split
          ·
            split
            ·
              exact ((((Fr.rf).I (by first | omega | (have h3_ := n8_lt' (by assumption) hN8; omega) | (have h3_ := n4_lt' (by assumption) hH4; omega)))).R (by first | omega | (have h3_ := n8_lt' (by assumption) hN8; omega) | (have h3_ := n4_lt' (by assumption) hH4; omega)))
            ·
              exact ((((((Fr.rf).I (by first | omega | (have h3_ := n8_lt' (by assumption) hN8; omega) | (have h3_ := n4_lt' (by assumption) hH4; omega)))).R (by first | omega | (have h3_ := n8_lt' (by assumption) hN8; omega) | (have h3_ := n4_lt' (by assumption) hH4; omega)))).I (by first | omega | (have h3_ := n8_lt' (by assumption) hN8; omega) | (have h3_ := n4_lt' (by assumption) hH4; omega)))
          ·
            exact Fr.rf
        ·
          exact Fr.rf
    ·
      exact Fr.rf
set_option maxHeartbeats 4000000 in
set_option maxRecDepth 100000 in
theorem c_X3_examine {l : Launch} {g : mG} (hO : mO l g) (m : mM) (f : Nat) (a : Int32) (N : Nat) (hs : SF m f) (hN : gI m 163 f = nI N) (hN8 : N ≤ 8) : mT l g yX3_examine (.code yX3_examine cX3_examine 3 (Option.some FieldType.int)) 2 42 0 0 [.ref f, .int a] m (fun r m' => r = some (.int (X3_examine_r g m f a N)) ∧ m' = X3_examine_m g m f a N) nX := by
  refine mT_of hO (by decide) (Nat.le_of_ble_eq_true rfl) (fun x hX hZ => ?_)
  show mV g x m 0 0 0 [(0, .ref f), (1, .int a)] []
  refine v_aload_n (pc := 0) hX dX3_examine_0 rfl ?_
  refine v_iload_n (pc := 1) hX dX3_examine_1 rfl ?_
  refine v_callV (z := yX3_find) (pc := 2) hX dX3_examine_2 (c_X3_find hO m f a N hs hN hN8) hs.k rfl wd_1002 wd_370 wd_371 wd_2 wd_372 ⟨by decide, by decide, (by decide +kernel : (parseMethodDescriptor yX3_find.desc).map (fun d => d.parameters.length) = some 1)⟩ rfl (Nat.le_of_ble_eq_true rfl) ⟨⟨by decide, by decide⟩, by decide, by decide⟩ (fun E m9 h9 => h9.elim) (fun r9 m9 h9 => ?_)
  obtain ⟨rfl, h8⟩ := h9
  replace h8 := h8.symm
  subst h8
  show mV g x _ _ _ _ _ [va_rf (X3_find_r g m f a N)]
  rcases hq1 : X3_find_r g m f a N with _ | p1
  ·
    show mV g x _ _ _ _ _ [.null]
    refine v_astore_nN (pc := 5) hX dX3_examine_5 (by decide) rfl ?_
    refine v_aload_nN (pc := 6) hX dX3_examine_6 rfl ?_
    refine v_ifnonnull_n (pc := 7) hX dX3_examine_7 ?_
    refine v_iconst (v := (-1)) (pc := 10) hX dX3_examine_10 (by decide) ?_
    exact v_iret (pc := 11) hX hZ dX3_examine_11 (by decide) (by decide) ⟨(by simp only [X3_examine_r, hq1]), (by simp only [X3_examine_m, hq1])⟩
  ·
    show mV g x _ _ _ _ _ [.ref p1]
    refine v_astore_n (pc := 5) hX dX3_examine_5 (by decide) rfl ?_
    refine v_aload_n (pc := 6) hX dX3_examine_6 rfl ?_
    refine v_ifnonnull_s (tgt := 12) (pc := 7) hX dX3_examine_7 (by decide) ?_
    refine v_aload_n (pc := 12) hX dX3_examine_12 rfl ?_
    refine v_getN (v := .int (gI m 293 p1)) (pc := 13) hX dX3_examine_13 (find_k hs hN8 hq1) (ci := 9) (r := vwC9) rfl 5 (by decide) wd_108 rfl ?_
    refine v_if_ne (tgt := 36) (pc := 16) hX dX3_examine_16 (by decide) (fun c1 => ?_) (fun c1 => ?_)
    ·
      refine v_bipush (v := (-4)) (pc := 36) hX dX3_examine_36 (by decide) ?_
      exact v_iret (pc := 38) hX hZ dX3_examine_38 (by decide) (by decide) ⟨(by simp only [X3_examine_r, hq1, if_neg c1]), (by simp only [X3_examine_m, hq1, if_neg c1])⟩
    ·
      refine v_aload_n (pc := 19) hX dX3_examine_19 rfl ?_
      refine v_getN (v := .int (gI m 294 p1)) (pc := 20) hX dX3_examine_20 (find_k hs hN8 hq1) (ci := 9) (r := vwC9) rfl 6 (by decide) wd_111 rfl ?_
      refine v_if_eq (tgt := 36) (pc := 23) hX dX3_examine_23 (by decide) (fun c2 => ?_) (fun c2 => ?_)
      ·
        refine v_bipush (v := (-4)) (pc := 36) hX dX3_examine_36 (by decide) ?_
        exact v_iret (pc := 38) hX hZ dX3_examine_38 (by decide) (by decide) ⟨(by simp only [X3_examine_r, hq1, if_pos c1, if_pos c2]), (by simp only [X3_examine_m, hq1, if_pos c1, if_pos c2])⟩
      ·
        refine v_aload_n (pc := 26) hX dX3_examine_26 rfl ?_
        refine v_getN (v := va_rf (gR m 295 p1)) (pc := 27) hX dX3_examine_27 (find_k hs hN8 hq1) (ci := 9) (r := vwC9) rfl 7 (by decide) wd_114 rfl ?_
        refine v_gets (pc := 30) hX dX3_examine_30 (vd_Z0 hO) wd_401 ?_
        refine v_acmp_eq (a := gR m 295 p1) (b := some (vdA g 0)) (tgt := 39) (pc := 33) hX dX3_examine_33 (by decide) (fun c3 => ?_) (fun c3 => ?_)
        ·
          refine v_aload_n (pc := 39) hX dX3_examine_39 rfl ?_
          refine v_getN (v := .int (gI m 290 p1)) (pc := 40) hX dX3_examine_40 (find_k hs hN8 hq1) (ci := 9) (r := vwC9) rfl 2 (by decide) wd_99 rfl ?_
          refine v_bipush (v := 60) (pc := 43) hX dX3_examine_43 (by decide) ?_
          refine v_icmp_le (tgt := 51) (pc := 45) hX dX3_examine_45 (by decide) (fun c4 => ?_) (fun c4 => ?_)
          ·
            refine v_aload_n (pc := 51) hX dX3_examine_51 rfl ?_
            refine v_dup (pc := 52) hX dX3_examine_52 rfl ?_
            refine v_get (v := .int (gI m 169 f)) (pc := 53) hX dX3_examine_53 hs.k (ci := 5) (r := vwC5) rfl 9 (by decide) wd_167 rfl ?_
            refine v_iconst (v := 1) (pc := 56) hX dX3_examine_56 (by decide) ?_
            refine v_iadd (pc := 57) hX dX3_examine_57 ?_
            refine v_put (m1 := (sI m 169 f ((gI m 169 f) + 1))) (pc := 58) hX dX3_examine_58 hs.k (ci := 5) (r := vwC5) rfl 9 (by decide) wd_167 rfl rfl rfl rfl ?_
            refine v_aload_n (pc := 61) hX dX3_examine_61 rfl ?_
            refine v_callV (z := yX7_meetsTest) (pc := 62) hX dX3_examine_62 (c_X7_meetsTest hO ((sI m 169 f ((gI m 169 f) + 1))) p1 (by simp only [mm]; exact (find_k hs hN8 hq1))) (by simp only [mm]; exact (find_k hs hN8 hq1)) rfl wd_1069 wd_1070 wd_1071 wd_4 wd_1072 ⟨by decide, by decide, (by decide +kernel : (parseMethodDescriptor yX7_meetsTest.desc).map (fun d => d.parameters.length) = some 0)⟩ rfl (Nat.le_of_ble_eq_true rfl) ⟨⟨by decide, by decide⟩, by decide, by decide⟩ (fun E m9 h9 => h9.elim) (fun r9 m9 h9 => ?_)
            obtain ⟨rfl, h8⟩ := h9
            replace h8 := h8.symm
            subst h8
            show mV g x _ _ _ _ _ [.int (X7_meetsTest_r g ((sI m 169 f ((gI m 169 f) + 1))) p1)]
            refine v_if_ne (tgt := 77) (pc := 65) hX dX3_examine_65 (by decide) (fun c5 => ?_) (fun c5 => ?_)
            ·
              refine v_aload_n (pc := 77) hX dX3_examine_77 rfl ?_
              refine v_gets (pc := 78) hX dX3_examine_78 (vd_Z1 hO) wd_1075 ?_
              refine v_putN (m1 := (sR (sI m 169 f ((gI m 169 f) + 1)) 295 p1 (some (vdA g 1)))) (pc := 81) hX dX3_examine_81 (by simp only [mm]; exact (find_k hs hN8 hq1)) (ci := 9) (r := vwC9) rfl 7 (by decide) wd_114 rfl rfl rfl rfl ?_
              refine v_aload_n (pc := 84) hX dX3_examine_84 rfl ?_
              refine v_dup (pc := 85) hX dX3_examine_85 rfl ?_
              refine v_get (v := .int (gI m 170 f)) (pc := 86) hX dX3_examine_86 (by simp only [mm]; exact hs.k) (ci := 5) (r := vwC5) rfl 10 (by decide) wd_169 (by show Value.int _ = Value.int _; simp [mm]) ?_
              refine v_iconst (v := 1) (pc := 89) hX dX3_examine_89 (by decide) ?_
              refine v_iadd (pc := 90) hX dX3_examine_90 ?_
              refine v_put (m1 := (sI (sR (sI m 169 f ((gI m 169 f) + 1)) 295 p1 (some (vdA g 1))) 170 f ((gI m 170 f) + 1))) (pc := 91) hX dX3_examine_91 (by simp only [mm]; exact hs.k) (ci := 5) (r := vwC5) rfl 10 (by decide) wd_169 rfl rfl rfl rfl ?_
              refine v_iconst (v := 1) (pc := 94) hX dX3_examine_94 (by decide) ?_
              exact v_iret (pc := 95) hX hZ dX3_examine_95 (by decide) (by decide) ⟨(by simp only [X3_examine_r, hq1, if_pos c1, if_neg c2, if_pos c3, if_pos c4, if_neg c5]), (by simp only [X3_examine_m, hq1, if_pos c1, if_neg c2, if_pos c3, if_pos c4, if_neg c5])⟩
            ·
              refine v_aload_n (pc := 68) hX dX3_examine_68 rfl ?_
              refine v_gets (pc := 69) hX dX3_examine_69 (vd_Z2 hO) wd_1073 ?_
              refine v_putN (m1 := (sR (sI m 169 f ((gI m 169 f) + 1)) 295 p1 (some (vdA g 2)))) (pc := 72) hX dX3_examine_72 (by simp only [mm]; exact (find_k hs hN8 hq1)) (ci := 9) (r := vwC9) rfl 7 (by decide) wd_114 rfl rfl rfl rfl ?_
              refine v_iconst (v := 0) (pc := 75) hX dX3_examine_75 (by decide) ?_
              exact v_iret (pc := 76) hX hZ dX3_examine_76 (by decide) (by decide) ⟨(by simp only [X3_examine_r, hq1, if_pos c1, if_neg c2, if_pos c3, if_pos c4, if_pos c5]), (by simp only [X3_examine_m, hq1, if_pos c1, if_neg c2, if_pos c3, if_pos c4, if_pos c5])⟩
          ·
            refine v_bipush (v := (-5)) (pc := 48) hX dX3_examine_48 (by decide) ?_
            exact v_iret (pc := 50) hX hZ dX3_examine_50 (by decide) (by decide) ⟨(by simp only [X3_examine_r, hq1, if_pos c1, if_neg c2, if_pos c3, if_neg c4]), (by simp only [X3_examine_m, hq1, if_pos c1, if_neg c2, if_pos c3, if_neg c4])⟩
        ·
          refine v_bipush (v := (-4)) (pc := 36) hX dX3_examine_36 (by decide) ?_
          exact v_iret (pc := 38) hX hZ dX3_examine_38 (by decide) (by decide) ⟨(by simp only [X3_examine_r, hq1, if_pos c1, if_neg c2, if_neg c3]), (by simp only [X3_examine_m, hq1, if_pos c1, if_neg c2, if_neg c3])⟩
