/-! HISTORY at h: its row h+1, nine forges behind it -/
def SH (m : mM) (h : Nat) : Prop := gK m h = some (.inl 8) ∧ gR m 256 h = some (h + 1) ∧ gK m (h + 1) = some (.inr (6, 9)) ∧ (∀ i, i < 9 → gQ m (h + 1) i = some (h + 2 + 16 * i)) ∧ ∀ i, i < 9 → SF m (h + 2 + 16 * i)
theorem SH.k {m : mM} {h : Nat} (s : SH m h) : gK m h = some (.inl 8) := s.1
theorem SH.r {m : mM} {h : Nat} (s : SH m h) : gR m 256 h = some (h + 1) := s.2.1
theorem SH.k1 {m : mM} {h : Nat} (s : SH m h) : gK m (h + 1) = some (.inr (6, 9)) := s.2.2.1
theorem SH.q {m : mM} {h i : Nat} (s : SH m h) (hi : i < 9) : gQ m (h + 1) i = some (h + 2 + 16 * i) := s.2.2.2.1 i hi
theorem SH.f {m : mM} {h i : Nat} (s : SH m h) (hi : i < 9) : SF m (h + 2 + 16 * i) := s.2.2.2.2 i hi
theorem SH.to {m m1 : mM} {h : Nat} (s : SH m h) (hk : gK m1 = gK m) (hr : ∀ k, k ≠ 295 → ∀ a, gR m1 k a = gR m k a) (hq : gQ m1 = gQ m) : SH m1 h :=
  ⟨by rw [hk]; exact s.1, by rw [hr _ (by decide)]; exact s.2.1, by rw [hk]; exact s.k1, fun i hi => by rw [hq]; exact s.q hi, fun i hi => (s.f hi).to hk (hr _ (by decide) _) (hr _ (by decide) _) (hr _ (by decide) _) hq⟩
theorem npos {nx : Nat} (h : ¬ nI nx ≤ (0 : Int32)) : 0 < nx := by
  rcases Nat.eq_zero_or_pos nx with rfl | q
  · exact absurd h (by decide)
  · exact q
def X6_prepare_m (g : mG) (m : mM) (h : Nat) (f : Nat) (nx : Nat) : mM := (X3_copyFrom_m g m (h + 2 + 16 * nx) f )
theorem kK_X6_prepare (g : mG) (m : mM) (h : Nat) (f : Nat) (nx : Nat) : gK (X6_prepare_m g m h f nx) = gK m := by
  unfold X6_prepare_m
  repeat' split
  all_goals simp only [mm, kK_X3_copyFrom]
theorem kN_X6_prepare (g : mG) (m : mM) (h : Nat) (f : Nat) (nx : Nat) : gN (X6_prepare_m g m h f nx) = gN m := by
  unfold X6_prepare_m
  repeat' split
  all_goals simp only [mm, kN_X3_copyFrom]
theorem kI_X6_prepare (g : mG) (m : mM) (h : Nat) (f : Nat) (nx : Nat) (k a9 : Nat) (h0 : k ≠ 163) (h1 : k ≠ 164) (h2 : k ≠ 165) (h3 : k ≠ 166) (h4 : k ≠ 167) (h5 : k ≠ 168) (h6 : k ≠ 169) (h7 : k ≠ 170) (h8 : k ≠ 192) (h9 : k ≠ 193) (h10 : k ≠ 194) (h11 : k ≠ 224) (h12 : k ≠ 225) (h13 : k ≠ 288) (h14 : k ≠ 289) (h15 : k ≠ 290) (h16 : k ≠ 291) (h17 : k ≠ 292) (h18 : k ≠ 293) (h19 : k ≠ 294) : gI (X6_prepare_m g m h f nx) k a9 = gI m k a9 := by
  unfold X6_prepare_m
  repeat' split
  all_goals simp [mm, kI_X3_copyFrom, h0, h1, h2, h3, h4, h5, h6, h7, h8, h9, h10, h11, h12, h13, h14, h15, h16, h17, h18, h19]
theorem kJ_X6_prepare (g : mG) (m : mM) (h : Nat) (f : Nat) (nx : Nat) (k a9 : Nat) (h0 : k ≠ 171) (h1 : k ≠ 195) : gJ (X6_prepare_m g m h f nx) k a9 = gJ m k a9 := by
  unfold X6_prepare_m
  repeat' split
  all_goals simp [mm, kJ_X3_copyFrom, h0, h1]
theorem kR_X6_prepare (g : mG) (m : mM) (h : Nat) (f : Nat) (nx : Nat) (k a9 : Nat) (h0 : k ≠ 295) : gR (X6_prepare_m g m h f nx) k a9 = gR m k a9 := by
  unfold X6_prepare_m
  repeat' split
  all_goals simp [mm, kR_X3_copyFrom, h0]
theorem kA_X6_prepare (g : mG) (m : mM) (h : Nat) (f : Nat) (nx : Nat) : gA (X6_prepare_m g m h f nx) = gA m := by
  unfold X6_prepare_m
  repeat' split
  all_goals simp only [mm, kA_X3_copyFrom]
theorem kQ_X6_prepare (g : mG) (m : mM) (h : Nat) (f : Nat) (nx : Nat) : gQ (X6_prepare_m g m h f nx) = gQ m := by
  unfold X6_prepare_m
  repeat' split
  all_goals simp only [mm, kQ_X3_copyFrom]
theorem kL_X6_prepare (g : mG) (m : mM) (h : Nat) (f : Nat) (nx : Nat) : gL (X6_prepare_m g m h f nx) = gL m := by
  unfold X6_prepare_m
  repeat' split
  all_goals simp only [mm, kL_X3_copyFrom]
theorem kD_X6_prepare (g : mG) (m : mM) (h : Nat) (f : Nat) (nx : Nat) : gD (X6_prepare_m g m h f nx) = gD m := by
  unfold X6_prepare_m
  repeat' split
  all_goals simp only [mm, kD_X3_copyFrom]
theorem fr_X6_prepare (g : mG) (m : mM) (h : Nat) (f : Nat) (nx : Nat) (hh : SH m h) (hn9 : nx < 9) (hs : SF m f) : Fr h (h + 146) m (X6_prepare_m g m h f nx) := by
  unfold X6_prepare_m
  exact ((Fr.rf).tr (fr_X3_copyFrom g m (h + 2 + 16 * nx) f (hh.f (i := nx) (by omega)) hs) (by omega) (by omega))
set_option maxHeartbeats 4000000 in
set_option maxRecDepth 100000 in
theorem c_X6_prepare {l : Launch} {g : mG} (hO : mO l g) (m : mM) (h : Nat) (f : Nat) (nx : Nat) (hh : SH m h) (hn : gI m 257 h = nI nx) (hn9 : nx < 9) (hs : SF m f) : mT l g yX6_prepare (.code yX6_prepare cX6_prepare 2 (Option.none : Option FieldType)) 3 63 0 0 [.ref h, .ref f] m (fun r m' => r = none ∧ m' = X6_prepare_m g m h f nx) nX := by
  refine mT_of hO (by decide) (Nat.le_of_ble_eq_true rfl) (fun x hX hZ => ?_)
  show mV g x m 0 0 0 [(0, .ref h), (1, .ref f)] []
  refine v_aload_n (pc := 0) hX dX6_prepare_0 rfl ?_
  refine v_get (v := .ref (h + 1)) (pc := 1) hX dX6_prepare_1 hh.k (ci := 8) (r := vwC8) rfl 0 (by decide) wd_206 (fvR hh.r) ?_
  refine v_aload_n (pc := 4) hX dX6_prepare_4 rfl ?_
  refine v_get (v := .int (nI nx)) (pc := 5) hX dX6_prepare_5 hh.k (ci := 8) (r := vwC8) rfl 1 (by decide) wd_207 (congrArg Value.int hn) ?_
  refine v_aaldR (q := h + 2 + 16 * nx) (pc := 8) hX dX6_prepare_8 hh.k1 (by decide) (by decide) rfl hn9 (by decide) (hh.q hn9) ?_
  refine v_aload_n (pc := 9) hX dX6_prepare_9 rfl ?_
  refine v_callV (z := yX3_copyFrom) (pc := 10) hX dX6_prepare_10 (c_X3_copyFrom hO m (h + 2 + 16 * nx) f (hh.f (i := nx) (by omega)) hs) (hh.f (i := nx) (by omega)).k rfl wd_859 wd_416 wd_417 wd_2 wd_418 ⟨by decide, by decide, (by decide +kernel : (parseMethodDescriptor yX3_copyFrom.desc).map (fun d => d.parameters.length) = some 1)⟩ rfl (Nat.le_of_ble_eq_true rfl) ⟨⟨by decide, by decide⟩, by decide, by decide⟩ (fun E m9 h9 => h9.elim) (fun r9 m9 h9 => ?_)
  obtain ⟨rfl, h8⟩ := h9
  replace h8 := h8.symm
  subst h8
  show mV g x _ _ _ _ _ []
  exact v_vret (pc := 13) hX hZ dX6_prepare_13 (by decide) (by decide) ⟨rfl, (by rw [X6_prepare_m])⟩
def X6_commit_m (g : mG) (m : mM) (h : Nat)  : mM := if 9 ≤ ((gI m 257 h) + 1) then ((sI (sI m 257 h 0) 258 h (imin 8 ((gI m 258 h) + 1)))) else ((sI (sI m 257 h ((gI m 257 h) + 1)) 258 h (imin 8 ((gI m 258 h) + 1))))
theorem kK_X6_commit (g : mG) (m : mM) (h : Nat)  : gK (X6_commit_m g m h ) = gK m := by
  unfold X6_commit_m
  repeat' split
  all_goals simp only [mm]
theorem kN_X6_commit (g : mG) (m : mM) (h : Nat)  : gN (X6_commit_m g m h ) = gN m := by
  unfold X6_commit_m
  repeat' split
  all_goals simp only [mm]
theorem kI_X6_commit (g : mG) (m : mM) (h : Nat)  (k a9 : Nat) (h0 : k ≠ 257) (h1 : k ≠ 258) : gI (X6_commit_m g m h ) k a9 = gI m k a9 := by
  unfold X6_commit_m
  repeat' split
  all_goals simp [mm, h0, h1]
theorem kJ_X6_commit (g : mG) (m : mM) (h : Nat)  : gJ (X6_commit_m g m h ) = gJ m := by
  unfold X6_commit_m
  repeat' split
  all_goals simp only [mm]
theorem kR_X6_commit (g : mG) (m : mM) (h : Nat)  : gR (X6_commit_m g m h ) = gR m := by
  unfold X6_commit_m
  repeat' split
  all_goals simp only [mm]
theorem kA_X6_commit (g : mG) (m : mM) (h : Nat)  : gA (X6_commit_m g m h ) = gA m := by
  unfold X6_commit_m
  repeat' split
  all_goals simp only [mm]
theorem kQ_X6_commit (g : mG) (m : mM) (h : Nat)  : gQ (X6_commit_m g m h ) = gQ m := by
  unfold X6_commit_m
  repeat' split
  all_goals simp only [mm]
theorem kL_X6_commit (g : mG) (m : mM) (h : Nat)  : gL (X6_commit_m g m h ) = gL m := by
  unfold X6_commit_m
  repeat' split
  all_goals simp only [mm]
theorem kD_X6_commit (g : mG) (m : mM) (h : Nat)  : gD (X6_commit_m g m h ) = gD m := by
  unfold X6_commit_m
  repeat' split
  all_goals simp only [mm]
set_option maxHeartbeats 4000000 in
set_option maxRecDepth 100000 in
theorem c_X6_commit {l : Launch} {g : mG} (hO : mO l g) (m : mM) (h : Nat)  (hh : SH m h) : mT l g yX6_commit (.code yX6_commit cX6_commit 1 (Option.none : Option FieldType)) 1 21 0 0 [.ref h] m (fun r m' => r = none ∧ m' = X6_commit_m g m h ) nX := by
  refine mT_of hO (by decide) (Nat.le_of_ble_eq_true rfl) (fun x hX hZ => ?_)
  show mV g x m 0 0 0 [(0, .ref h)] []
  refine v_aload_n (pc := 0) hX dX6_commit_0 rfl ?_
  refine v_aload_n (pc := 1) hX dX6_commit_1 rfl ?_
  refine v_get (v := .int (gI m 257 h)) (pc := 2) hX dX6_commit_2 hh.k (ci := 8) (r := vwC8) rfl 1 (by decide) wd_207 rfl ?_
  refine v_iconst (v := 1) (pc := 5) hX dX6_commit_5 (by decide) ?_
  refine v_iadd (pc := 6) hX dX6_commit_6 ?_
  refine v_bipush (v := 9) (pc := 7) hX dX6_commit_7 (by decide) ?_
  refine v_icmp_ge (tgt := 21) (pc := 9) hX dX6_commit_9 (by decide) (fun c1 => ?_) (fun c1 => ?_)
  ·
    refine v_iconst (v := 0) (pc := 21) hX dX6_commit_21 (by decide) ?_
    refine v_put (m1 := (sI m 257 h 0)) (pc := 22) hX dX6_commit_22 hh.k (ci := 8) (r := vwC8) rfl 1 (by decide) wd_207 rfl rfl rfl rfl ?_
    refine v_aload_n (pc := 25) hX dX6_commit_25 rfl ?_
    refine v_bipush (v := 8) (pc := 26) hX dX6_commit_26 (by decide) ?_
    refine v_aload_n (pc := 28) hX dX6_commit_28 rfl ?_
    refine v_get (v := .int (gI m 258 h)) (pc := 29) hX dX6_commit_29 (by simp only [mm]; exact hh.k) (ci := 8) (r := vwC8) rfl 2 (by decide) wd_208 (by show Value.int _ = Value.int _; simp [mm]) ?_
    refine v_iconst (v := 1) (pc := 32) hX dX6_commit_32 (by decide) ?_
    refine v_iadd (pc := 33) hX dX6_commit_33 ?_
    refine v_mmin (pc := 34) hX dX6_commit_34 wd_936 (Nat.le_of_ble_eq_true rfl) ⟨by decide, by decide, by decide⟩ ?_
    refine v_put (m1 := (sI (sI m 257 h 0) 258 h (imin 8 ((gI m 258 h) + 1)))) (pc := 37) hX dX6_commit_37 (by simp only [mm]; exact hh.k) (ci := 8) (r := vwC8) rfl 2 (by decide) wd_208 rfl rfl rfl rfl ?_
    exact v_vret (pc := 40) hX hZ dX6_commit_40 (by decide) (by decide) ⟨rfl, (by rw [X6_commit_m, if_pos c1])⟩
  ·
    refine v_aload_n (pc := 12) hX dX6_commit_12 rfl ?_
    refine v_get (v := .int (gI m 257 h)) (pc := 13) hX dX6_commit_13 hh.k (ci := 8) (r := vwC8) rfl 1 (by decide) wd_207 rfl ?_
    refine v_iconst (v := 1) (pc := 16) hX dX6_commit_16 (by decide) ?_
    refine v_iadd (pc := 17) hX dX6_commit_17 ?_
    refine v_goto (tgt := 22) (pc := 18) hX dX6_commit_18 (by decide) ?_
    refine v_put (m1 := (sI m 257 h ((gI m 257 h) + 1))) (pc := 22) hX dX6_commit_22 hh.k (ci := 8) (r := vwC8) rfl 1 (by decide) wd_207 rfl rfl rfl rfl ?_
    refine v_aload_n (pc := 25) hX dX6_commit_25 rfl ?_
    refine v_bipush (v := 8) (pc := 26) hX dX6_commit_26 (by decide) ?_
    refine v_aload_n (pc := 28) hX dX6_commit_28 rfl ?_
    refine v_get (v := .int (gI m 258 h)) (pc := 29) hX dX6_commit_29 (by simp only [mm]; exact hh.k) (ci := 8) (r := vwC8) rfl 2 (by decide) wd_208 (by show Value.int _ = Value.int _; simp [mm]) ?_
    refine v_iconst (v := 1) (pc := 32) hX dX6_commit_32 (by decide) ?_
    refine v_iadd (pc := 33) hX dX6_commit_33 ?_
    refine v_mmin (pc := 34) hX dX6_commit_34 wd_936 (Nat.le_of_ble_eq_true rfl) ⟨by decide, by decide, by decide⟩ ?_
    refine v_put (m1 := (sI (sI m 257 h ((gI m 257 h) + 1)) 258 h (imin 8 ((gI m 258 h) + 1)))) (pc := 37) hX dX6_commit_37 (by simp only [mm]; exact hh.k) (ci := 8) (r := vwC8) rfl 2 (by decide) wd_208 rfl rfl rfl rfl ?_
    exact v_vret (pc := 40) hX hZ dX6_commit_40 (by decide) (by decide) ⟨rfl, (by rw [X6_commit_m, if_neg c1])⟩
def X6_forget_m (g : mG) (m : mM) (h : Nat)  : mM := (sI m 258 h 0)
theorem kK_X6_forget (g : mG) (m : mM) (h : Nat)  : gK (X6_forget_m g m h ) = gK m := by
  unfold X6_forget_m
  repeat' split
  all_goals simp only [mm]
theorem kN_X6_forget (g : mG) (m : mM) (h : Nat)  : gN (X6_forget_m g m h ) = gN m := by
  unfold X6_forget_m
  repeat' split
  all_goals simp only [mm]
theorem kI_X6_forget (g : mG) (m : mM) (h : Nat)  (k a9 : Nat) (h0 : k ≠ 258) : gI (X6_forget_m g m h ) k a9 = gI m k a9 := by
  unfold X6_forget_m
  repeat' split
  all_goals simp [mm, h0]
theorem kJ_X6_forget (g : mG) (m : mM) (h : Nat)  : gJ (X6_forget_m g m h ) = gJ m := by
  unfold X6_forget_m
  repeat' split
  all_goals simp only [mm]
theorem kR_X6_forget (g : mG) (m : mM) (h : Nat)  : gR (X6_forget_m g m h ) = gR m := by
  unfold X6_forget_m
  repeat' split
  all_goals simp only [mm]
theorem kA_X6_forget (g : mG) (m : mM) (h : Nat)  : gA (X6_forget_m g m h ) = gA m := by
  unfold X6_forget_m
  repeat' split
  all_goals simp only [mm]
theorem kQ_X6_forget (g : mG) (m : mM) (h : Nat)  : gQ (X6_forget_m g m h ) = gQ m := by
  unfold X6_forget_m
  repeat' split
  all_goals simp only [mm]
theorem kL_X6_forget (g : mG) (m : mM) (h : Nat)  : gL (X6_forget_m g m h ) = gL m := by
  unfold X6_forget_m
  repeat' split
  all_goals simp only [mm]
theorem kD_X6_forget (g : mG) (m : mM) (h : Nat)  : gD (X6_forget_m g m h ) = gD m := by
  unfold X6_forget_m
  repeat' split
  all_goals simp only [mm]
set_option maxHeartbeats 4000000 in
set_option maxRecDepth 100000 in
theorem c_X6_forget {l : Launch} {g : mG} (hO : mO l g) (m : mM) (h : Nat)  (hh : SH m h) : mT l g yX6_forget (.code yX6_forget cX6_forget 1 (Option.none : Option FieldType)) 1 20 0 0 [.ref h] m (fun r m' => r = none ∧ m' = X6_forget_m g m h ) nX := by
  refine mT_of hO (by decide) (Nat.le_of_ble_eq_true rfl) (fun x hX hZ => ?_)
  show mV g x m 0 0 0 [(0, .ref h)] []
  refine v_aload_n (pc := 0) hX dX6_forget_0 rfl ?_
  refine v_iconst (v := 0) (pc := 1) hX dX6_forget_1 (by decide) ?_
  refine v_put (m1 := (sI m 258 h 0)) (pc := 2) hX dX6_forget_2 hh.k (ci := 8) (r := vwC8) rfl 2 (by decide) wd_208 rfl rfl rfl rfl ?_
  exact v_vret (pc := 5) hX hZ dX6_forget_5 (by decide) (by decide) ⟨rfl, (by rw [X6_forget_m])⟩
def X6_takeBack_m (g : mG) (m : mM) (h : Nat) (f : Nat) (nx : Nat) : mM := if (nI nx) ≤ 0 then ((X3_copyFrom_m g ((sI (sI m 257 h 8) 258 h (imax 0 ((gI m 258 h) - 1)))) f (h + 2 + 16 * 8) )) else ((X3_copyFrom_m g ((sI (sI m 257 h ((nI nx) - 1)) 258 h (imax 0 ((gI m 258 h) - 1)))) f (h + 2 + 16 * (nx - 1)) ))
theorem kK_X6_takeBack (g : mG) (m : mM) (h : Nat) (f : Nat) (nx : Nat) : gK (X6_takeBack_m g m h f nx) = gK m := by
  unfold X6_takeBack_m
  repeat' split
  all_goals simp only [mm, kK_X3_copyFrom]
theorem kN_X6_takeBack (g : mG) (m : mM) (h : Nat) (f : Nat) (nx : Nat) : gN (X6_takeBack_m g m h f nx) = gN m := by
  unfold X6_takeBack_m
  repeat' split
  all_goals simp only [mm, kN_X3_copyFrom]
theorem kI_X6_takeBack (g : mG) (m : mM) (h : Nat) (f : Nat) (nx : Nat) (k a9 : Nat) (h0 : k ≠ 163) (h1 : k ≠ 164) (h2 : k ≠ 165) (h3 : k ≠ 166) (h4 : k ≠ 167) (h5 : k ≠ 168) (h6 : k ≠ 169) (h7 : k ≠ 170) (h8 : k ≠ 192) (h9 : k ≠ 193) (h10 : k ≠ 194) (h11 : k ≠ 224) (h12 : k ≠ 225) (h13 : k ≠ 257) (h14 : k ≠ 258) (h15 : k ≠ 288) (h16 : k ≠ 289) (h17 : k ≠ 290) (h18 : k ≠ 291) (h19 : k ≠ 292) (h20 : k ≠ 293) (h21 : k ≠ 294) : gI (X6_takeBack_m g m h f nx) k a9 = gI m k a9 := by
  unfold X6_takeBack_m
  repeat' split
  all_goals simp [mm, kI_X3_copyFrom, h0, h1, h2, h3, h4, h5, h6, h7, h8, h9, h10, h11, h12, h13, h14, h15, h16, h17, h18, h19, h20, h21]
theorem kJ_X6_takeBack (g : mG) (m : mM) (h : Nat) (f : Nat) (nx : Nat) (k a9 : Nat) (h0 : k ≠ 171) (h1 : k ≠ 195) : gJ (X6_takeBack_m g m h f nx) k a9 = gJ m k a9 := by
  unfold X6_takeBack_m
  repeat' split
  all_goals simp [mm, kJ_X3_copyFrom, h0, h1]
theorem kR_X6_takeBack (g : mG) (m : mM) (h : Nat) (f : Nat) (nx : Nat) (k a9 : Nat) (h0 : k ≠ 295) : gR (X6_takeBack_m g m h f nx) k a9 = gR m k a9 := by
  unfold X6_takeBack_m
  repeat' split
  all_goals simp [mm, kR_X3_copyFrom, h0]
theorem kA_X6_takeBack (g : mG) (m : mM) (h : Nat) (f : Nat) (nx : Nat) : gA (X6_takeBack_m g m h f nx) = gA m := by
  unfold X6_takeBack_m
  repeat' split
  all_goals simp only [mm, kA_X3_copyFrom]
theorem kQ_X6_takeBack (g : mG) (m : mM) (h : Nat) (f : Nat) (nx : Nat) : gQ (X6_takeBack_m g m h f nx) = gQ m := by
  unfold X6_takeBack_m
  repeat' split
  all_goals simp only [mm, kQ_X3_copyFrom]
theorem kL_X6_takeBack (g : mG) (m : mM) (h : Nat) (f : Nat) (nx : Nat) : gL (X6_takeBack_m g m h f nx) = gL m := by
  unfold X6_takeBack_m
  repeat' split
  all_goals simp only [mm, kL_X3_copyFrom]
theorem kD_X6_takeBack (g : mG) (m : mM) (h : Nat) (f : Nat) (nx : Nat) : gD (X6_takeBack_m g m h f nx) = gD m := by
  unfold X6_takeBack_m
  repeat' split
  all_goals simp only [mm, kD_X3_copyFrom]
set_option maxHeartbeats 4000000 in
set_option maxRecDepth 100000 in
theorem c_X6_takeBack {l : Launch} {g : mG} (hO : mO l g) (m : mM) (h : Nat) (f : Nat) (nx : Nat) (hh : SH m h) (hn : gI m 257 h = nI nx) (hn9 : nx < 9) (hs : SF m f) : mT l g yX6_takeBack (.code yX6_takeBack cX6_takeBack 2 (Option.none : Option FieldType)) 3 63 0 0 [.ref h, .ref f] m (fun r m' => r = none ∧ m' = X6_takeBack_m g m h f nx) nX := by
  refine mT_of hO (by decide) (Nat.le_of_ble_eq_true rfl) (fun x hX hZ => ?_)
  show mV g x m 0 0 0 [(0, .ref h), (1, .ref f)] []
  refine v_aload_n (pc := 0) hX dX6_takeBack_0 rfl ?_
  refine v_aload_n (pc := 1) hX dX6_takeBack_1 rfl ?_
  refine v_get (v := .int (nI nx)) (pc := 2) hX dX6_takeBack_2 hh.k (ci := 8) (r := vwC8) rfl 1 (by decide) wd_207 (congrArg Value.int hn) ?_
  refine v_if_le (tgt := 17) (pc := 5) hX dX6_takeBack_5 (by decide) (fun c1 => ?_) (fun c1 => ?_)
  ·
    refine v_bipush (v := 8) (pc := 17) hX dX6_takeBack_17 (by decide) ?_
    refine v_put (m1 := (sI m 257 h 8)) (pc := 19) hX dX6_takeBack_19 hh.k (ci := 8) (r := vwC8) rfl 1 (by decide) wd_207 rfl rfl rfl rfl ?_
    refine v_aload_n (pc := 22) hX dX6_takeBack_22 rfl ?_
    refine v_iconst (v := 0) (pc := 23) hX dX6_takeBack_23 (by decide) ?_
    refine v_aload_n (pc := 24) hX dX6_takeBack_24 rfl ?_
    refine v_get (v := .int (gI m 258 h)) (pc := 25) hX dX6_takeBack_25 (by simp only [mm]; exact hh.k) (ci := 8) (r := vwC8) rfl 2 (by decide) wd_208 (by show Value.int _ = Value.int _; simp [mm]) ?_
    refine v_iconst (v := 1) (pc := 28) hX dX6_takeBack_28 (by decide) ?_
    refine v_isub (pc := 29) hX dX6_takeBack_29 ?_
    refine v_mmax (pc := 30) hX dX6_takeBack_30 wd_1487 (Nat.le_of_ble_eq_true rfl) ⟨by decide, by decide, by decide⟩ ?_
    refine v_put (m1 := (sI (sI m 257 h 8) 258 h (imax 0 ((gI m 258 h) - 1)))) (pc := 33) hX dX6_takeBack_33 (by simp only [mm]; exact hh.k) (ci := 8) (r := vwC8) rfl 2 (by decide) wd_208 rfl rfl rfl rfl ?_
    refine v_aload_n (pc := 36) hX dX6_takeBack_36 rfl ?_
    refine v_aload_n (pc := 37) hX dX6_takeBack_37 rfl ?_
    refine v_get (v := .ref (h + 1)) (pc := 38) hX dX6_takeBack_38 (by simp only [mm]; exact hh.k) (ci := 8) (r := vwC8) rfl 0 (by decide) wd_206 (fvR (by simp [mm, hh.r])) ?_
    refine v_aload_n (pc := 41) hX dX6_takeBack_41 rfl ?_
    refine v_get (v := .int 8) (pc := 42) hX dX6_takeBack_42 (by simp only [mm]; exact hh.k) (ci := 8) (r := vwC8) rfl 1 (by decide) wd_207 (by show Value.int _ = Value.int _; simp [mm]) ?_
    refine v_aaldR (q := h + 2 + 16 * 8) (pc := 45) hX dX6_takeBack_45 (by simp only [mm]; exact hh.k1) (by decide) (by decide) rfl (by decide) (by decide) (by simp only [mm]; exact (hh.q (by decide))) ?_
    refine v_callV (z := yX3_copyFrom) (pc := 46) hX dX6_takeBack_46 (c_X3_copyFrom hO ((sI (sI m 257 h 8) 258 h (imax 0 ((gI m 258 h) - 1)))) f (h + 2 + 16 * 8) (hs.to rfl rfl rfl rfl rfl) ((hh.f (i := 8) (by omega)).to rfl rfl rfl rfl rfl)) (by simp only [mm]; exact hs.k) rfl wd_859 wd_416 wd_417 wd_2 wd_418 ⟨by decide, by decide, (by decide +kernel : (parseMethodDescriptor yX3_copyFrom.desc).map (fun d => d.parameters.length) = some 1)⟩ rfl (Nat.le_of_ble_eq_true rfl) ⟨⟨by decide, by decide⟩, by decide, by decide⟩ (fun E m9 h9 => h9.elim) (fun r9 m9 h9 => ?_)
    obtain ⟨rfl, h8⟩ := h9
    replace h8 := h8.symm
    subst h8
    show mV g x _ _ _ _ _ []
    exact v_vret (pc := 49) hX hZ dX6_takeBack_49 (by decide) (by decide) ⟨rfl, (by rw [X6_takeBack_m, if_pos c1])⟩
  ·
    refine v_aload_n (pc := 8) hX dX6_takeBack_8 rfl ?_
    refine v_get (v := .int (nI nx)) (pc := 9) hX dX6_takeBack_9 hh.k (ci := 8) (r := vwC8) rfl 1 (by decide) wd_207 (congrArg Value.int hn) ?_
    refine v_iconst (v := 1) (pc := 12) hX dX6_takeBack_12 (by decide) ?_
    refine v_isub (pc := 13) hX dX6_takeBack_13 ?_
    refine v_goto (tgt := 19) (pc := 14) hX dX6_takeBack_14 (by decide) ?_
    refine v_put (m1 := (sI m 257 h ((nI nx) - 1))) (pc := 19) hX dX6_takeBack_19 hh.k (ci := 8) (r := vwC8) rfl 1 (by decide) wd_207 rfl rfl rfl rfl ?_
    refine v_aload_n (pc := 22) hX dX6_takeBack_22 rfl ?_
    refine v_iconst (v := 0) (pc := 23) hX dX6_takeBack_23 (by decide) ?_
    refine v_aload_n (pc := 24) hX dX6_takeBack_24 rfl ?_
    refine v_get (v := .int (gI m 258 h)) (pc := 25) hX dX6_takeBack_25 (by simp only [mm]; exact hh.k) (ci := 8) (r := vwC8) rfl 2 (by decide) wd_208 (by show Value.int _ = Value.int _; simp [mm]) ?_
    refine v_iconst (v := 1) (pc := 28) hX dX6_takeBack_28 (by decide) ?_
    refine v_isub (pc := 29) hX dX6_takeBack_29 ?_
    refine v_mmax (pc := 30) hX dX6_takeBack_30 wd_1487 (Nat.le_of_ble_eq_true rfl) ⟨by decide, by decide, by decide⟩ ?_
    refine v_put (m1 := (sI (sI m 257 h ((nI nx) - 1)) 258 h (imax 0 ((gI m 258 h) - 1)))) (pc := 33) hX dX6_takeBack_33 (by simp only [mm]; exact hh.k) (ci := 8) (r := vwC8) rfl 2 (by decide) wd_208 rfl rfl rfl rfl ?_
    refine v_aload_n (pc := 36) hX dX6_takeBack_36 rfl ?_
    refine v_aload_n (pc := 37) hX dX6_takeBack_37 rfl ?_
    refine v_get (v := .ref (h + 1)) (pc := 38) hX dX6_takeBack_38 (by simp only [mm]; exact hh.k) (ci := 8) (r := vwC8) rfl 0 (by decide) wd_206 (fvR (by simp [mm, hh.r])) ?_
    refine v_aload_n (pc := 41) hX dX6_takeBack_41 rfl ?_
    refine v_get (v := .int ((nI nx) - 1)) (pc := 42) hX dX6_takeBack_42 (by simp only [mm]; exact hh.k) (ci := 8) (r := vwC8) rfl 1 (by decide) wd_207 (by show Value.int _ = Value.int _; simp [mm]) ?_
    refine v_aaldR (q := h + 2 + 16 * (nx - 1)) (pc := 45) hX dX6_takeBack_45 (by simp only [mm]; exact hh.k1) (by decide) (by decide) (pk_sub (a := nx) (b := 1) (by have := npos (nx := nx) (by assumption); omega)) (by omega) (by decide) (by simp only [mm]; exact (hh.q (by omega))) ?_
    refine v_callV (z := yX3_copyFrom) (pc := 46) hX dX6_takeBack_46 (c_X3_copyFrom hO ((sI (sI m 257 h ((nI nx) - 1)) 258 h (imax 0 ((gI m 258 h) - 1)))) f (h + 2 + 16 * (nx - 1)) (hs.to rfl rfl rfl rfl rfl) ((hh.f (i := (nx - 1)) (by omega)).to rfl rfl rfl rfl rfl)) (by simp only [mm]; exact hs.k) rfl wd_859 wd_416 wd_417 wd_2 wd_418 ⟨by decide, by decide, (by decide +kernel : (parseMethodDescriptor yX3_copyFrom.desc).map (fun d => d.parameters.length) = some 1)⟩ rfl (Nat.le_of_ble_eq_true rfl) ⟨⟨by decide, by decide⟩, by decide, by decide⟩ (fun E m9 h9 => h9.elim) (fun r9 m9 h9 => ?_)
    obtain ⟨rfl, h8⟩ := h9
    replace h8 := h8.symm
    subst h8
    show mV g x _ _ _ _ _ []
    exact v_vret (pc := 49) hX hZ dX6_takeBack_49 (by decide) (by decide) ⟨rfl, (by rw [X6_takeBack_m, if_neg c1])⟩
