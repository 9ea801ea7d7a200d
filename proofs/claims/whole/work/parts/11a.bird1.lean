/-! THE CLASS at b: forge b+1, saved b+17, trial b+33, history b+49, forecast b+195, program b+214, line b+230 -/
def SB (m : mM) (b : Nat) : Prop := gK m b = some (.inl 11) ∧ gR m 352 b = some (b + 1) ∧ gR m 353 b = some (b + 17) ∧ gR m 354 b = some (b + 33) ∧ gR m 355 b = some (b + 49) ∧ gR m 356 b = some (b + 195) ∧ gR m 357 b = some (b + 214) ∧ gR m 358 b = some (b + 230) ∧ SF m (b + 1) ∧ SF m (b + 17) ∧ SF m (b + 33) ∧ SH m (b + 49) ∧ SC m (b + 195)
theorem SB.k {m : mM} {b : Nat} (s : SB m b) : gK m b = some (.inl 11) := s.1
theorem SB.r0 {m : mM} {b : Nat} (s : SB m b) : gR m 352 b = some (b + 1) := s.2.1
theorem SB.r1 {m : mM} {b : Nat} (s : SB m b) : gR m 353 b = some (b + 17) := s.2.2.1
theorem SB.r2 {m : mM} {b : Nat} (s : SB m b) : gR m 354 b = some (b + 33) := s.2.2.2.1
theorem SB.r3 {m : mM} {b : Nat} (s : SB m b) : gR m 355 b = some (b + 49) := s.2.2.2.2.1
theorem SB.r4 {m : mM} {b : Nat} (s : SB m b) : gR m 356 b = some (b + 195) := s.2.2.2.2.2.1
theorem SB.r5 {m : mM} {b : Nat} (s : SB m b) : gR m 357 b = some (b + 214) := s.2.2.2.2.2.2.1
theorem SB.r6 {m : mM} {b : Nat} (s : SB m b) : gR m 358 b = some (b + 230) := s.2.2.2.2.2.2.2.1
theorem SB.f1 {m : mM} {b : Nat} (s : SB m b) : SF m (b + 1) := s.2.2.2.2.2.2.2.2.1
theorem SB.f2 {m : mM} {b : Nat} (s : SB m b) : SF m (b + 17) := s.2.2.2.2.2.2.2.2.2.1
theorem SB.f3 {m : mM} {b : Nat} (s : SB m b) : SF m (b + 33) := s.2.2.2.2.2.2.2.2.2.2.1
theorem SB.h {m : mM} {b : Nat} (s : SB m b) : SH m (b + 49) := s.2.2.2.2.2.2.2.2.2.2.2.1
theorem SB.c {m : mM} {b : Nat} (s : SB m b) : SC m (b + 195) := s.2.2.2.2.2.2.2.2.2.2.2.2
theorem SB.to {m m1 : mM} {b : Nat} (s : SB m b) (hk : gK m1 = gK m) (hr : ∀ k, k ≠ 295 → ∀ a, gR m1 k a = gR m k a) (hq : gQ m1 = gQ m) : SB m1 b :=
  ⟨by rw [hk]; exact s.1, by rw [hr _ (by decide)]; exact s.r0, by rw [hr _ (by decide)]; exact s.r1, by rw [hr _ (by decide)]; exact s.r2, by rw [hr _ (by decide)]; exact s.r3, by rw [hr _ (by decide)]; exact s.r4, by rw [hr _ (by decide)]; exact s.r5, by rw [hr _ (by decide)]; exact s.r6,
    s.f1.to hk (hr _ (by decide) _) (hr _ (by decide) _) (hr _ (by decide) _) hq, s.f2.to hk (hr _ (by decide) _) (hr _ (by decide) _) (hr _ (by decide) _) hq, s.f3.to hk (hr _ (by decide) _) (hr _ (by decide) _) (hr _ (by decide) _) hq, s.h.to hk hr hq, s.c.to hk hr hq⟩
theorem SF.fr {m m1 : mM} {f lo hi : Nat} (h : SF m f) (F : Fr lo hi m m1) (hd : f + 16 ≤ lo ∨ hi ≤ f) : SF m1 f := by
  unfold SF pa at h ⊢
  rw [F.1, F.gR (a := f) (by omega), F.gR (a := f) (by omega), F.gR (a := f) (by omega), F.gQ (a := f + 2) (by omega), F.gQ (a := f + 3) (by omega)]
  exact h
theorem SH.fr {m m1 : mM} {h lo hi : Nat} (s : SH m h) (F : Fr lo hi m m1) (hd : h + 146 ≤ lo ∨ hi ≤ h) : SH m1 h := by
  refine ⟨by rw [F.1]; exact s.k, by rw [F.gR (by omega)]; exact s.r, by rw [F.1]; exact s.k1, fun i hi => by rw [F.gQ (by omega)]; exact s.q hi, fun i hi => (s.f hi).fr F (by omega)⟩
theorem SC.fr {m m1 : mM} {c lo hi : Nat} (s : SC m c) (F : Fr lo hi m m1) (hd : c + 19 ≤ lo ∨ hi ≤ c) : SC m1 c := by
  refine ⟨by rw [F.1]; exact s.k, by rw [F.gR (by omega)]; exact s.r0, by rw [F.gR (by omega)]; exact s.r1, by rw [F.gR (by omega)]; exact s.r2, by rw [F.1]; exact s.k1, by rw [F.1]; exact s.k2, s.f.fr F (by omega)⟩
theorem SB.f1r {m m1 : mM} {b : Nat} (s : SB m b) (F : Fr (b + 1) (b + 1 + 16) m m1) (h : SF m1 (b + 1)) : SB m1 b := by
  refine ⟨by rw [F.1]; exact s.k, by rw [F.gR (by omega)]; exact s.r0, by rw [F.gR (by omega)]; exact s.r1, by rw [F.gR (by omega)]; exact s.r2, by rw [F.gR (by omega)]; exact s.r3, by rw [F.gR (by omega)]; exact s.r4, by rw [F.gR (by omega)]; exact s.r5, by rw [F.gR (by omega)]; exact s.r6, h, s.f2.fr F (by omega), s.f3.fr F (by omega), s.h.fr F (by omega), s.c.fr F (by omega)⟩
theorem SF_throwAway {g : mG} {m : mM} {f : Nat} {a : Int32} {N : Nat} (hs : SF m f) (hN8 : N ≤ 8) : SF (X3_throwAway_m g m f a N) f := by
  unfold X3_throwAway_m
  split
  · exact hs
  · exact SF_remove hs hN8
theorem SF_join {g : mG} {m : mM} {f : Nat} {a b c d : Int32} {N : Nat} (hs : SF m f) (hN8 : N ≤ 8) : SF (X3_join_m g m f a b c d N) f := by
  unfold X3_join_m
  repeat' split
  all_goals first | with_reducible exact hs | skip
  have s1 := SF_remove (g := g) (a := a) hs hN8
  have n1 := (rem_N (g := g) (a := a) hs hN8).2
  generalize X3_remove_m g m f a (N) = m1 at *
  have s2 := SF_remove (g := g) (a := b) s1 n1
  have n2 := (rem_N (g := g) (a := b) s1 n1).2
  generalize X3_remove_m g m1 f b ((gI m1 163 f).toNatClampNeg) = m2 at *
  have s3 := SF_remove (g := g) (a := c) s2 n2
  have n3 := (rem_N (g := g) (a := c) s2 n2).2
  generalize X3_remove_m g m2 f c ((gI m2 163 f).toNatClampNeg) = m3 at *
  have s4 := SF_remove (g := g) (a := d) s3 n3
  have n4 := (rem_N (g := g) (a := d) s3 n3).2
  generalize X3_remove_m g m3 f d ((gI m3 163 f).toNatClampNeg) = m4 at *
  exact s4.to rfl rfl rfl rfl rfl
theorem pieIn_k {g : mG} {m : mM} {f : Nat} {a : Int32} {N p : Nat} (hs : SF m f) (hN8 : N ≤ 8) (h : X3_pieceIn_r g m f a N = some p) : gK m p = some (.inl 9) := by
  unfold X3_pieceIn_r at h
  by_cases c1 : a < 0
  · rw [if_pos c1] at h; cases h
  · rw [if_neg c1] at h
    by_cases c2 : a < nI N
    · rw [if_pos c2] at h
      cases h
      exact hs.kp (by have := (ix_cl c1 c2 (by omega)).1; omega)
    · rw [if_neg c2] at h; cases h
theorem pieR_k {g : mG} {m : mM} {f : Nat} {a : Int32} {N p : Nat} (hs : SF m f) (hN8 : N ≤ 8) (h : X3_pieceRanked_r g m f a N = some p) : gK m p = some (.inl 9) := by
  have key : ∀ (n j : Nat), j + n = N → X3_pieceRanked_l1 g m f a N n j = some p → ∃ i, i < 8 ∧ p = pa m f i := by
    intro n
    induction n with
    | zero => intro j hj h; rw [X3_pieceRanked_l1] at h; cases h
    | succ n ih =>
      intro j hj h
      rw [X3_pieceRanked_l1] at h
      split at h
      · exact ⟨j, by omega, (Option.some.inj h).symm⟩
      · exact ih (j + 1) (by omega) h
  obtain ⟨i, h1, rfl⟩ := key N 0 (by omega) h
  exact hs.kp h1
def X10_time_r (g : mG) (m : mM) (b : Nat)  : Int32 := gI m 166 (b + 1)

set_option maxHeartbeats 4000000 in
set_option maxRecDepth 100000 in
theorem c_X10_time {l : Launch} {g : mG} (hO : mO l g) (m : mM) (b : Nat)  (hb : SB m b) : mT l g yX10_time (.code yX10_time cX10_time 1 (Option.some FieldType.int)) 1 20 0 0 [.ref b] m (fun r m' => r = some (.int (X10_time_r g m b )) ∧ m' = m) nX := by
  refine mT_of hO (by decide) (Nat.le_of_ble_eq_true rfl) (fun x hX hZ => ?_)
  show mV g x m 0 0 0 [(0, .ref b)] []
  refine v_aload_n (pc := 0) hX dX10_time_0 rfl ?_
  refine v_get (v := .ref (b + 1)) (pc := 1) hX dX10_time_1 hb.k (ci := 11) (r := vwC11) rfl 0 (by decide) wd_306 (fvR hb.r0) ?_
  refine v_getN (v := .int (gI m 166 (b + 1))) (pc := 4) hX dX10_time_4 hb.f1.k (ci := 5) (r := vwC5) rfl 6 (by decide) wd_162 rfl ?_
  exact v_iret (pc := 7) hX hZ dX10_time_7 (by decide) (by decide) ⟨(by rw [X10_time_r]), rfl⟩
def X10_furnace_r (g : mG) (m : mM) (b : Nat)  : Int32 := gI m 192 (b + 1 + 1)

set_option maxHeartbeats 4000000 in
set_option maxRecDepth 100000 in
theorem c_X10_furnace {l : Launch} {g : mG} (hO : mO l g) (m : mM) (b : Nat)  (hb : SB m b) : mT l g yX10_furnace (.code yX10_furnace cX10_furnace 1 (Option.some FieldType.int)) 1 20 0 0 [.ref b] m (fun r m' => r = some (.int (X10_furnace_r g m b )) ∧ m' = m) nX := by
  refine mT_of hO (by decide) (Nat.le_of_ble_eq_true rfl) (fun x hX hZ => ?_)
  show mV g x m 0 0 0 [(0, .ref b)] []
  refine v_aload_n (pc := 0) hX dX10_furnace_0 rfl ?_
  refine v_get (v := .ref (b + 1)) (pc := 1) hX dX10_furnace_1 hb.k (ci := 11) (r := vwC11) rfl 0 (by decide) wd_306 (fvR hb.r0) ?_
  refine v_getN (v := .ref (b + 1 + 1)) (pc := 4) hX dX10_furnace_4 hb.f1.k (ci := 5) (r := vwC5) rfl 0 (by decide) wd_151 (fvR hb.f1.r0) ?_
  refine v_getN (v := .int (gI m 192 (b + 1 + 1))) (pc := 7) hX dX10_furnace_7 hb.f1.k1 (ci := 6) (r := vwC6) rfl 0 (by decide) wd_60 rfl ?_
  exact v_iret (pc := 10) hX hZ dX10_furnace_10 (by decide) (by decide) ⟨(by rw [X10_furnace_r]), rfl⟩
def X10_bellows_r (g : mG) (m : mM) (b : Nat)  : Int32 := gI m 193 (b + 1 + 1)

set_option maxHeartbeats 4000000 in
set_option maxRecDepth 100000 in
theorem c_X10_bellows {l : Launch} {g : mG} (hO : mO l g) (m : mM) (b : Nat)  (hb : SB m b) : mT l g yX10_bellows (.code yX10_bellows cX10_bellows 1 (Option.some FieldType.int)) 1 20 0 0 [.ref b] m (fun r m' => r = some (.int (X10_bellows_r g m b )) ∧ m' = m) nX := by
  refine mT_of hO (by decide) (Nat.le_of_ble_eq_true rfl) (fun x hX hZ => ?_)
  show mV g x m 0 0 0 [(0, .ref b)] []
  refine v_aload_n (pc := 0) hX dX10_bellows_0 rfl ?_
  refine v_get (v := .ref (b + 1)) (pc := 1) hX dX10_bellows_1 hb.k (ci := 11) (r := vwC11) rfl 0 (by decide) wd_306 (fvR hb.r0) ?_
  refine v_getN (v := .ref (b + 1 + 1)) (pc := 4) hX dX10_bellows_4 hb.f1.k (ci := 5) (r := vwC5) rfl 0 (by decide) wd_151 (fvR hb.f1.r0) ?_
  refine v_getN (v := .int (gI m 193 (b + 1 + 1))) (pc := 7) hX dX10_bellows_7 hb.f1.k1 (ci := 6) (r := vwC6) rfl 1 (by decide) wd_63 rfl ?_
  exact v_iret (pc := 10) hX hZ dX10_bellows_10 (by decide) (by decide) ⟨(by rw [X10_bellows_r]), rfl⟩
def X10_coal_r (g : mG) (m : mM) (b : Nat)  : Int32 := gI m 194 (b + 1 + 1)

set_option maxHeartbeats 4000000 in
set_option maxRecDepth 100000 in
theorem c_X10_coal {l : Launch} {g : mG} (hO : mO l g) (m : mM) (b : Nat)  (hb : SB m b) : mT l g yX10_coal (.code yX10_coal cX10_coal 1 (Option.some FieldType.int)) 1 20 0 0 [.ref b] m (fun r m' => r = some (.int (X10_coal_r g m b )) ∧ m' = m) nX := by
  refine mT_of hO (by decide) (Nat.le_of_ble_eq_true rfl) (fun x hX hZ => ?_)
  show mV g x m 0 0 0 [(0, .ref b)] []
  refine v_aload_n (pc := 0) hX dX10_coal_0 rfl ?_
  refine v_get (v := .ref (b + 1)) (pc := 1) hX dX10_coal_1 hb.k (ci := 11) (r := vwC11) rfl 0 (by decide) wd_306 (fvR hb.r0) ?_
  refine v_getN (v := .ref (b + 1 + 1)) (pc := 4) hX dX10_coal_4 hb.f1.k (ci := 5) (r := vwC5) rfl 0 (by decide) wd_151 (fvR hb.f1.r0) ?_
  refine v_getN (v := .int (gI m 194 (b + 1 + 1))) (pc := 7) hX dX10_coal_7 hb.f1.k1 (ci := 6) (r := vwC6) rfl 2 (by decide) wd_66 rfl ?_
  exact v_iret (pc := 10) hX hZ dX10_coal_10 (by decide) (by decide) ⟨(by rw [X10_coal_r]), rfl⟩
def X10_strokeTotal_r (g : mG) (m : mM) (b : Nat)  : Int32 := gI m 167 (b + 1)

set_option maxHeartbeats 4000000 in
set_option maxRecDepth 100000 in
theorem c_X10_strokeTotal {l : Launch} {g : mG} (hO : mO l g) (m : mM) (b : Nat)  (hb : SB m b) : mT l g yX10_strokeTotal (.code yX10_strokeTotal cX10_strokeTotal 1 (Option.some FieldType.int)) 1 20 0 0 [.ref b] m (fun r m' => r = some (.int (X10_strokeTotal_r g m b )) ∧ m' = m) nX := by
  refine mT_of hO (by decide) (Nat.le_of_ble_eq_true rfl) (fun x hX hZ => ?_)
  show mV g x m 0 0 0 [(0, .ref b)] []
  refine v_aload_n (pc := 0) hX dX10_strokeTotal_0 rfl ?_
  refine v_get (v := .ref (b + 1)) (pc := 1) hX dX10_strokeTotal_1 hb.k (ci := 11) (r := vwC11) rfl 0 (by decide) wd_306 (fvR hb.r0) ?_
  refine v_getN (v := .int (gI m 167 (b + 1))) (pc := 4) hX dX10_strokeTotal_4 hb.f1.k (ci := 5) (r := vwC5) rfl 7 (by decide) wd_164 rfl ?_
  exact v_iret (pc := 7) hX hZ dX10_strokeTotal_7 (by decide) (by decide) ⟨(by rw [X10_strokeTotal_r]), rfl⟩
def X10_birdTotal_r (g : mG) (m : mM) (b : Nat)  : Int32 := gI m 168 (b + 1)

set_option maxHeartbeats 4000000 in
set_option maxRecDepth 100000 in
theorem c_X10_birdTotal {l : Launch} {g : mG} (hO : mO l g) (m : mM) (b : Nat)  (hb : SB m b) : mT l g yX10_birdTotal (.code yX10_birdTotal cX10_birdTotal 1 (Option.some FieldType.int)) 1 20 0 0 [.ref b] m (fun r m' => r = some (.int (X10_birdTotal_r g m b )) ∧ m' = m) nX := by
  refine mT_of hO (by decide) (Nat.le_of_ble_eq_true rfl) (fun x hX hZ => ?_)
  show mV g x m 0 0 0 [(0, .ref b)] []
  refine v_aload_n (pc := 0) hX dX10_birdTotal_0 rfl ?_
  refine v_get (v := .ref (b + 1)) (pc := 1) hX dX10_birdTotal_1 hb.k (ci := 11) (r := vwC11) rfl 0 (by decide) wd_306 (fvR hb.r0) ?_
  refine v_getN (v := .int (gI m 168 (b + 1))) (pc := 4) hX dX10_birdTotal_4 hb.f1.k (ci := 5) (r := vwC5) rfl 8 (by decide) wd_166 rfl ?_
  exact v_iret (pc := 7) hX hZ dX10_birdTotal_7 (by decide) (by decide) ⟨(by rw [X10_birdTotal_r]), rfl⟩
def X10_burntTotal_r (g : mG) (m : mM) (b : Nat)  : Int64 := gJ m 195 (b + 1 + 1)

set_option maxHeartbeats 4000000 in
set_option maxRecDepth 100000 in
theorem c_X10_burntTotal {l : Launch} {g : mG} (hO : mO l g) (m : mM) (b : Nat)  (hb : SB m b) : mT l g yX10_burntTotal (.code yX10_burntTotal cX10_burntTotal 1 (Option.some FieldType.long)) 1 20 0 0 [.ref b] m (fun r m' => r = some (.long (X10_burntTotal_r g m b )) ∧ m' = m) nX := by
  refine mT_of hO (by decide) (Nat.le_of_ble_eq_true rfl) (fun x hX hZ => ?_)
  show mV g x m 0 0 0 [(0, .ref b)] []
  refine v_aload_n (pc := 0) hX dX10_burntTotal_0 rfl ?_
  refine v_get (v := .ref (b + 1)) (pc := 1) hX dX10_burntTotal_1 hb.k (ci := 11) (r := vwC11) rfl 0 (by decide) wd_306 (fvR hb.r0) ?_
  refine v_getN (v := .ref (b + 1 + 1)) (pc := 4) hX dX10_burntTotal_4 hb.f1.k (ci := 5) (r := vwC5) rfl 0 (by decide) wd_151 (fvR hb.f1.r0) ?_
  refine v_getN (v := .long (gJ m 195 (b + 1 + 1))) (pc := 7) hX dX10_burntTotal_7 hb.f1.k1 (ci := 6) (r := vwC6) rfl 3 (by decide) wd_69 rfl ?_
  exact v_lret (pc := 10) hX hZ dX10_burntTotal_10 (by decide) (by decide) ⟨(by rw [X10_burntTotal_r]), rfl⟩
def X10_pieceCount_r (g : mG) (m : mM) (b : Nat)  : Int32 := gI m 163 (b + 1)

set_option maxHeartbeats 4000000 in
set_option maxRecDepth 100000 in
theorem c_X10_pieceCount {l : Launch} {g : mG} (hO : mO l g) (m : mM) (b : Nat)  (hb : SB m b) : mT l g yX10_pieceCount (.code yX10_pieceCount cX10_pieceCount 1 (Option.some FieldType.int)) 1 20 0 0 [.ref b] m (fun r m' => r = some (.int (X10_pieceCount_r g m b )) ∧ m' = m) nX := by
  refine mT_of hO (by decide) (Nat.le_of_ble_eq_true rfl) (fun x hX hZ => ?_)
  show mV g x m 0 0 0 [(0, .ref b)] []
  refine v_aload_n (pc := 0) hX dX10_pieceCount_0 rfl ?_
  refine v_get (v := .ref (b + 1)) (pc := 1) hX dX10_pieceCount_1 hb.k (ci := 11) (r := vwC11) rfl 0 (by decide) wd_306 (fvR hb.r0) ?_
  refine v_getN (v := .int (gI m 163 (b + 1))) (pc := 4) hX dX10_pieceCount_4 hb.f1.k (ci := 5) (r := vwC5) rfl 3 (by decide) wd_157 rfl ?_
  exact v_iret (pc := 7) hX hZ dX10_pieceCount_7 (by decide) (by decide) ⟨(by rw [X10_pieceCount_r]), rfl⟩
def X10_hammerCount_r (g : mG) (m : mM) (b : Nat)  : Int32 := gI m 164 (b + 1)

set_option maxHeartbeats 4000000 in
set_option maxRecDepth 100000 in
theorem c_X10_hammerCount {l : Launch} {g : mG} (hO : mO l g) (m : mM) (b : Nat)  (hb : SB m b) : mT l g yX10_hammerCount (.code yX10_hammerCount cX10_hammerCount 1 (Option.some FieldType.int)) 1 20 0 0 [.ref b] m (fun r m' => r = some (.int (X10_hammerCount_r g m b )) ∧ m' = m) nX := by
  refine mT_of hO (by decide) (Nat.le_of_ble_eq_true rfl) (fun x hX hZ => ?_)
  show mV g x m 0 0 0 [(0, .ref b)] []
  refine v_aload_n (pc := 0) hX dX10_hammerCount_0 rfl ?_
  refine v_get (v := .ref (b + 1)) (pc := 1) hX dX10_hammerCount_1 hb.k (ci := 11) (r := vwC11) rfl 0 (by decide) wd_306 (fvR hb.r0) ?_
  refine v_getN (v := .int (gI m 164 (b + 1))) (pc := 4) hX dX10_hammerCount_4 hb.f1.k (ci := 5) (r := vwC5) rfl 4 (by decide) wd_159 rfl ?_
  exact v_iret (pc := 7) hX hZ dX10_hammerCount_7 (by decide) (by decide) ⟨(by rw [X10_hammerCount_r]), rfl⟩
def X10_settle_r (g : mG) (m : mM) (b : Nat) (a : Int32)  : Int32 := if a = (-5) then 0 else (if a = (-4) then 0 else (if a = (-3) then 0 else (if a = (-2) then 0 else (if a = (-1) then 0 else a))))
def X10_settle_m (g : mG) (m : mM) (b : Nat) (a : Int32)  : mM := if a = (-5) then m else (if a = (-4) then m else (if a = (-3) then m else (if a = (-2) then m else (if a = (-1) then m else ((X6_commit_m g m (b + 49) ))))))
def X10_settle_x (g : mG) (m : mM) (b : Nat) (a : Int32)  : Option String := if a = (-5) then (some "java/lang/UnsupportedOperationException") else (if a = (-4) then (some "java/lang/IllegalStateException") else (if a = (-3) then (some "java/lang/IllegalArgumentException") else (if a = (-2) then (some "java/lang/IndexOutOfBoundsException") else (if a = (-1) then (some "java/util/NoSuchElementException") else none))))
theorem kK_X10_settle (g : mG) (m : mM) (b : Nat) (a : Int32)  : gK (X10_settle_m g m b a ) = gK m := by
  unfold X10_settle_m
  repeat' split
  all_goals simp only [mm, kK_X6_commit]
theorem kN_X10_settle (g : mG) (m : mM) (b : Nat) (a : Int32)  : gN (X10_settle_m g m b a ) = gN m := by
  unfold X10_settle_m
  repeat' split
  all_goals simp only [mm, kN_X6_commit]
theorem kI_X10_settle (g : mG) (m : mM) (b : Nat) (a : Int32)  (k a9 : Nat) (h0 : k ≠ 257) (h1 : k ≠ 258) : gI (X10_settle_m g m b a ) k a9 = gI m k a9 := by
  unfold X10_settle_m
  repeat' split
  all_goals simp [mm, kI_X6_commit, h0, h1]
theorem kJ_X10_settle (g : mG) (m : mM) (b : Nat) (a : Int32)  : gJ (X10_settle_m g m b a ) = gJ m := by
  unfold X10_settle_m
  repeat' split
  all_goals simp only [mm, kJ_X6_commit]
theorem kR_X10_settle (g : mG) (m : mM) (b : Nat) (a : Int32)  : gR (X10_settle_m g m b a ) = gR m := by
  unfold X10_settle_m
  repeat' split
  all_goals simp only [mm, kR_X6_commit]
theorem kA_X10_settle (g : mG) (m : mM) (b : Nat) (a : Int32)  : gA (X10_settle_m g m b a ) = gA m := by
  unfold X10_settle_m
  repeat' split
  all_goals simp only [mm, kA_X6_commit]
theorem kQ_X10_settle (g : mG) (m : mM) (b : Nat) (a : Int32)  : gQ (X10_settle_m g m b a ) = gQ m := by
  unfold X10_settle_m
  repeat' split
  all_goals simp only [mm, kQ_X6_commit]
theorem kL_X10_settle (g : mG) (m : mM) (b : Nat) (a : Int32)  : gL (X10_settle_m g m b a ) = gL m := by
  unfold X10_settle_m
  repeat' split
  all_goals simp only [mm, kL_X6_commit]
theorem kD_X10_settle (g : mG) (m : mM) (b : Nat) (a : Int32)  : gD (X10_settle_m g m b a ) = gD m := by
  unfold X10_settle_m
  repeat' split
  all_goals simp only [mm, kD_X6_commit]
set_option maxHeartbeats 4000000 in
set_option maxRecDepth 100000 in
theorem c_X10_settle {l : Launch} {g : mG} (hO : mO l g) (m : mM) (b : Nat) (a : Int32)  (hb : SB m b) : mT l g yX10_settle (.code yX10_settle cX10_settle 2 (Option.some FieldType.int)) 6 90 1 6 [.ref b, .int a] m (fun r m' => X10_settle_x g m b a  = none ∧ r = some (.int (X10_settle_r g m b a )) ∧ m' = X10_settle_m g m b a ) (fun E9 m9 => X10_settle_x g m b a  = some E9 ∧ ∃ n9, gN (X10_settle_m g m b a ) ≤ n9 ∧ m9 = sN (X10_settle_m g m b a ) n9) := by
  refine mT_of hO (by decide) (Nat.le_of_ble_eq_true rfl) (fun x hX hZ => ?_)
  show mV g x m 0 0 0 [(0, .ref b), (1, .int a)] []
  refine v_iload_n (pc := 0) hX dX10_settle_0 rfl ?_
  by_cases c1 : a = (-5)
  ·
    refine v_tsI (off := 75) (tgt := 76) (pc := 1) hX dX10_settle_1 (by rw [c1]; decide) (by rw [c1]; decide) (by rw [c1]; rfl) (by decide) ?_
    exact v_throw (E := "java/lang/UnsupportedOperationException") (text := "the piece has no temperature for this") (names := exN) (ix := 7) (rx := ex_Unsupp_c) (wd := 2) (pc := 76) hX hZ dX10_settle_76 dX10_settle_79 (.inl ⟨rfl, dX10_settle_80⟩) dX10_settle_82 dX10_settle_85 ex_Unsupp_0 ex_Unsupp_1 ex_Unsupp_2 ex_Unsupp_5 ex_Unsupp_f exN_f wd_916 wd_24 (ex_Unsupp wd_926) wd_925 (Nat.le_of_ble_eq_true rfl) ⟨by decide, by decide⟩ ⟨by decide, by decide⟩ (by decide) (by decide) (fun n9 hn9 => ⟨by rw [X10_settle_x, if_pos c1], n9, (by rw [X10_settle_m, if_pos c1]; exact hn9), (by rw [X10_settle_m, if_pos c1])⟩)
  ·
    by_cases c2 : a = (-4)
    ·
      refine v_tsI (off := 65) (tgt := 66) (pc := 1) hX dX10_settle_1 (by rw [c2]; decide) (by rw [c2]; decide) (by rw [c2]; rfl) (by decide) ?_
      exact v_throw (E := "java/lang/IllegalStateException") (text := "the forge, piece or hammer is not in a state for this") (names := exN) (ix := 7) (rx := ex_IllState_c) (wd := 2) (pc := 66) hX hZ dX10_settle_66 dX10_settle_69 (.inl ⟨rfl, dX10_settle_70⟩) dX10_settle_72 dX10_settle_75 ex_IllState_0 ex_IllState_1 ex_IllState_2 ex_IllState_5 ex_IllState_f exN_f wd_900 wd_23 (ex_IllState wd_910) wd_909 (Nat.le_of_ble_eq_true rfl) ⟨by decide, by decide⟩ ⟨by decide, by decide⟩ (by decide) (by decide) (fun n9 hn9 => ⟨by rw [X10_settle_x, if_neg c1, if_pos c2], n9, (by rw [X10_settle_m, if_neg c1, if_pos c2]; exact hn9), (by rw [X10_settle_m, if_neg c1, if_pos c2])⟩)
    ·
      by_cases c3 : a = (-3)
      ·
        refine v_tsI (off := 55) (tgt := 56) (pc := 1) hX dX10_settle_1 (by rw [c3]; decide) (by rw [c3]; decide) (by rw [c3]; rfl) (by decide) ?_
        exact v_throw (E := "java/lang/IllegalArgumentException") (text := "an argument is not allowed") (names := exN) (ix := 7) (rx := ex_IllArg_c) (wd := 2) (pc := 56) hX hZ dX10_settle_56 dX10_settle_59 (.inl ⟨rfl, dX10_settle_60⟩) dX10_settle_62 dX10_settle_65 ex_IllArg_0 ex_IllArg_1 ex_IllArg_2 ex_IllArg_5 ex_IllArg_f exN_f wd_897 wd_22 (ex_IllArg wd_899) wd_898 (Nat.le_of_ble_eq_true rfl) ⟨by decide, by decide⟩ ⟨by decide, by decide⟩ (by decide) (by decide) (fun n9 hn9 => ⟨by rw [X10_settle_x, if_neg c1, if_neg c2, if_pos c3], n9, (by rw [X10_settle_m, if_neg c1, if_neg c2, if_pos c3]; exact hn9), (by rw [X10_settle_m, if_neg c1, if_neg c2, if_pos c3])⟩)
      ·
        by_cases c4 : a = (-2)
        ·
          refine v_tsI (off := 45) (tgt := 46) (pc := 1) hX dX10_settle_1 (by rw [c4]; decide) (by rw [c4]; decide) (by rw [c4]; rfl) (by decide) ?_
          exact v_throw (E := "java/lang/IndexOutOfBoundsException") (text := "there is no such hammer") (names := exN) (ix := 7) (rx := ex_IndexOut_c) (wd := 2) (pc := 46) hX hZ dX10_settle_46 dX10_settle_49 (.inl ⟨rfl, dX10_settle_50⟩) dX10_settle_52 dX10_settle_55 ex_IndexOut_0 ex_IndexOut_1 ex_IndexOut_2 ex_IndexOut_5 ex_IndexOut_f exN_f wd_884 wd_21 (ex_IndexOut wd_894) wd_893 (Nat.le_of_ble_eq_true rfl) ⟨by decide, by decide⟩ ⟨by decide, by decide⟩ (by decide) (by decide) (fun n9 hn9 => ⟨by rw [X10_settle_x, if_neg c1, if_neg c2, if_neg c3, if_pos c4], n9, (by rw [X10_settle_m, if_neg c1, if_neg c2, if_neg c3, if_pos c4]; exact hn9), (by rw [X10_settle_m, if_neg c1, if_neg c2, if_neg c3, if_pos c4])⟩)
        ·
          by_cases c5 : a = (-1)
          ·
            refine v_tsI (off := 35) (tgt := 36) (pc := 1) hX dX10_settle_1 (by rw [c5]; decide) (by rw [c5]; decide) (by rw [c5]; rfl) (by decide) ?_
            exact v_throw (E := "java/util/NoSuchElementException") (text := "there is no such piece") (names := exN) (ix := 13) (rx := ex_NoSuch_c) (wd := 2) (pc := 36) hX hZ dX10_settle_36 dX10_settle_39 (.inl ⟨rfl, dX10_settle_40⟩) dX10_settle_42 dX10_settle_45 ex_NoSuch_0 ex_NoSuch_1 ex_NoSuch_2 ex_NoSuch_5 ex_NoSuch_f exN_f wd_868 wd_20 (ex_NoSuch wd_878) wd_877 (Nat.le_of_ble_eq_true rfl) ⟨by decide, by decide⟩ ⟨by decide, by decide⟩ (by decide) (by decide) (fun n9 hn9 => ⟨by rw [X10_settle_x, if_neg c1, if_neg c2, if_neg c3, if_neg c4, if_pos c5], n9, (by rw [X10_settle_m, if_neg c1, if_neg c2, if_neg c3, if_neg c4, if_pos c5]; exact hn9), (by rw [X10_settle_m, if_neg c1, if_neg c2, if_neg c3, if_neg c4, if_pos c5])⟩)
          ·
            refine v_tsO (tgt := 86) (pc := 1) hX dX10_settle_1 (by have e0 := ts_ne c1 (show ((-5) : Int32).toInt = (-5) by decide); have e1 := ts_ne c2 (show ((-4) : Int32).toInt = (-4) by decide); have e2 := ts_ne c3 (show ((-3) : Int32).toInt = (-3) by decide); have e3 := ts_ne c4 (show ((-2) : Int32).toInt = (-2) by decide); have e4 := ts_ne c5 (show ((-1) : Int32).toInt = (-1) by decide); omega) (by decide) ?_
            refine v_aload_n (pc := 86) hX dX10_settle_86 rfl ?_
            refine v_get (v := .ref (b + 49)) (pc := 87) hX dX10_settle_87 hb.k (ci := 11) (r := vwC11) rfl 3 (by decide) wd_309 (fvR hb.r3) ?_
            refine v_callV (z := yX6_commit) (pc := 90) hX dX10_settle_90 (c_X6_commit hO m (b + 49)  hb.h) hb.h.k rfl wd_932 wd_933 wd_934 wd_8 wd_935 ⟨by decide, by decide, (by decide +kernel : (parseMethodDescriptor yX6_commit.desc).map (fun d => d.parameters.length) = some 0)⟩ rfl (Nat.le_of_ble_eq_true rfl) ⟨⟨by decide, by decide⟩, by decide, by decide⟩ (fun E m9 h9 => h9.elim) (fun r9 m9 h9 => ?_)
            obtain ⟨rfl, h8⟩ := h9
            replace h8 := h8.symm
            subst h8
            show mV g x _ _ _ _ _ []
            refine v_iload_n (pc := 93) hX dX10_settle_93 rfl ?_
            exact v_iret (pc := 94) hX hZ dX10_settle_94 (by decide) (by decide) ⟨(by rw [X10_settle_x, if_neg c1, if_neg c2, if_neg c3, if_neg c4, if_neg c5]), (by rw [X10_settle_r, if_neg c1, if_neg c2, if_neg c3, if_neg c4, if_neg c5]), (by rw [X10_settle_m, if_neg c1, if_neg c2, if_neg c3, if_neg c4, if_neg c5])⟩
def X10_addCoal_r (g : mG) (m : mM) (b : Nat) (a : Int32) (nx : Nat) : Int32 := (match X10_settle_x g ((X3_storeCoal_m g ((X6_prepare_m g m (b + 49) (b + 1) nx)) (b + 1) a )) b (X3_storeCoal_r g ((X6_prepare_m g m (b + 49) (b + 1) nx)) (b + 1) a )  with | some _ => 0 | none => X10_settle_r g ((X3_storeCoal_m g ((X6_prepare_m g m (b + 49) (b + 1) nx)) (b + 1) a )) b (X3_storeCoal_r g ((X6_prepare_m g m (b + 49) (b + 1) nx)) (b + 1) a ) )
def X10_addCoal_m (g : mG) (m : mM) (b : Nat) (a : Int32) (nx : Nat) : mM := (match X10_settle_x g ((X3_storeCoal_m g ((X6_prepare_m g m (b + 49) (b + 1) nx)) (b + 1) a )) b (X3_storeCoal_r g ((X6_prepare_m g m (b + 49) (b + 1) nx)) (b + 1) a )  with | some _ => (X10_settle_m g ((X3_storeCoal_m g ((X6_prepare_m g m (b + 49) (b + 1) nx)) (b + 1) a )) b (X3_storeCoal_r g ((X6_prepare_m g m (b + 49) (b + 1) nx)) (b + 1) a ) ) | none => (X10_settle_m g ((X3_storeCoal_m g ((X6_prepare_m g m (b + 49) (b + 1) nx)) (b + 1) a )) b (X3_storeCoal_r g ((X6_prepare_m g m (b + 49) (b + 1) nx)) (b + 1) a ) ))
def X10_addCoal_x (g : mG) (m : mM) (b : Nat) (a : Int32) (nx : Nat) : Option String := (match X10_settle_x g ((X3_storeCoal_m g ((X6_prepare_m g m (b + 49) (b + 1) nx)) (b + 1) a )) b (X3_storeCoal_r g ((X6_prepare_m g m (b + 49) (b + 1) nx)) (b + 1) a )  with | some e9 => some e9 | none => none)
theorem kK_X10_addCoal (g : mG) (m : mM) (b : Nat) (a : Int32) (nx : Nat) : gK (X10_addCoal_m g m b a nx) = gK m := by
  unfold X10_addCoal_m
  repeat' split
  all_goals simp only [mm, kK_X10_settle, kK_X3_storeCoal, kK_X6_prepare]
theorem kN_X10_addCoal (g : mG) (m : mM) (b : Nat) (a : Int32) (nx : Nat) : gN (X10_addCoal_m g m b a nx) = gN m := by
  unfold X10_addCoal_m
  repeat' split
  all_goals simp only [mm, kN_X10_settle, kN_X3_storeCoal, kN_X6_prepare]
theorem kI_X10_addCoal (g : mG) (m : mM) (b : Nat) (a : Int32) (nx : Nat) (k a9 : Nat) (h0 : k ≠ 163) (h1 : k ≠ 164) (h2 : k ≠ 165) (h3 : k ≠ 166) (h4 : k ≠ 167) (h5 : k ≠ 168) (h6 : k ≠ 169) (h7 : k ≠ 170) (h8 : k ≠ 192) (h9 : k ≠ 193) (h10 : k ≠ 194) (h11 : k ≠ 224) (h12 : k ≠ 225) (h13 : k ≠ 257) (h14 : k ≠ 258) (h15 : k ≠ 288) (h16 : k ≠ 289) (h17 : k ≠ 290) (h18 : k ≠ 291) (h19 : k ≠ 292) (h20 : k ≠ 293) (h21 : k ≠ 294) : gI (X10_addCoal_m g m b a nx) k a9 = gI m k a9 := by
  unfold X10_addCoal_m
  repeat' split
  all_goals simp [mm, kI_X10_settle, kI_X3_storeCoal, kI_X6_prepare, h0, h1, h2, h3, h4, h5, h6, h7, h8, h9, h10, h11, h12, h13, h14, h15, h16, h17, h18, h19, h20, h21]
theorem kJ_X10_addCoal (g : mG) (m : mM) (b : Nat) (a : Int32) (nx : Nat) (k a9 : Nat) (h0 : k ≠ 171) (h1 : k ≠ 195) : gJ (X10_addCoal_m g m b a nx) k a9 = gJ m k a9 := by
  unfold X10_addCoal_m
  repeat' split
  all_goals simp [mm, kJ_X10_settle, kJ_X3_storeCoal, kJ_X6_prepare, h0, h1]
theorem kR_X10_addCoal (g : mG) (m : mM) (b : Nat) (a : Int32) (nx : Nat) (k a9 : Nat) (h0 : k ≠ 295) : gR (X10_addCoal_m g m b a nx) k a9 = gR m k a9 := by
  unfold X10_addCoal_m
  repeat' split
  all_goals simp [mm, kR_X10_settle, kR_X3_storeCoal, kR_X6_prepare, h0]
theorem kA_X10_addCoal (g : mG) (m : mM) (b : Nat) (a : Int32) (nx : Nat) : gA (X10_addCoal_m g m b a nx) = gA m := by
  unfold X10_addCoal_m
  repeat' split
  all_goals simp only [mm, kA_X10_settle, kA_X3_storeCoal, kA_X6_prepare]
theorem kQ_X10_addCoal (g : mG) (m : mM) (b : Nat) (a : Int32) (nx : Nat) : gQ (X10_addCoal_m g m b a nx) = gQ m := by
  unfold X10_addCoal_m
  repeat' split
  all_goals simp only [mm, kQ_X10_settle, kQ_X3_storeCoal, kQ_X6_prepare]
theorem kL_X10_addCoal (g : mG) (m : mM) (b : Nat) (a : Int32) (nx : Nat) : gL (X10_addCoal_m g m b a nx) = gL m := by
  unfold X10_addCoal_m
  repeat' split
  all_goals simp only [mm, kL_X10_settle, kL_X3_storeCoal, kL_X6_prepare]
theorem kD_X10_addCoal (g : mG) (m : mM) (b : Nat) (a : Int32) (nx : Nat) : gD (X10_addCoal_m g m b a nx) = gD m := by
  unfold X10_addCoal_m
  repeat' split
  all_goals simp only [mm, kD_X10_settle, kD_X3_storeCoal, kD_X6_prepare]
set_option maxHeartbeats 4000000 in
set_option maxRecDepth 100000 in
theorem c_X10_addCoal {l : Launch} {g : mG} (hO : mO l g) (m : mM) (b : Nat) (a : Int32) (nx : Nat) (hb : SB m b) (hn : gI m 257 (b + 49) = nI nx) (hn9 : nx < 9) : mT l g yX10_addCoal (.code yX10_addCoal cX10_addCoal 2 (Option.some FieldType.int)) 7 111 1 6 [.ref b, .int a] m (fun r m' => X10_addCoal_x g m b a nx = none ∧ r = some (.int (X10_addCoal_r g m b a nx)) ∧ m' = X10_addCoal_m g m b a nx) (fun E9 m9 => X10_addCoal_x g m b a nx = some E9 ∧ ∃ n9, gN (X10_addCoal_m g m b a nx) ≤ n9 ∧ m9 = sN (X10_addCoal_m g m b a nx) n9) := by
  refine mT_of hO (by decide) (Nat.le_of_ble_eq_true rfl) (fun x hX hZ => ?_)
  show mV g x m 0 0 0 [(0, .ref b), (1, .int a)] []
  refine v_aload_n (pc := 0) hX dX10_addCoal_0 rfl ?_
  refine v_get (v := .ref (b + 49)) (pc := 1) hX dX10_addCoal_1 hb.k (ci := 11) (r := vwC11) rfl 3 (by decide) wd_309 (fvR hb.r3) ?_
  refine v_aload_n (pc := 4) hX dX10_addCoal_4 rfl ?_
  refine v_get (v := .ref (b + 1)) (pc := 5) hX dX10_addCoal_5 hb.k (ci := 11) (r := vwC11) rfl 0 (by decide) wd_306 (fvR hb.r0) ?_
  refine v_callV (z := yX6_prepare) (pc := 8) hX dX10_addCoal_8 (c_X6_prepare hO m (b + 49) (b + 1) nx hb.h hn hn9 hb.f1) hb.h.k rfl wd_855 wd_856 wd_857 wd_8 wd_858 ⟨by decide, by decide, (by decide +kernel : (parseMethodDescriptor yX6_prepare.desc).map (fun d => d.parameters.length) = some 1)⟩ rfl (Nat.le_of_ble_eq_true rfl) ⟨⟨by decide, by decide⟩, by decide, by decide⟩ (fun E m9 h9 => h9.elim) (fun r9 m9 h9 => ?_)
  obtain ⟨rfl, h8⟩ := h9
  replace h8 := h8.symm
  subst h8
  show mV g x _ _ _ _ _ []
  refine v_aload_n (pc := 11) hX dX10_addCoal_11 rfl ?_
  refine v_aload_n (pc := 12) hX dX10_addCoal_12 rfl ?_
  refine v_get (v := .ref (b + 1)) (pc := 13) hX dX10_addCoal_13 (by simp only [mm, kK_X6_prepare]; exact hb.k) (ci := 11) (r := vwC11) rfl 0 (by decide) wd_306 (fvR (by simp [mm, kR_X6_prepare, hb.r0])) ?_
  refine v_iload_n (pc := 16) hX dX10_addCoal_16 rfl ?_
  refine v_callV (z := yX3_storeCoal) (pc := 17) hX dX10_addCoal_17 (c_X3_storeCoal hO ((X6_prepare_m g m (b + 49) (b + 1) nx)) (b + 1) a  (hb.f1.to (by simp only [mm, kK_X6_prepare]) (by simp [mm, kR_X6_prepare]) (by simp [mm, kR_X6_prepare]) (by simp [mm, kR_X6_prepare]) (by simp only [mm, kQ_X6_prepare]))) (by simp only [mm, kK_X6_prepare]; exact hb.f1.k) rfl wd_860 wd_861 wd_862 wd_2 wd_863 ⟨by decide, by decide, (by decide +kernel : (parseMethodDescriptor yX3_storeCoal.desc).map (fun d => d.parameters.length) = some 1)⟩ rfl (Nat.le_of_ble_eq_true rfl) ⟨⟨by decide, by decide⟩, by decide, by decide⟩ (fun E m9 h9 => h9.elim) (fun r9 m9 h9 => ?_)
  obtain ⟨rfl, h8⟩ := h9
  replace h8 := h8.symm
  subst h8
  show mV g x _ _ _ _ _ [.int (X3_storeCoal_r g ((X6_prepare_m g m (b + 49) (b + 1) nx)) (b + 1) a ), .ref b]
  refine v_callV (z := yX10_settle) (pc := 20) hX dX10_addCoal_20 (c_X10_settle hO ((X3_storeCoal_m g ((X6_prepare_m g m (b + 49) (b + 1) nx)) (b + 1) a )) b (X3_storeCoal_r g ((X6_prepare_m g m (b + 49) (b + 1) nx)) (b + 1) a )  (hb.to (by simp only [mm, kK_X3_storeCoal, kK_X6_prepare]) (fun k hk a => by simp [mm, kR_X3_storeCoal, kR_X6_prepare, hk]) (by simp only [mm, kQ_X3_storeCoal, kQ_X6_prepare]))) (by simp only [mm, kK_X3_storeCoal, kK_X6_prepare]; exact hb.k) rfl wd_864 wd_866 wp_2 wd_1 wd_867 ⟨by decide, by decide, (by decide +kernel : (parseMethodDescriptor yX10_settle.desc).map (fun d => d.parameters.length) = some 1)⟩ rfl (Nat.le_of_ble_eq_true rfl) ⟨⟨by decide, by decide⟩, by decide, by decide⟩ (fun E9 m9 h9 => by obtain ⟨hx9, n9, hn9, rfl⟩ := h9; exact v_out hX hZ (by decide) (by decide) ⟨by simp only [X10_addCoal_x, hx9], n9, (by simp only [X10_addCoal_m, hx9]; exact hn9), (by simp only [X10_addCoal_m, hx9])⟩) (fun r9 m9 h9 => ?_)
  obtain ⟨hx1, rfl, h8⟩ := h9
  replace h8 := h8.symm
  subst h8
  show mV g x _ _ _ _ _ [.int (X10_settle_r g ((X3_storeCoal_m g ((X6_prepare_m g m (b + 49) (b + 1) nx)) (b + 1) a )) b (X3_storeCoal_r g ((X6_prepare_m g m (b + 49) (b + 1) nx)) (b + 1) a ) )]
  exact v_iret (pc := 23) hX hZ dX10_addCoal_23 (by decide) (by decide) ⟨(by simp only [X10_addCoal_x, hx1]), (by simp only [X10_addCoal_r, hx1]), (by simp only [X10_addCoal_m, hx1])⟩
def X10_setBellows_r (g : mG) (m : mM) (b : Nat) (a : Int32) (nx : Nat) : Int32 := (match X10_settle_x g ((X3_changeLevel_m g ((X6_prepare_m g m (b + 49) (b + 1) nx)) (b + 1) a )) b (X3_changeLevel_r g ((X6_prepare_m g m (b + 49) (b + 1) nx)) (b + 1) a )  with | some _ => 0 | none => X10_settle_r g ((X3_changeLevel_m g ((X6_prepare_m g m (b + 49) (b + 1) nx)) (b + 1) a )) b (X3_changeLevel_r g ((X6_prepare_m g m (b + 49) (b + 1) nx)) (b + 1) a ) )
def X10_setBellows_m (g : mG) (m : mM) (b : Nat) (a : Int32) (nx : Nat) : mM := (match X10_settle_x g ((X3_changeLevel_m g ((X6_prepare_m g m (b + 49) (b + 1) nx)) (b + 1) a )) b (X3_changeLevel_r g ((X6_prepare_m g m (b + 49) (b + 1) nx)) (b + 1) a )  with | some _ => (X10_settle_m g ((X3_changeLevel_m g ((X6_prepare_m g m (b + 49) (b + 1) nx)) (b + 1) a )) b (X3_changeLevel_r g ((X6_prepare_m g m (b + 49) (b + 1) nx)) (b + 1) a ) ) | none => (X10_settle_m g ((X3_changeLevel_m g ((X6_prepare_m g m (b + 49) (b + 1) nx)) (b + 1) a )) b (X3_changeLevel_r g ((X6_prepare_m g m (b + 49) (b + 1) nx)) (b + 1) a ) ))
def X10_setBellows_x (g : mG) (m : mM) (b : Nat) (a : Int32) (nx : Nat) : Option String := (match X10_settle_x g ((X3_changeLevel_m g ((X6_prepare_m g m (b + 49) (b + 1) nx)) (b + 1) a )) b (X3_changeLevel_r g ((X6_prepare_m g m (b + 49) (b + 1) nx)) (b + 1) a )  with | some e9 => some e9 | none => none)
theorem kK_X10_setBellows (g : mG) (m : mM) (b : Nat) (a : Int32) (nx : Nat) : gK (X10_setBellows_m g m b a nx) = gK m := by
  unfold X10_setBellows_m
  repeat' split
  all_goals simp only [mm, kK_X10_settle, kK_X3_changeLevel, kK_X6_prepare]
theorem kN_X10_setBellows (g : mG) (m : mM) (b : Nat) (a : Int32) (nx : Nat) : gN (X10_setBellows_m g m b a nx) = gN m := by
  unfold X10_setBellows_m
  repeat' split
  all_goals simp only [mm, kN_X10_settle, kN_X3_changeLevel, kN_X6_prepare]
theorem kI_X10_setBellows (g : mG) (m : mM) (b : Nat) (a : Int32) (nx : Nat) (k a9 : Nat) (h0 : k ≠ 163) (h1 : k ≠ 164) (h2 : k ≠ 165) (h3 : k ≠ 166) (h4 : k ≠ 167) (h5 : k ≠ 168) (h6 : k ≠ 169) (h7 : k ≠ 170) (h8 : k ≠ 192) (h9 : k ≠ 193) (h10 : k ≠ 194) (h11 : k ≠ 224) (h12 : k ≠ 225) (h13 : k ≠ 257) (h14 : k ≠ 258) (h15 : k ≠ 288) (h16 : k ≠ 289) (h17 : k ≠ 290) (h18 : k ≠ 291) (h19 : k ≠ 292) (h20 : k ≠ 293) (h21 : k ≠ 294) : gI (X10_setBellows_m g m b a nx) k a9 = gI m k a9 := by
  unfold X10_setBellows_m
  repeat' split
  all_goals simp [mm, kI_X10_settle, kI_X3_changeLevel, kI_X6_prepare, h0, h1, h2, h3, h4, h5, h6, h7, h8, h9, h10, h11, h12, h13, h14, h15, h16, h17, h18, h19, h20, h21]
theorem kJ_X10_setBellows (g : mG) (m : mM) (b : Nat) (a : Int32) (nx : Nat) (k a9 : Nat) (h0 : k ≠ 171) (h1 : k ≠ 195) : gJ (X10_setBellows_m g m b a nx) k a9 = gJ m k a9 := by
  unfold X10_setBellows_m
  repeat' split
  all_goals simp [mm, kJ_X10_settle, kJ_X3_changeLevel, kJ_X6_prepare, h0, h1]
theorem kR_X10_setBellows (g : mG) (m : mM) (b : Nat) (a : Int32) (nx : Nat) (k a9 : Nat) (h0 : k ≠ 295) : gR (X10_setBellows_m g m b a nx) k a9 = gR m k a9 := by
  unfold X10_setBellows_m
  repeat' split
  all_goals simp [mm, kR_X10_settle, kR_X3_changeLevel, kR_X6_prepare, h0]
theorem kA_X10_setBellows (g : mG) (m : mM) (b : Nat) (a : Int32) (nx : Nat) : gA (X10_setBellows_m g m b a nx) = gA m := by
  unfold X10_setBellows_m
  repeat' split
  all_goals simp only [mm, kA_X10_settle, kA_X3_changeLevel, kA_X6_prepare]
theorem kQ_X10_setBellows (g : mG) (m : mM) (b : Nat) (a : Int32) (nx : Nat) : gQ (X10_setBellows_m g m b a nx) = gQ m := by
  unfold X10_setBellows_m
  repeat' split
  all_goals simp only [mm, kQ_X10_settle, kQ_X3_changeLevel, kQ_X6_prepare]
theorem kL_X10_setBellows (g : mG) (m : mM) (b : Nat) (a : Int32) (nx : Nat) : gL (X10_setBellows_m g m b a nx) = gL m := by
  unfold X10_setBellows_m
  repeat' split
  all_goals simp only [mm, kL_X10_settle, kL_X3_changeLevel, kL_X6_prepare]
theorem kD_X10_setBellows (g : mG) (m : mM) (b : Nat) (a : Int32) (nx : Nat) : gD (X10_setBellows_m g m b a nx) = gD m := by
  unfold X10_setBellows_m
  repeat' split
  all_goals simp only [mm, kD_X10_settle, kD_X3_changeLevel, kD_X6_prepare]
set_option maxHeartbeats 4000000 in
set_option maxRecDepth 100000 in
theorem c_X10_setBellows {l : Launch} {g : mG} (hO : mO l g) (m : mM) (b : Nat) (a : Int32) (nx : Nat) (hb : SB m b) (hn : gI m 257 (b + 49) = nI nx) (hn9 : nx < 9) : mT l g yX10_setBellows (.code yX10_setBellows cX10_setBellows 2 (Option.some FieldType.int)) 7 111 1 6 [.ref b, .int a] m (fun r m' => X10_setBellows_x g m b a nx = none ∧ r = some (.int (X10_setBellows_r g m b a nx)) ∧ m' = X10_setBellows_m g m b a nx) (fun E9 m9 => X10_setBellows_x g m b a nx = some E9 ∧ ∃ n9, gN (X10_setBellows_m g m b a nx) ≤ n9 ∧ m9 = sN (X10_setBellows_m g m b a nx) n9) := by
  refine mT_of hO (by decide) (Nat.le_of_ble_eq_true rfl) (fun x hX hZ => ?_)
  show mV g x m 0 0 0 [(0, .ref b), (1, .int a)] []
  refine v_aload_n (pc := 0) hX dX10_setBellows_0 rfl ?_
  refine v_get (v := .ref (b + 49)) (pc := 1) hX dX10_setBellows_1 hb.k (ci := 11) (r := vwC11) rfl 3 (by decide) wd_309 (fvR hb.r3) ?_
  refine v_aload_n (pc := 4) hX dX10_setBellows_4 rfl ?_
  refine v_get (v := .ref (b + 1)) (pc := 5) hX dX10_setBellows_5 hb.k (ci := 11) (r := vwC11) rfl 0 (by decide) wd_306 (fvR hb.r0) ?_
  refine v_callV (z := yX6_prepare) (pc := 8) hX dX10_setBellows_8 (c_X6_prepare hO m (b + 49) (b + 1) nx hb.h hn hn9 hb.f1) hb.h.k rfl wd_855 wd_856 wd_857 wd_8 wd_858 ⟨by decide, by decide, (by decide +kernel : (parseMethodDescriptor yX6_prepare.desc).map (fun d => d.parameters.length) = some 1)⟩ rfl (Nat.le_of_ble_eq_true rfl) ⟨⟨by decide, by decide⟩, by decide, by decide⟩ (fun E m9 h9 => h9.elim) (fun r9 m9 h9 => ?_)
  obtain ⟨rfl, h8⟩ := h9
  replace h8 := h8.symm
  subst h8
  show mV g x _ _ _ _ _ []
  refine v_aload_n (pc := 11) hX dX10_setBellows_11 rfl ?_
  refine v_aload_n (pc := 12) hX dX10_setBellows_12 rfl ?_
  refine v_get (v := .ref (b + 1)) (pc := 13) hX dX10_setBellows_13 (by simp only [mm, kK_X6_prepare]; exact hb.k) (ci := 11) (r := vwC11) rfl 0 (by decide) wd_306 (fvR (by simp [mm, kR_X6_prepare, hb.r0])) ?_
  refine v_iload_n (pc := 16) hX dX10_setBellows_16 rfl ?_
  refine v_callV (z := yX3_changeLevel) (pc := 17) hX dX10_setBellows_17 (c_X3_changeLevel hO ((X6_prepare_m g m (b + 49) (b + 1) nx)) (b + 1) a  (hb.f1.to (by simp only [mm, kK_X6_prepare]) (by simp [mm, kR_X6_prepare]) (by simp [mm, kR_X6_prepare]) (by simp [mm, kR_X6_prepare]) (by simp only [mm, kQ_X6_prepare]))) (by simp only [mm, kK_X6_prepare]; exact hb.f1.k) rfl wd_944 wd_945 wd_946 wd_2 wd_947 ⟨by decide, by decide, (by decide +kernel : (parseMethodDescriptor yX3_changeLevel.desc).map (fun d => d.parameters.length) = some 1)⟩ rfl (Nat.le_of_ble_eq_true rfl) ⟨⟨by decide, by decide⟩, by decide, by decide⟩ (fun E m9 h9 => h9.elim) (fun r9 m9 h9 => ?_)
  obtain ⟨rfl, h8⟩ := h9
  replace h8 := h8.symm
  subst h8
  show mV g x _ _ _ _ _ [.int (X3_changeLevel_r g ((X6_prepare_m g m (b + 49) (b + 1) nx)) (b + 1) a ), .ref b]
  refine v_callV (z := yX10_settle) (pc := 20) hX dX10_setBellows_20 (c_X10_settle hO ((X3_changeLevel_m g ((X6_prepare_m g m (b + 49) (b + 1) nx)) (b + 1) a )) b (X3_changeLevel_r g ((X6_prepare_m g m (b + 49) (b + 1) nx)) (b + 1) a )  (hb.to (by simp only [mm, kK_X3_changeLevel, kK_X6_prepare]) (fun k hk a => by simp [mm, kR_X3_changeLevel, kR_X6_prepare, hk]) (by simp only [mm, kQ_X3_changeLevel, kQ_X6_prepare]))) (by simp only [mm, kK_X3_changeLevel, kK_X6_prepare]; exact hb.k) rfl wd_864 wd_866 wp_2 wd_1 wd_867 ⟨by decide, by decide, (by decide +kernel : (parseMethodDescriptor yX10_settle.desc).map (fun d => d.parameters.length) = some 1)⟩ rfl (Nat.le_of_ble_eq_true rfl) ⟨⟨by decide, by decide⟩, by decide, by decide⟩ (fun E9 m9 h9 => by obtain ⟨hx9, n9, hn9, rfl⟩ := h9; exact v_out hX hZ (by decide) (by decide) ⟨by simp only [X10_setBellows_x, hx9], n9, (by simp only [X10_setBellows_m, hx9]; exact hn9), (by simp only [X10_setBellows_m, hx9])⟩) (fun r9 m9 h9 => ?_)
  obtain ⟨hx1, rfl, h8⟩ := h9
  replace h8 := h8.symm
  subst h8
  show mV g x _ _ _ _ _ [.int (X10_settle_r g ((X3_changeLevel_m g ((X6_prepare_m g m (b + 49) (b + 1) nx)) (b + 1) a )) b (X3_changeLevel_r g ((X6_prepare_m g m (b + 49) (b + 1) nx)) (b + 1) a ) )]
  exact v_iret (pc := 23) hX hZ dX10_setBellows_23 (by decide) (by decide) ⟨(by simp only [X10_setBellows_x, hx1]), (by simp only [X10_setBellows_r, hx1]), (by simp only [X10_setBellows_m, hx1])⟩
def X10_advance_r (g : mG) (m : mM) (b : Nat) (a : Int32) (N : Nat) (nx : Nat) : Int32 := (match X10_settle_x g ((X3_passMinutes_m g ((X6_prepare_m g m (b + 49) (b + 1) nx)) (b + 1) a N)) b (X3_passMinutes_r g ((X6_prepare_m g m (b + 49) (b + 1) nx)) (b + 1) a N)  with | some _ => 0 | none => X10_settle_r g ((X3_passMinutes_m g ((X6_prepare_m g m (b + 49) (b + 1) nx)) (b + 1) a N)) b (X3_passMinutes_r g ((X6_prepare_m g m (b + 49) (b + 1) nx)) (b + 1) a N) )
def X10_advance_m (g : mG) (m : mM) (b : Nat) (a : Int32) (N : Nat) (nx : Nat) : mM := (match X10_settle_x g ((X3_passMinutes_m g ((X6_prepare_m g m (b + 49) (b + 1) nx)) (b + 1) a N)) b (X3_passMinutes_r g ((X6_prepare_m g m (b + 49) (b + 1) nx)) (b + 1) a N)  with | some _ => (X10_settle_m g ((X3_passMinutes_m g ((X6_prepare_m g m (b + 49) (b + 1) nx)) (b + 1) a N)) b (X3_passMinutes_r g ((X6_prepare_m g m (b + 49) (b + 1) nx)) (b + 1) a N) ) | none => (X10_settle_m g ((X3_passMinutes_m g ((X6_prepare_m g m (b + 49) (b + 1) nx)) (b + 1) a N)) b (X3_passMinutes_r g ((X6_prepare_m g m (b + 49) (b + 1) nx)) (b + 1) a N) ))
def X10_advance_x (g : mG) (m : mM) (b : Nat) (a : Int32) (N : Nat) (nx : Nat) : Option String := (match X10_settle_x g ((X3_passMinutes_m g ((X6_prepare_m g m (b + 49) (b + 1) nx)) (b + 1) a N)) b (X3_passMinutes_r g ((X6_prepare_m g m (b + 49) (b + 1) nx)) (b + 1) a N)  with | some e9 => some e9 | none => none)
theorem kK_X10_advance (g : mG) (m : mM) (b : Nat) (a : Int32) (N : Nat) (nx : Nat) : gK (X10_advance_m g m b a N nx) = gK m := by
  unfold X10_advance_m
  repeat' split
  all_goals simp only [mm, kK_X10_settle, kK_X3_passMinutes, kK_X6_prepare]
theorem kN_X10_advance (g : mG) (m : mM) (b : Nat) (a : Int32) (N : Nat) (nx : Nat) : gN (X10_advance_m g m b a N nx) = gN m := by
  unfold X10_advance_m
  repeat' split
  all_goals simp only [mm, kN_X10_settle, kN_X3_passMinutes, kN_X6_prepare]
theorem kI_X10_advance (g : mG) (m : mM) (b : Nat) (a : Int32) (N : Nat) (nx : Nat) (k a9 : Nat) (h0 : k ≠ 163) (h1 : k ≠ 164) (h2 : k ≠ 165) (h3 : k ≠ 166) (h4 : k ≠ 167) (h5 : k ≠ 168) (h6 : k ≠ 169) (h7 : k ≠ 170) (h8 : k ≠ 192) (h9 : k ≠ 193) (h10 : k ≠ 194) (h11 : k ≠ 224) (h12 : k ≠ 225) (h13 : k ≠ 257) (h14 : k ≠ 258) (h15 : k ≠ 288) (h16 : k ≠ 289) (h17 : k ≠ 290) (h18 : k ≠ 291) (h19 : k ≠ 292) (h20 : k ≠ 293) (h21 : k ≠ 294) : gI (X10_advance_m g m b a N nx) k a9 = gI m k a9 := by
  unfold X10_advance_m
  repeat' split
  all_goals simp [mm, kI_X10_settle, kI_X3_passMinutes, kI_X6_prepare, h0, h1, h2, h3, h4, h5, h6, h7, h8, h9, h10, h11, h12, h13, h14, h15, h16, h17, h18, h19, h20, h21]
theorem kJ_X10_advance (g : mG) (m : mM) (b : Nat) (a : Int32) (N : Nat) (nx : Nat) (k a9 : Nat) (h0 : k ≠ 171) (h1 : k ≠ 195) : gJ (X10_advance_m g m b a N nx) k a9 = gJ m k a9 := by
  unfold X10_advance_m
  repeat' split
  all_goals simp [mm, kJ_X10_settle, kJ_X3_passMinutes, kJ_X6_prepare, h0, h1]
theorem kR_X10_advance (g : mG) (m : mM) (b : Nat) (a : Int32) (N : Nat) (nx : Nat) (k a9 : Nat) (h0 : k ≠ 295) : gR (X10_advance_m g m b a N nx) k a9 = gR m k a9 := by
  unfold X10_advance_m
  repeat' split
  all_goals simp [mm, kR_X10_settle, kR_X3_passMinutes, kR_X6_prepare, h0]
theorem kA_X10_advance (g : mG) (m : mM) (b : Nat) (a : Int32) (N : Nat) (nx : Nat) : gA (X10_advance_m g m b a N nx) = gA m := by
  unfold X10_advance_m
  repeat' split
  all_goals simp only [mm, kA_X10_settle, kA_X3_passMinutes, kA_X6_prepare]
theorem kQ_X10_advance (g : mG) (m : mM) (b : Nat) (a : Int32) (N : Nat) (nx : Nat) : gQ (X10_advance_m g m b a N nx) = gQ m := by
  unfold X10_advance_m
  repeat' split
  all_goals simp only [mm, kQ_X10_settle, kQ_X3_passMinutes, kQ_X6_prepare]
theorem kL_X10_advance (g : mG) (m : mM) (b : Nat) (a : Int32) (N : Nat) (nx : Nat) : gL (X10_advance_m g m b a N nx) = gL m := by
  unfold X10_advance_m
  repeat' split
  all_goals simp only [mm, kL_X10_settle, kL_X3_passMinutes, kL_X6_prepare]
theorem kD_X10_advance (g : mG) (m : mM) (b : Nat) (a : Int32) (N : Nat) (nx : Nat) : gD (X10_advance_m g m b a N nx) = gD m := by
  unfold X10_advance_m
  repeat' split
  all_goals simp only [mm, kD_X10_settle, kD_X3_passMinutes, kD_X6_prepare]
set_option maxHeartbeats 4000000 in
set_option maxRecDepth 100000 in
theorem c_X10_advance {l : Launch} {g : mG} (hO : mO l g) (m : mM) (b : Nat) (a : Int32) (N : Nat) (nx : Nat) (hb : SB m b) (hN : gI m 163 (b + 1) = nI N) (hN8 : N ≤ 8) (hn : gI m 257 (b + 49) = nI nx) (hn9 : nx < 9) : mT l g yX10_advance (.code yX10_advance cX10_advance 2 (Option.some FieldType.int)) 7 111 1 6 [.ref b, .int a] m (fun r m' => X10_advance_x g m b a N nx = none ∧ r = some (.int (X10_advance_r g m b a N nx)) ∧ m' = X10_advance_m g m b a N nx) (fun E9 m9 => X10_advance_x g m b a N nx = some E9 ∧ ∃ n9, gN (X10_advance_m g m b a N nx) ≤ n9 ∧ m9 = sN (X10_advance_m g m b a N nx) n9) := by
  refine mT_of hO (by decide) (Nat.le_of_ble_eq_true rfl) (fun x hX hZ => ?_)
  show mV g x m 0 0 0 [(0, .ref b), (1, .int a)] []
  refine v_aload_n (pc := 0) hX dX10_advance_0 rfl ?_
  refine v_get (v := .ref (b + 49)) (pc := 1) hX dX10_advance_1 hb.k (ci := 11) (r := vwC11) rfl 3 (by decide) wd_309 (fvR hb.r3) ?_
  refine v_aload_n (pc := 4) hX dX10_advance_4 rfl ?_
  refine v_get (v := .ref (b + 1)) (pc := 5) hX dX10_advance_5 hb.k (ci := 11) (r := vwC11) rfl 0 (by decide) wd_306 (fvR hb.r0) ?_
  refine v_callV (z := yX6_prepare) (pc := 8) hX dX10_advance_8 (c_X6_prepare hO m (b + 49) (b + 1) nx hb.h hn hn9 hb.f1) hb.h.k rfl wd_855 wd_856 wd_857 wd_8 wd_858 ⟨by decide, by decide, (by decide +kernel : (parseMethodDescriptor yX6_prepare.desc).map (fun d => d.parameters.length) = some 1)⟩ rfl (Nat.le_of_ble_eq_true rfl) ⟨⟨by decide, by decide⟩, by decide, by decide⟩ (fun E m9 h9 => h9.elim) (fun r9 m9 h9 => ?_)
  obtain ⟨rfl, h8⟩ := h9
  replace h8 := h8.symm
  subst h8
  show mV g x _ _ _ _ _ []
  refine v_aload_n (pc := 11) hX dX10_advance_11 rfl ?_
  refine v_aload_n (pc := 12) hX dX10_advance_12 rfl ?_
  refine v_get (v := .ref (b + 1)) (pc := 13) hX dX10_advance_13 (by simp only [mm, kK_X6_prepare]; exact hb.k) (ci := 11) (r := vwC11) rfl 0 (by decide) wd_306 (fvR (by simp [mm, kR_X6_prepare, hb.r0])) ?_
  refine v_iload_n (pc := 16) hX dX10_advance_16 rfl ?_
  refine v_callV (z := yX3_passMinutes) (pc := 17) hX dX10_advance_17 (c_X3_passMinutes hO ((X6_prepare_m g m (b + 49) (b + 1) nx)) (b + 1) a N (hb.f1.to (by simp only [mm, kK_X6_prepare]) (by simp [mm, kR_X6_prepare]) (by simp [mm, kR_X6_prepare]) (by simp [mm, kR_X6_prepare]) (by simp only [mm, kQ_X6_prepare])) (((show Fr (b + 49) (b + 195) m ((X6_prepare_m g m (b + 49) (b + 1) nx)) from ((Fr.rf).tr (fr_X6_prepare g m (b + 49) (b + 1) nx hb.h hn9 hb.f1) (by omega) (by omega))).gI (k := 163) (a := (b + 1)) (by omega)).trans hN) hN8) (by simp only [mm, kK_X6_prepare]; exact hb.f1.k) rfl wd_955 wd_956 wd_957 wd_2 wd_958 ⟨by decide, by decide, (by decide +kernel : (parseMethodDescriptor yX3_passMinutes.desc).map (fun d => d.parameters.length) = some 1)⟩ rfl (Nat.le_of_ble_eq_true rfl) ⟨⟨by decide, by decide⟩, by decide, by decide⟩ (fun E m9 h9 => h9.elim) (fun r9 m9 h9 => ?_)
  obtain ⟨rfl, h8⟩ := h9
  replace h8 := h8.symm
  subst h8
  show mV g x _ _ _ _ _ [.int (X3_passMinutes_r g ((X6_prepare_m g m (b + 49) (b + 1) nx)) (b + 1) a N), .ref b]
  refine v_callV (z := yX10_settle) (pc := 20) hX dX10_advance_20 (c_X10_settle hO ((X3_passMinutes_m g ((X6_prepare_m g m (b + 49) (b + 1) nx)) (b + 1) a N)) b (X3_passMinutes_r g ((X6_prepare_m g m (b + 49) (b + 1) nx)) (b + 1) a N)  (hb.to (by simp only [mm, kK_X3_passMinutes, kK_X6_prepare]) (fun k hk a => by simp [mm, kR_X3_passMinutes, kR_X6_prepare, hk]) (by simp only [mm, kQ_X3_passMinutes, kQ_X6_prepare]))) (by simp only [mm, kK_X3_passMinutes, kK_X6_prepare]; exact hb.k) rfl wd_864 wd_866 wp_2 wd_1 wd_867 ⟨by decide, by decide, (by decide +kernel : (parseMethodDescriptor yX10_settle.desc).map (fun d => d.parameters.length) = some 1)⟩ rfl (Nat.le_of_ble_eq_true rfl) ⟨⟨by decide, by decide⟩, by decide, by decide⟩ (fun E9 m9 h9 => by obtain ⟨hx9, n9, hn9, rfl⟩ := h9; exact v_out hX hZ (by decide) (by decide) ⟨by simp only [X10_advance_x, hx9], n9, (by simp only [X10_advance_m, hx9]; exact hn9), (by simp only [X10_advance_m, hx9])⟩) (fun r9 m9 h9 => ?_)
  obtain ⟨hx1, rfl, h8⟩ := h9
  replace h8 := h8.symm
  subst h8
  show mV g x _ _ _ _ _ [.int (X10_settle_r g ((X3_passMinutes_m g ((X6_prepare_m g m (b + 49) (b + 1) nx)) (b + 1) a N)) b (X3_passMinutes_r g ((X6_prepare_m g m (b + 49) (b + 1) nx)) (b + 1) a N) )]
  exact v_iret (pc := 23) hX hZ dX10_advance_23 (by decide) (by decide) ⟨(by simp only [X10_advance_x, hx1]), (by simp only [X10_advance_r, hx1]), (by simp only [X10_advance_m, hx1])⟩
def X10_addPiece_r (g : mG) (m : mM) (b : Nat) (a : Int32) (N : Nat) (nx : Nat) : Int32 := (match X10_settle_x g ((X3_newPiece_m g ((X6_prepare_m g m (b + 49) (b + 1) nx)) (b + 1) a N)) b (X3_newPiece_r g ((X6_prepare_m g m (b + 49) (b + 1) nx)) (b + 1) a N)  with | some _ => 0 | none => X10_settle_r g ((X3_newPiece_m g ((X6_prepare_m g m (b + 49) (b + 1) nx)) (b + 1) a N)) b (X3_newPiece_r g ((X6_prepare_m g m (b + 49) (b + 1) nx)) (b + 1) a N) )
def X10_addPiece_m (g : mG) (m : mM) (b : Nat) (a : Int32) (N : Nat) (nx : Nat) : mM := (match X10_settle_x g ((X3_newPiece_m g ((X6_prepare_m g m (b + 49) (b + 1) nx)) (b + 1) a N)) b (X3_newPiece_r g ((X6_prepare_m g m (b + 49) (b + 1) nx)) (b + 1) a N)  with | some _ => (X10_settle_m g ((X3_newPiece_m g ((X6_prepare_m g m (b + 49) (b + 1) nx)) (b + 1) a N)) b (X3_newPiece_r g ((X6_prepare_m g m (b + 49) (b + 1) nx)) (b + 1) a N) ) | none => (X10_settle_m g ((X3_newPiece_m g ((X6_prepare_m g m (b + 49) (b + 1) nx)) (b + 1) a N)) b (X3_newPiece_r g ((X6_prepare_m g m (b + 49) (b + 1) nx)) (b + 1) a N) ))
def X10_addPiece_x (g : mG) (m : mM) (b : Nat) (a : Int32) (N : Nat) (nx : Nat) : Option String := (match X10_settle_x g ((X3_newPiece_m g ((X6_prepare_m g m (b + 49) (b + 1) nx)) (b + 1) a N)) b (X3_newPiece_r g ((X6_prepare_m g m (b + 49) (b + 1) nx)) (b + 1) a N)  with | some e9 => some e9 | none => none)
theorem kK_X10_addPiece (g : mG) (m : mM) (b : Nat) (a : Int32) (N : Nat) (nx : Nat) : gK (X10_addPiece_m g m b a N nx) = gK m := by
  unfold X10_addPiece_m
  repeat' split
  all_goals simp only [mm, kK_X10_settle, kK_X3_newPiece, kK_X6_prepare]
theorem kN_X10_addPiece (g : mG) (m : mM) (b : Nat) (a : Int32) (N : Nat) (nx : Nat) : gN (X10_addPiece_m g m b a N nx) = gN m := by
  unfold X10_addPiece_m
  repeat' split
  all_goals simp only [mm, kN_X10_settle, kN_X3_newPiece, kN_X6_prepare]
theorem kI_X10_addPiece (g : mG) (m : mM) (b : Nat) (a : Int32) (N : Nat) (nx : Nat) (k a9 : Nat) (h0 : k ≠ 163) (h1 : k ≠ 164) (h2 : k ≠ 165) (h3 : k ≠ 166) (h4 : k ≠ 167) (h5 : k ≠ 168) (h6 : k ≠ 169) (h7 : k ≠ 170) (h8 : k ≠ 192) (h9 : k ≠ 193) (h10 : k ≠ 194) (h11 : k ≠ 224) (h12 : k ≠ 225) (h13 : k ≠ 257) (h14 : k ≠ 258) (h15 : k ≠ 288) (h16 : k ≠ 289) (h17 : k ≠ 290) (h18 : k ≠ 291) (h19 : k ≠ 292) (h20 : k ≠ 293) (h21 : k ≠ 294) : gI (X10_addPiece_m g m b a N nx) k a9 = gI m k a9 := by
  unfold X10_addPiece_m
  repeat' split
  all_goals simp [mm, kI_X10_settle, kI_X3_newPiece, kI_X6_prepare, h0, h1, h2, h3, h4, h5, h6, h7, h8, h9, h10, h11, h12, h13, h14, h15, h16, h17, h18, h19, h20, h21]
theorem kJ_X10_addPiece (g : mG) (m : mM) (b : Nat) (a : Int32) (N : Nat) (nx : Nat) (k a9 : Nat) (h0 : k ≠ 171) (h1 : k ≠ 195) : gJ (X10_addPiece_m g m b a N nx) k a9 = gJ m k a9 := by
  unfold X10_addPiece_m
  repeat' split
  all_goals simp [mm, kJ_X10_settle, kJ_X3_newPiece, kJ_X6_prepare, h0, h1]
theorem kR_X10_addPiece (g : mG) (m : mM) (b : Nat) (a : Int32) (N : Nat) (nx : Nat) (k a9 : Nat) (h0 : k ≠ 295) : gR (X10_addPiece_m g m b a N nx) k a9 = gR m k a9 := by
  unfold X10_addPiece_m
  repeat' split
  all_goals simp [mm, kR_X10_settle, kR_X3_newPiece, kR_X6_prepare, h0]
theorem kA_X10_addPiece (g : mG) (m : mM) (b : Nat) (a : Int32) (N : Nat) (nx : Nat) : gA (X10_addPiece_m g m b a N nx) = gA m := by
  unfold X10_addPiece_m
  repeat' split
  all_goals simp only [mm, kA_X10_settle, kA_X3_newPiece, kA_X6_prepare]
theorem kQ_X10_addPiece (g : mG) (m : mM) (b : Nat) (a : Int32) (N : Nat) (nx : Nat) : gQ (X10_addPiece_m g m b a N nx) = gQ m := by
  unfold X10_addPiece_m
  repeat' split
  all_goals simp only [mm, kQ_X10_settle, kQ_X3_newPiece, kQ_X6_prepare]
theorem kL_X10_addPiece (g : mG) (m : mM) (b : Nat) (a : Int32) (N : Nat) (nx : Nat) : gL (X10_addPiece_m g m b a N nx) = gL m := by
  unfold X10_addPiece_m
  repeat' split
  all_goals simp only [mm, kL_X10_settle, kL_X3_newPiece, kL_X6_prepare]
theorem kD_X10_addPiece (g : mG) (m : mM) (b : Nat) (a : Int32) (N : Nat) (nx : Nat) : gD (X10_addPiece_m g m b a N nx) = gD m := by
  unfold X10_addPiece_m
  repeat' split
  all_goals simp only [mm, kD_X10_settle, kD_X3_newPiece, kD_X6_prepare]
set_option maxHeartbeats 4000000 in
set_option maxRecDepth 100000 in
theorem c_X10_addPiece {l : Launch} {g : mG} (hO : mO l g) (m : mM) (b : Nat) (a : Int32) (N : Nat) (nx : Nat) (hb : SB m b) (hN : gI m 163 (b + 1) = nI N) (hN8 : N ≤ 8) (hn : gI m 257 (b + 49) = nI nx) (hn9 : nx < 9) : mT l g yX10_addPiece (.code yX10_addPiece cX10_addPiece 2 (Option.some FieldType.int)) 7 111 1 6 [.ref b, .int a] m (fun r m' => X10_addPiece_x g m b a N nx = none ∧ r = some (.int (X10_addPiece_r g m b a N nx)) ∧ m' = X10_addPiece_m g m b a N nx) (fun E9 m9 => X10_addPiece_x g m b a N nx = some E9 ∧ ∃ n9, gN (X10_addPiece_m g m b a N nx) ≤ n9 ∧ m9 = sN (X10_addPiece_m g m b a N nx) n9) := by
  refine mT_of hO (by decide) (Nat.le_of_ble_eq_true rfl) (fun x hX hZ => ?_)
  show mV g x m 0 0 0 [(0, .ref b), (1, .int a)] []
  refine v_aload_n (pc := 0) hX dX10_addPiece_0 rfl ?_
  refine v_get (v := .ref (b + 49)) (pc := 1) hX dX10_addPiece_1 hb.k (ci := 11) (r := vwC11) rfl 3 (by decide) wd_309 (fvR hb.r3) ?_
  refine v_aload_n (pc := 4) hX dX10_addPiece_4 rfl ?_
  refine v_get (v := .ref (b + 1)) (pc := 5) hX dX10_addPiece_5 hb.k (ci := 11) (r := vwC11) rfl 0 (by decide) wd_306 (fvR hb.r0) ?_
  refine v_callV (z := yX6_prepare) (pc := 8) hX dX10_addPiece_8 (c_X6_prepare hO m (b + 49) (b + 1) nx hb.h hn hn9 hb.f1) hb.h.k rfl wd_855 wd_856 wd_857 wd_8 wd_858 ⟨by decide, by decide, (by decide +kernel : (parseMethodDescriptor yX6_prepare.desc).map (fun d => d.parameters.length) = some 1)⟩ rfl (Nat.le_of_ble_eq_true rfl) ⟨⟨by decide, by decide⟩, by decide, by decide⟩ (fun E m9 h9 => h9.elim) (fun r9 m9 h9 => ?_)
  obtain ⟨rfl, h8⟩ := h9
  replace h8 := h8.symm
  subst h8
  show mV g x _ _ _ _ _ []
  refine v_aload_n (pc := 11) hX dX10_addPiece_11 rfl ?_
  refine v_aload_n (pc := 12) hX dX10_addPiece_12 rfl ?_
  refine v_get (v := .ref (b + 1)) (pc := 13) hX dX10_addPiece_13 (by simp only [mm, kK_X6_prepare]; exact hb.k) (ci := 11) (r := vwC11) rfl 0 (by decide) wd_306 (fvR (by simp [mm, kR_X6_prepare, hb.r0])) ?_
  refine v_iload_n (pc := 16) hX dX10_addPiece_16 rfl ?_
  refine v_callV (z := yX3_newPiece) (pc := 17) hX dX10_addPiece_17 (c_X3_newPiece hO ((X6_prepare_m g m (b + 49) (b + 1) nx)) (b + 1) a N (hb.f1.to (by simp only [mm, kK_X6_prepare]) (by simp [mm, kR_X6_prepare]) (by simp [mm, kR_X6_prepare]) (by simp [mm, kR_X6_prepare]) (by simp only [mm, kQ_X6_prepare])) (((show Fr (b + 49) (b + 195) m ((X6_prepare_m g m (b + 49) (b + 1) nx)) from ((Fr.rf).tr (fr_X6_prepare g m (b + 49) (b + 1) nx hb.h hn9 hb.f1) (by omega) (by omega))).gI (k := 163) (a := (b + 1)) (by omega)).trans hN) hN8) (by simp only [mm, kK_X6_prepare]; exact hb.f1.k) rfl wd_967 wd_968 wd_969 wd_2 wd_970 ⟨by decide, by decide, (by decide +kernel : (parseMethodDescriptor yX3_newPiece.desc).map (fun d => d.parameters.length) = some 1)⟩ rfl (Nat.le_of_ble_eq_true rfl) ⟨⟨by decide, by decide⟩, by decide, by decide⟩ (fun E m9 h9 => h9.elim) (fun r9 m9 h9 => ?_)
  obtain ⟨rfl, h8⟩ := h9
  replace h8 := h8.symm
  subst h8
  show mV g x _ _ _ _ _ [.int (X3_newPiece_r g ((X6_prepare_m g m (b + 49) (b + 1) nx)) (b + 1) a N), .ref b]
  refine v_callV (z := yX10_settle) (pc := 20) hX dX10_addPiece_20 (c_X10_settle hO ((X3_newPiece_m g ((X6_prepare_m g m (b + 49) (b + 1) nx)) (b + 1) a N)) b (X3_newPiece_r g ((X6_prepare_m g m (b + 49) (b + 1) nx)) (b + 1) a N)  (hb.to (by simp only [mm, kK_X3_newPiece, kK_X6_prepare]) (fun k hk a => by simp [mm, kR_X3_newPiece, kR_X6_prepare, hk]) (by simp only [mm, kQ_X3_newPiece, kQ_X6_prepare]))) (by simp only [mm, kK_X3_newPiece, kK_X6_prepare]; exact hb.k) rfl wd_864 wd_866 wp_2 wd_1 wd_867 ⟨by decide, by decide, (by decide +kernel : (parseMethodDescriptor yX10_settle.desc).map (fun d => d.parameters.length) = some 1)⟩ rfl (Nat.le_of_ble_eq_true rfl) ⟨⟨by decide, by decide⟩, by decide, by decide⟩ (fun E9 m9 h9 => by obtain ⟨hx9, n9, hn9, rfl⟩ := h9; exact v_out hX hZ (by decide) (by decide) ⟨by simp only [X10_addPiece_x, hx9], n9, (by simp only [X10_addPiece_m, hx9]; exact hn9), (by simp only [X10_addPiece_m, hx9])⟩) (fun r9 m9 h9 => ?_)
  obtain ⟨hx1, rfl, h8⟩ := h9
  replace h8 := h8.symm
  subst h8
  show mV g x _ _ _ _ _ [.int (X10_settle_r g ((X3_newPiece_m g ((X6_prepare_m g m (b + 49) (b + 1) nx)) (b + 1) a N)) b (X3_newPiece_r g ((X6_prepare_m g m (b + 49) (b + 1) nx)) (b + 1) a N) )]
  exact v_iret (pc := 23) hX hZ dX10_addPiece_23 (by decide) (by decide) ⟨(by simp only [X10_addPiece_x, hx1]), (by simp only [X10_addPiece_r, hx1]), (by simp only [X10_addPiece_m, hx1])⟩
def X10_putIn_r (g : mG) (m : mM) (b : Nat) (a : Int32) (N : Nat) (nx : Nat) : Int32 := (match X10_settle_x g ((X3_intoFurnace_m g ((X6_prepare_m g m (b + 49) (b + 1) nx)) (b + 1) a N)) b (X3_intoFurnace_r g ((X6_prepare_m g m (b + 49) (b + 1) nx)) (b + 1) a N)  with | some _ => 0 | none => X10_settle_r g ((X3_intoFurnace_m g ((X6_prepare_m g m (b + 49) (b + 1) nx)) (b + 1) a N)) b (X3_intoFurnace_r g ((X6_prepare_m g m (b + 49) (b + 1) nx)) (b + 1) a N) )
def X10_putIn_m (g : mG) (m : mM) (b : Nat) (a : Int32) (N : Nat) (nx : Nat) : mM := (match X10_settle_x g ((X3_intoFurnace_m g ((X6_prepare_m g m (b + 49) (b + 1) nx)) (b + 1) a N)) b (X3_intoFurnace_r g ((X6_prepare_m g m (b + 49) (b + 1) nx)) (b + 1) a N)  with | some _ => (X10_settle_m g ((X3_intoFurnace_m g ((X6_prepare_m g m (b + 49) (b + 1) nx)) (b + 1) a N)) b (X3_intoFurnace_r g ((X6_prepare_m g m (b + 49) (b + 1) nx)) (b + 1) a N) ) | none => (X10_settle_m g ((X3_intoFurnace_m g ((X6_prepare_m g m (b + 49) (b + 1) nx)) (b + 1) a N)) b (X3_intoFurnace_r g ((X6_prepare_m g m (b + 49) (b + 1) nx)) (b + 1) a N) ))
def X10_putIn_x (g : mG) (m : mM) (b : Nat) (a : Int32) (N : Nat) (nx : Nat) : Option String := (match X10_settle_x g ((X3_intoFurnace_m g ((X6_prepare_m g m (b + 49) (b + 1) nx)) (b + 1) a N)) b (X3_intoFurnace_r g ((X6_prepare_m g m (b + 49) (b + 1) nx)) (b + 1) a N)  with | some e9 => some e9 | none => none)
theorem kK_X10_putIn (g : mG) (m : mM) (b : Nat) (a : Int32) (N : Nat) (nx : Nat) : gK (X10_putIn_m g m b a N nx) = gK m := by
  unfold X10_putIn_m
  repeat' split
  all_goals simp only [mm, kK_X10_settle, kK_X3_intoFurnace, kK_X6_prepare]
theorem kN_X10_putIn (g : mG) (m : mM) (b : Nat) (a : Int32) (N : Nat) (nx : Nat) : gN (X10_putIn_m g m b a N nx) = gN m := by
  unfold X10_putIn_m
  repeat' split
  all_goals simp only [mm, kN_X10_settle, kN_X3_intoFurnace, kN_X6_prepare]
theorem kI_X10_putIn (g : mG) (m : mM) (b : Nat) (a : Int32) (N : Nat) (nx : Nat) (k a9 : Nat) (h0 : k ≠ 163) (h1 : k ≠ 164) (h2 : k ≠ 165) (h3 : k ≠ 166) (h4 : k ≠ 167) (h5 : k ≠ 168) (h6 : k ≠ 169) (h7 : k ≠ 170) (h8 : k ≠ 192) (h9 : k ≠ 193) (h10 : k ≠ 194) (h11 : k ≠ 224) (h12 : k ≠ 225) (h13 : k ≠ 257) (h14 : k ≠ 258) (h15 : k ≠ 288) (h16 : k ≠ 289) (h17 : k ≠ 290) (h18 : k ≠ 291) (h19 : k ≠ 292) (h20 : k ≠ 293) (h21 : k ≠ 294) : gI (X10_putIn_m g m b a N nx) k a9 = gI m k a9 := by
  unfold X10_putIn_m
  repeat' split
  all_goals simp [mm, kI_X10_settle, kI_X3_intoFurnace, kI_X6_prepare, h0, h1, h2, h3, h4, h5, h6, h7, h8, h9, h10, h11, h12, h13, h14, h15, h16, h17, h18, h19, h20, h21]
theorem kJ_X10_putIn (g : mG) (m : mM) (b : Nat) (a : Int32) (N : Nat) (nx : Nat) (k a9 : Nat) (h0 : k ≠ 171) (h1 : k ≠ 195) : gJ (X10_putIn_m g m b a N nx) k a9 = gJ m k a9 := by
  unfold X10_putIn_m
  repeat' split
  all_goals simp [mm, kJ_X10_settle, kJ_X3_intoFurnace, kJ_X6_prepare, h0, h1]
theorem kR_X10_putIn (g : mG) (m : mM) (b : Nat) (a : Int32) (N : Nat) (nx : Nat) (k a9 : Nat) (h0 : k ≠ 295) : gR (X10_putIn_m g m b a N nx) k a9 = gR m k a9 := by
  unfold X10_putIn_m
  repeat' split
  all_goals simp [mm, kR_X10_settle, kR_X3_intoFurnace, kR_X6_prepare, h0]
theorem kA_X10_putIn (g : mG) (m : mM) (b : Nat) (a : Int32) (N : Nat) (nx : Nat) : gA (X10_putIn_m g m b a N nx) = gA m := by
  unfold X10_putIn_m
  repeat' split
  all_goals simp only [mm, kA_X10_settle, kA_X3_intoFurnace, kA_X6_prepare]
theorem kQ_X10_putIn (g : mG) (m : mM) (b : Nat) (a : Int32) (N : Nat) (nx : Nat) : gQ (X10_putIn_m g m b a N nx) = gQ m := by
  unfold X10_putIn_m
  repeat' split
  all_goals simp only [mm, kQ_X10_settle, kQ_X3_intoFurnace, kQ_X6_prepare]
theorem kL_X10_putIn (g : mG) (m : mM) (b : Nat) (a : Int32) (N : Nat) (nx : Nat) : gL (X10_putIn_m g m b a N nx) = gL m := by
  unfold X10_putIn_m
  repeat' split
  all_goals simp only [mm, kL_X10_settle, kL_X3_intoFurnace, kL_X6_prepare]
theorem kD_X10_putIn (g : mG) (m : mM) (b : Nat) (a : Int32) (N : Nat) (nx : Nat) : gD (X10_putIn_m g m b a N nx) = gD m := by
  unfold X10_putIn_m
  repeat' split
  all_goals simp only [mm, kD_X10_settle, kD_X3_intoFurnace, kD_X6_prepare]
set_option maxHeartbeats 4000000 in
set_option maxRecDepth 100000 in
theorem c_X10_putIn {l : Launch} {g : mG} (hO : mO l g) (m : mM) (b : Nat) (a : Int32) (N : Nat) (nx : Nat) (hb : SB m b) (hN : gI m 163 (b + 1) = nI N) (hN8 : N ≤ 8) (hn : gI m 257 (b + 49) = nI nx) (hn9 : nx < 9) : mT l g yX10_putIn (.code yX10_putIn cX10_putIn 2 (Option.some FieldType.int)) 7 111 1 6 [.ref b, .int a] m (fun r m' => X10_putIn_x g m b a N nx = none ∧ r = some (.int (X10_putIn_r g m b a N nx)) ∧ m' = X10_putIn_m g m b a N nx) (fun E9 m9 => X10_putIn_x g m b a N nx = some E9 ∧ ∃ n9, gN (X10_putIn_m g m b a N nx) ≤ n9 ∧ m9 = sN (X10_putIn_m g m b a N nx) n9) := by
  refine mT_of hO (by decide) (Nat.le_of_ble_eq_true rfl) (fun x hX hZ => ?_)
  show mV g x m 0 0 0 [(0, .ref b), (1, .int a)] []
  refine v_aload_n (pc := 0) hX dX10_putIn_0 rfl ?_
  refine v_get (v := .ref (b + 49)) (pc := 1) hX dX10_putIn_1 hb.k (ci := 11) (r := vwC11) rfl 3 (by decide) wd_309 (fvR hb.r3) ?_
  refine v_aload_n (pc := 4) hX dX10_putIn_4 rfl ?_
  refine v_get (v := .ref (b + 1)) (pc := 5) hX dX10_putIn_5 hb.k (ci := 11) (r := vwC11) rfl 0 (by decide) wd_306 (fvR hb.r0) ?_
  refine v_callV (z := yX6_prepare) (pc := 8) hX dX10_putIn_8 (c_X6_prepare hO m (b + 49) (b + 1) nx hb.h hn hn9 hb.f1) hb.h.k rfl wd_855 wd_856 wd_857 wd_8 wd_858 ⟨by decide, by decide, (by decide +kernel : (parseMethodDescriptor yX6_prepare.desc).map (fun d => d.parameters.length) = some 1)⟩ rfl (Nat.le_of_ble_eq_true rfl) ⟨⟨by decide, by decide⟩, by decide, by decide⟩ (fun E m9 h9 => h9.elim) (fun r9 m9 h9 => ?_)
  obtain ⟨rfl, h8⟩ := h9
  replace h8 := h8.symm
  subst h8
  show mV g x _ _ _ _ _ []
  refine v_aload_n (pc := 11) hX dX10_putIn_11 rfl ?_
  refine v_aload_n (pc := 12) hX dX10_putIn_12 rfl ?_
  refine v_get (v := .ref (b + 1)) (pc := 13) hX dX10_putIn_13 (by simp only [mm, kK_X6_prepare]; exact hb.k) (ci := 11) (r := vwC11) rfl 0 (by decide) wd_306 (fvR (by simp [mm, kR_X6_prepare, hb.r0])) ?_
  refine v_iload_n (pc := 16) hX dX10_putIn_16 rfl ?_
  refine v_callV (z := yX3_intoFurnace) (pc := 17) hX dX10_putIn_17 (c_X3_intoFurnace hO ((X6_prepare_m g m (b + 49) (b + 1) nx)) (b + 1) a N (hb.f1.to (by simp only [mm, kK_X6_prepare]) (by simp [mm, kR_X6_prepare]) (by simp [mm, kR_X6_prepare]) (by simp [mm, kR_X6_prepare]) (by simp only [mm, kQ_X6_prepare])) (((show Fr (b + 49) (b + 195) m ((X6_prepare_m g m (b + 49) (b + 1) nx)) from ((Fr.rf).tr (fr_X6_prepare g m (b + 49) (b + 1) nx hb.h hn9 hb.f1) (by omega) (by omega))).gI (k := 163) (a := (b + 1)) (by omega)).trans hN) hN8) (by simp only [mm, kK_X6_prepare]; exact hb.f1.k) rfl wd_998 wd_999 wd_1000 wd_2 wd_1001 ⟨by decide, by decide, (by decide +kernel : (parseMethodDescriptor yX3_intoFurnace.desc).map (fun d => d.parameters.length) = some 1)⟩ rfl (Nat.le_of_ble_eq_true rfl) ⟨⟨by decide, by decide⟩, by decide, by decide⟩ (fun E m9 h9 => h9.elim) (fun r9 m9 h9 => ?_)
  obtain ⟨rfl, h8⟩ := h9
  replace h8 := h8.symm
  subst h8
  show mV g x _ _ _ _ _ [.int (X3_intoFurnace_r g ((X6_prepare_m g m (b + 49) (b + 1) nx)) (b + 1) a N), .ref b]
  refine v_callV (z := yX10_settle) (pc := 20) hX dX10_putIn_20 (c_X10_settle hO ((X3_intoFurnace_m g ((X6_prepare_m g m (b + 49) (b + 1) nx)) (b + 1) a N)) b (X3_intoFurnace_r g ((X6_prepare_m g m (b + 49) (b + 1) nx)) (b + 1) a N)  (hb.to (by simp only [mm, kK_X3_intoFurnace, kK_X6_prepare]) (fun k hk a => by simp [mm, kR_X3_intoFurnace, kR_X6_prepare, hk]) (by simp only [mm, kQ_X3_intoFurnace, kQ_X6_prepare]))) (by simp only [mm, kK_X3_intoFurnace, kK_X6_prepare]; exact hb.k) rfl wd_864 wd_866 wp_2 wd_1 wd_867 ⟨by decide, by decide, (by decide +kernel : (parseMethodDescriptor yX10_settle.desc).map (fun d => d.parameters.length) = some 1)⟩ rfl (Nat.le_of_ble_eq_true rfl) ⟨⟨by decide, by decide⟩, by decide, by decide⟩ (fun E9 m9 h9 => by obtain ⟨hx9, n9, hn9, rfl⟩ := h9; exact v_out hX hZ (by decide) (by decide) ⟨by simp only [X10_putIn_x, hx9], n9, (by simp only [X10_putIn_m, hx9]; exact hn9), (by simp only [X10_putIn_m, hx9])⟩) (fun r9 m9 h9 => ?_)
  obtain ⟨hx1, rfl, h8⟩ := h9
  replace h8 := h8.symm
  subst h8
  show mV g x _ _ _ _ _ [.int (X10_settle_r g ((X3_intoFurnace_m g ((X6_prepare_m g m (b + 49) (b + 1) nx)) (b + 1) a N)) b (X3_intoFurnace_r g ((X6_prepare_m g m (b + 49) (b + 1) nx)) (b + 1) a N) )]
  exact v_iret (pc := 23) hX hZ dX10_putIn_23 (by decide) (by decide) ⟨(by simp only [X10_putIn_x, hx1]), (by simp only [X10_putIn_r, hx1]), (by simp only [X10_putIn_m, hx1])⟩
def X10_takeOut_r (g : mG) (m : mM) (b : Nat) (a : Int32) (N : Nat) (nx : Nat) : Int32 := (match X10_settle_x g ((X3_ontoBench_m g ((X6_prepare_m g m (b + 49) (b + 1) nx)) (b + 1) a N)) b (X3_ontoBench_r g ((X6_prepare_m g m (b + 49) (b + 1) nx)) (b + 1) a N)  with | some _ => 0 | none => X10_settle_r g ((X3_ontoBench_m g ((X6_prepare_m g m (b + 49) (b + 1) nx)) (b + 1) a N)) b (X3_ontoBench_r g ((X6_prepare_m g m (b + 49) (b + 1) nx)) (b + 1) a N) )
def X10_takeOut_m (g : mG) (m : mM) (b : Nat) (a : Int32) (N : Nat) (nx : Nat) : mM := (match X10_settle_x g ((X3_ontoBench_m g ((X6_prepare_m g m (b + 49) (b + 1) nx)) (b + 1) a N)) b (X3_ontoBench_r g ((X6_prepare_m g m (b + 49) (b + 1) nx)) (b + 1) a N)  with | some _ => (X10_settle_m g ((X3_ontoBench_m g ((X6_prepare_m g m (b + 49) (b + 1) nx)) (b + 1) a N)) b (X3_ontoBench_r g ((X6_prepare_m g m (b + 49) (b + 1) nx)) (b + 1) a N) ) | none => (X10_settle_m g ((X3_ontoBench_m g ((X6_prepare_m g m (b + 49) (b + 1) nx)) (b + 1) a N)) b (X3_ontoBench_r g ((X6_prepare_m g m (b + 49) (b + 1) nx)) (b + 1) a N) ))
def X10_takeOut_x (g : mG) (m : mM) (b : Nat) (a : Int32) (N : Nat) (nx : Nat) : Option String := (match X10_settle_x g ((X3_ontoBench_m g ((X6_prepare_m g m (b + 49) (b + 1) nx)) (b + 1) a N)) b (X3_ontoBench_r g ((X6_prepare_m g m (b + 49) (b + 1) nx)) (b + 1) a N)  with | some e9 => some e9 | none => none)
theorem kK_X10_takeOut (g : mG) (m : mM) (b : Nat) (a : Int32) (N : Nat) (nx : Nat) : gK (X10_takeOut_m g m b a N nx) = gK m := by
  unfold X10_takeOut_m
  repeat' split
  all_goals simp only [mm, kK_X10_settle, kK_X3_ontoBench, kK_X6_prepare]
theorem kN_X10_takeOut (g : mG) (m : mM) (b : Nat) (a : Int32) (N : Nat) (nx : Nat) : gN (X10_takeOut_m g m b a N nx) = gN m := by
  unfold X10_takeOut_m
  repeat' split
  all_goals simp only [mm, kN_X10_settle, kN_X3_ontoBench, kN_X6_prepare]
theorem kI_X10_takeOut (g : mG) (m : mM) (b : Nat) (a : Int32) (N : Nat) (nx : Nat) (k a9 : Nat) (h0 : k ≠ 163) (h1 : k ≠ 164) (h2 : k ≠ 165) (h3 : k ≠ 166) (h4 : k ≠ 167) (h5 : k ≠ 168) (h6 : k ≠ 169) (h7 : k ≠ 170) (h8 : k ≠ 192) (h9 : k ≠ 193) (h10 : k ≠ 194) (h11 : k ≠ 224) (h12 : k ≠ 225) (h13 : k ≠ 257) (h14 : k ≠ 258) (h15 : k ≠ 288) (h16 : k ≠ 289) (h17 : k ≠ 290) (h18 : k ≠ 291) (h19 : k ≠ 292) (h20 : k ≠ 293) (h21 : k ≠ 294) : gI (X10_takeOut_m g m b a N nx) k a9 = gI m k a9 := by
  unfold X10_takeOut_m
  repeat' split
  all_goals simp [mm, kI_X10_settle, kI_X3_ontoBench, kI_X6_prepare, h0, h1, h2, h3, h4, h5, h6, h7, h8, h9, h10, h11, h12, h13, h14, h15, h16, h17, h18, h19, h20, h21]
theorem kJ_X10_takeOut (g : mG) (m : mM) (b : Nat) (a : Int32) (N : Nat) (nx : Nat) (k a9 : Nat) (h0 : k ≠ 171) (h1 : k ≠ 195) : gJ (X10_takeOut_m g m b a N nx) k a9 = gJ m k a9 := by
  unfold X10_takeOut_m
  repeat' split
  all_goals simp [mm, kJ_X10_settle, kJ_X3_ontoBench, kJ_X6_prepare, h0, h1]
theorem kR_X10_takeOut (g : mG) (m : mM) (b : Nat) (a : Int32) (N : Nat) (nx : Nat) (k a9 : Nat) (h0 : k ≠ 295) : gR (X10_takeOut_m g m b a N nx) k a9 = gR m k a9 := by
  unfold X10_takeOut_m
  repeat' split
  all_goals simp [mm, kR_X10_settle, kR_X3_ontoBench, kR_X6_prepare, h0]
theorem kA_X10_takeOut (g : mG) (m : mM) (b : Nat) (a : Int32) (N : Nat) (nx : Nat) : gA (X10_takeOut_m g m b a N nx) = gA m := by
  unfold X10_takeOut_m
  repeat' split
  all_goals simp only [mm, kA_X10_settle, kA_X3_ontoBench, kA_X6_prepare]
theorem kQ_X10_takeOut (g : mG) (m : mM) (b : Nat) (a : Int32) (N : Nat) (nx : Nat) : gQ (X10_takeOut_m g m b a N nx) = gQ m := by
  unfold X10_takeOut_m
  repeat' split
  all_goals simp only [mm, kQ_X10_settle, kQ_X3_ontoBench, kQ_X6_prepare]
theorem kL_X10_takeOut (g : mG) (m : mM) (b : Nat) (a : Int32) (N : Nat) (nx : Nat) : gL (X10_takeOut_m g m b a N nx) = gL m := by
  unfold X10_takeOut_m
  repeat' split
  all_goals simp only [mm, kL_X10_settle, kL_X3_ontoBench, kL_X6_prepare]
theorem kD_X10_takeOut (g : mG) (m : mM) (b : Nat) (a : Int32) (N : Nat) (nx : Nat) : gD (X10_takeOut_m g m b a N nx) = gD m := by
  unfold X10_takeOut_m
  repeat' split
  all_goals simp only [mm, kD_X10_settle, kD_X3_ontoBench, kD_X6_prepare]
set_option maxHeartbeats 4000000 in
set_option maxRecDepth 100000 in
theorem c_X10_takeOut {l : Launch} {g : mG} (hO : mO l g) (m : mM) (b : Nat) (a : Int32) (N : Nat) (nx : Nat) (hb : SB m b) (hN : gI m 163 (b + 1) = nI N) (hN8 : N ≤ 8) (hn : gI m 257 (b + 49) = nI nx) (hn9 : nx < 9) : mT l g yX10_takeOut (.code yX10_takeOut cX10_takeOut 2 (Option.some FieldType.int)) 7 111 1 6 [.ref b, .int a] m (fun r m' => X10_takeOut_x g m b a N nx = none ∧ r = some (.int (X10_takeOut_r g m b a N nx)) ∧ m' = X10_takeOut_m g m b a N nx) (fun E9 m9 => X10_takeOut_x g m b a N nx = some E9 ∧ ∃ n9, gN (X10_takeOut_m g m b a N nx) ≤ n9 ∧ m9 = sN (X10_takeOut_m g m b a N nx) n9) := by
  refine mT_of hO (by decide) (Nat.le_of_ble_eq_true rfl) (fun x hX hZ => ?_)
  show mV g x m 0 0 0 [(0, .ref b), (1, .int a)] []
  refine v_aload_n (pc := 0) hX dX10_takeOut_0 rfl ?_
  refine v_get (v := .ref (b + 49)) (pc := 1) hX dX10_takeOut_1 hb.k (ci := 11) (r := vwC11) rfl 3 (by decide) wd_309 (fvR hb.r3) ?_
  refine v_aload_n (pc := 4) hX dX10_takeOut_4 rfl ?_
  refine v_get (v := .ref (b + 1)) (pc := 5) hX dX10_takeOut_5 hb.k (ci := 11) (r := vwC11) rfl 0 (by decide) wd_306 (fvR hb.r0) ?_
  refine v_callV (z := yX6_prepare) (pc := 8) hX dX10_takeOut_8 (c_X6_prepare hO m (b + 49) (b + 1) nx hb.h hn hn9 hb.f1) hb.h.k rfl wd_855 wd_856 wd_857 wd_8 wd_858 ⟨by decide, by decide, (by decide +kernel : (parseMethodDescriptor yX6_prepare.desc).map (fun d => d.parameters.length) = some 1)⟩ rfl (Nat.le_of_ble_eq_true rfl) ⟨⟨by decide, by decide⟩, by decide, by decide⟩ (fun E m9 h9 => h9.elim) (fun r9 m9 h9 => ?_)
  obtain ⟨rfl, h8⟩ := h9
  replace h8 := h8.symm
  subst h8
  show mV g x _ _ _ _ _ []
  refine v_aload_n (pc := 11) hX dX10_takeOut_11 rfl ?_
  refine v_aload_n (pc := 12) hX dX10_takeOut_12 rfl ?_
  refine v_get (v := .ref (b + 1)) (pc := 13) hX dX10_takeOut_13 (by simp only [mm, kK_X6_prepare]; exact hb.k) (ci := 11) (r := vwC11) rfl 0 (by decide) wd_306 (fvR (by simp [mm, kR_X6_prepare, hb.r0])) ?_
  refine v_iload_n (pc := 16) hX dX10_takeOut_16 rfl ?_
  refine v_callV (z := yX3_ontoBench) (pc := 17) hX dX10_takeOut_17 (c_X3_ontoBench hO ((X6_prepare_m g m (b + 49) (b + 1) nx)) (b + 1) a N (hb.f1.to (by simp only [mm, kK_X6_prepare]) (by simp [mm, kR_X6_prepare]) (by simp [mm, kR_X6_prepare]) (by simp [mm, kR_X6_prepare]) (by simp only [mm, kQ_X6_prepare])) (((show Fr (b + 49) (b + 195) m ((X6_prepare_m g m (b + 49) (b + 1) nx)) from ((Fr.rf).tr (fr_X6_prepare g m (b + 49) (b + 1) nx hb.h hn9 hb.f1) (by omega) (by omega))).gI (k := 163) (a := (b + 1)) (by omega)).trans hN) hN8) (by simp only [mm, kK_X6_prepare]; exact hb.f1.k) rfl wd_1011 wd_1012 wd_1013 wd_2 wd_1014 ⟨by decide, by decide, (by decide +kernel : (parseMethodDescriptor yX3_ontoBench.desc).map (fun d => d.parameters.length) = some 1)⟩ rfl (Nat.le_of_ble_eq_true rfl) ⟨⟨by decide, by decide⟩, by decide, by decide⟩ (fun E m9 h9 => h9.elim) (fun r9 m9 h9 => ?_)
  obtain ⟨rfl, h8⟩ := h9
  replace h8 := h8.symm
  subst h8
  show mV g x _ _ _ _ _ [.int (X3_ontoBench_r g ((X6_prepare_m g m (b + 49) (b + 1) nx)) (b + 1) a N), .ref b]
  refine v_callV (z := yX10_settle) (pc := 20) hX dX10_takeOut_20 (c_X10_settle hO ((X3_ontoBench_m g ((X6_prepare_m g m (b + 49) (b + 1) nx)) (b + 1) a N)) b (X3_ontoBench_r g ((X6_prepare_m g m (b + 49) (b + 1) nx)) (b + 1) a N)  (hb.to (by simp only [mm, kK_X3_ontoBench, kK_X6_prepare]) (fun k hk a => by simp [mm, kR_X3_ontoBench, kR_X6_prepare, hk]) (by simp only [mm, kQ_X3_ontoBench, kQ_X6_prepare]))) (by simp only [mm, kK_X3_ontoBench, kK_X6_prepare]; exact hb.k) rfl wd_864 wd_866 wp_2 wd_1 wd_867 ⟨by decide, by decide, (by decide +kernel : (parseMethodDescriptor yX10_settle.desc).map (fun d => d.parameters.length) = some 1)⟩ rfl (Nat.le_of_ble_eq_true rfl) ⟨⟨by decide, by decide⟩, by decide, by decide⟩ (fun E9 m9 h9 => by obtain ⟨hx9, n9, hn9, rfl⟩ := h9; exact v_out hX hZ (by decide) (by decide) ⟨by simp only [X10_takeOut_x, hx9], n9, (by simp only [X10_takeOut_m, hx9]; exact hn9), (by simp only [X10_takeOut_m, hx9])⟩) (fun r9 m9 h9 => ?_)
  obtain ⟨hx1, rfl, h8⟩ := h9
  replace h8 := h8.symm
  subst h8
  show mV g x _ _ _ _ _ [.int (X10_settle_r g ((X3_ontoBench_m g ((X6_prepare_m g m (b + 49) (b + 1) nx)) (b + 1) a N)) b (X3_ontoBench_r g ((X6_prepare_m g m (b + 49) (b + 1) nx)) (b + 1) a N) )]
  exact v_iret (pc := 23) hX hZ dX10_takeOut_23 (by decide) (by decide) ⟨(by simp only [X10_takeOut_x, hx1]), (by simp only [X10_takeOut_r, hx1]), (by simp only [X10_takeOut_m, hx1])⟩
def X10_quench_r (g : mG) (m : mM) (b : Nat) (a : Int32) (N : Nat) (nx : Nat) : Int32 := (match X10_settle_x g ((X3_chill_m g ((X6_prepare_m g m (b + 49) (b + 1) nx)) (b + 1) a N)) b (X3_chill_r g ((X6_prepare_m g m (b + 49) (b + 1) nx)) (b + 1) a N)  with | some _ => 0 | none => X10_settle_r g ((X3_chill_m g ((X6_prepare_m g m (b + 49) (b + 1) nx)) (b + 1) a N)) b (X3_chill_r g ((X6_prepare_m g m (b + 49) (b + 1) nx)) (b + 1) a N) )
def X10_quench_m (g : mG) (m : mM) (b : Nat) (a : Int32) (N : Nat) (nx : Nat) : mM := (match X10_settle_x g ((X3_chill_m g ((X6_prepare_m g m (b + 49) (b + 1) nx)) (b + 1) a N)) b (X3_chill_r g ((X6_prepare_m g m (b + 49) (b + 1) nx)) (b + 1) a N)  with | some _ => (X10_settle_m g ((X3_chill_m g ((X6_prepare_m g m (b + 49) (b + 1) nx)) (b + 1) a N)) b (X3_chill_r g ((X6_prepare_m g m (b + 49) (b + 1) nx)) (b + 1) a N) ) | none => (X10_settle_m g ((X3_chill_m g ((X6_prepare_m g m (b + 49) (b + 1) nx)) (b + 1) a N)) b (X3_chill_r g ((X6_prepare_m g m (b + 49) (b + 1) nx)) (b + 1) a N) ))
def X10_quench_x (g : mG) (m : mM) (b : Nat) (a : Int32) (N : Nat) (nx : Nat) : Option String := (match X10_settle_x g ((X3_chill_m g ((X6_prepare_m g m (b + 49) (b + 1) nx)) (b + 1) a N)) b (X3_chill_r g ((X6_prepare_m g m (b + 49) (b + 1) nx)) (b + 1) a N)  with | some e9 => some e9 | none => none)
theorem kK_X10_quench (g : mG) (m : mM) (b : Nat) (a : Int32) (N : Nat) (nx : Nat) : gK (X10_quench_m g m b a N nx) = gK m := by
  unfold X10_quench_m
  repeat' split
  all_goals simp only [mm, kK_X10_settle, kK_X3_chill, kK_X6_prepare]
theorem kN_X10_quench (g : mG) (m : mM) (b : Nat) (a : Int32) (N : Nat) (nx : Nat) : gN (X10_quench_m g m b a N nx) = gN m := by
  unfold X10_quench_m
  repeat' split
  all_goals simp only [mm, kN_X10_settle, kN_X3_chill, kN_X6_prepare]
theorem kI_X10_quench (g : mG) (m : mM) (b : Nat) (a : Int32) (N : Nat) (nx : Nat) (k a9 : Nat) (h0 : k ≠ 163) (h1 : k ≠ 164) (h2 : k ≠ 165) (h3 : k ≠ 166) (h4 : k ≠ 167) (h5 : k ≠ 168) (h6 : k ≠ 169) (h7 : k ≠ 170) (h8 : k ≠ 192) (h9 : k ≠ 193) (h10 : k ≠ 194) (h11 : k ≠ 224) (h12 : k ≠ 225) (h13 : k ≠ 257) (h14 : k ≠ 258) (h15 : k ≠ 288) (h16 : k ≠ 289) (h17 : k ≠ 290) (h18 : k ≠ 291) (h19 : k ≠ 292) (h20 : k ≠ 293) (h21 : k ≠ 294) : gI (X10_quench_m g m b a N nx) k a9 = gI m k a9 := by
  unfold X10_quench_m
  repeat' split
  all_goals simp [mm, kI_X10_settle, kI_X3_chill, kI_X6_prepare, h0, h1, h2, h3, h4, h5, h6, h7, h8, h9, h10, h11, h12, h13, h14, h15, h16, h17, h18, h19, h20, h21]
theorem kJ_X10_quench (g : mG) (m : mM) (b : Nat) (a : Int32) (N : Nat) (nx : Nat) (k a9 : Nat) (h0 : k ≠ 171) (h1 : k ≠ 195) : gJ (X10_quench_m g m b a N nx) k a9 = gJ m k a9 := by
  unfold X10_quench_m
  repeat' split
  all_goals simp [mm, kJ_X10_settle, kJ_X3_chill, kJ_X6_prepare, h0, h1]
theorem kR_X10_quench (g : mG) (m : mM) (b : Nat) (a : Int32) (N : Nat) (nx : Nat) (k a9 : Nat) (h0 : k ≠ 295) : gR (X10_quench_m g m b a N nx) k a9 = gR m k a9 := by
  unfold X10_quench_m
  repeat' split
  all_goals simp [mm, kR_X10_settle, kR_X3_chill, kR_X6_prepare, h0]
theorem kA_X10_quench (g : mG) (m : mM) (b : Nat) (a : Int32) (N : Nat) (nx : Nat) : gA (X10_quench_m g m b a N nx) = gA m := by
  unfold X10_quench_m
  repeat' split
  all_goals simp only [mm, kA_X10_settle, kA_X3_chill, kA_X6_prepare]
theorem kQ_X10_quench (g : mG) (m : mM) (b : Nat) (a : Int32) (N : Nat) (nx : Nat) : gQ (X10_quench_m g m b a N nx) = gQ m := by
  unfold X10_quench_m
  repeat' split
  all_goals simp only [mm, kQ_X10_settle, kQ_X3_chill, kQ_X6_prepare]
theorem kL_X10_quench (g : mG) (m : mM) (b : Nat) (a : Int32) (N : Nat) (nx : Nat) : gL (X10_quench_m g m b a N nx) = gL m := by
  unfold X10_quench_m
  repeat' split
  all_goals simp only [mm, kL_X10_settle, kL_X3_chill, kL_X6_prepare]
theorem kD_X10_quench (g : mG) (m : mM) (b : Nat) (a : Int32) (N : Nat) (nx : Nat) : gD (X10_quench_m g m b a N nx) = gD m := by
  unfold X10_quench_m
  repeat' split
  all_goals simp only [mm, kD_X10_settle, kD_X3_chill, kD_X6_prepare]
set_option maxHeartbeats 4000000 in
set_option maxRecDepth 100000 in
theorem c_X10_quench {l : Launch} {g : mG} (hO : mO l g) (m : mM) (b : Nat) (a : Int32) (N : Nat) (nx : Nat) (hb : SB m b) (hN : gI m 163 (b + 1) = nI N) (hN8 : N ≤ 8) (hn : gI m 257 (b + 49) = nI nx) (hn9 : nx < 9) : mT l g yX10_quench (.code yX10_quench cX10_quench 2 (Option.some FieldType.int)) 7 111 1 6 [.ref b, .int a] m (fun r m' => X10_quench_x g m b a N nx = none ∧ r = some (.int (X10_quench_r g m b a N nx)) ∧ m' = X10_quench_m g m b a N nx) (fun E9 m9 => X10_quench_x g m b a N nx = some E9 ∧ ∃ n9, gN (X10_quench_m g m b a N nx) ≤ n9 ∧ m9 = sN (X10_quench_m g m b a N nx) n9) := by
  refine mT_of hO (by decide) (Nat.le_of_ble_eq_true rfl) (fun x hX hZ => ?_)
  show mV g x m 0 0 0 [(0, .ref b), (1, .int a)] []
  refine v_aload_n (pc := 0) hX dX10_quench_0 rfl ?_
  refine v_get (v := .ref (b + 49)) (pc := 1) hX dX10_quench_1 hb.k (ci := 11) (r := vwC11) rfl 3 (by decide) wd_309 (fvR hb.r3) ?_
  refine v_aload_n (pc := 4) hX dX10_quench_4 rfl ?_
  refine v_get (v := .ref (b + 1)) (pc := 5) hX dX10_quench_5 hb.k (ci := 11) (r := vwC11) rfl 0 (by decide) wd_306 (fvR hb.r0) ?_
  refine v_callV (z := yX6_prepare) (pc := 8) hX dX10_quench_8 (c_X6_prepare hO m (b + 49) (b + 1) nx hb.h hn hn9 hb.f1) hb.h.k rfl wd_855 wd_856 wd_857 wd_8 wd_858 ⟨by decide, by decide, (by decide +kernel : (parseMethodDescriptor yX6_prepare.desc).map (fun d => d.parameters.length) = some 1)⟩ rfl (Nat.le_of_ble_eq_true rfl) ⟨⟨by decide, by decide⟩, by decide, by decide⟩ (fun E m9 h9 => h9.elim) (fun r9 m9 h9 => ?_)
  obtain ⟨rfl, h8⟩ := h9
  replace h8 := h8.symm
  subst h8
  show mV g x _ _ _ _ _ []
  refine v_aload_n (pc := 11) hX dX10_quench_11 rfl ?_
  refine v_aload_n (pc := 12) hX dX10_quench_12 rfl ?_
  refine v_get (v := .ref (b + 1)) (pc := 13) hX dX10_quench_13 (by simp only [mm, kK_X6_prepare]; exact hb.k) (ci := 11) (r := vwC11) rfl 0 (by decide) wd_306 (fvR (by simp [mm, kR_X6_prepare, hb.r0])) ?_
  refine v_iload_n (pc := 16) hX dX10_quench_16 rfl ?_
  refine v_callV (z := yX3_chill) (pc := 17) hX dX10_quench_17 (c_X3_chill hO ((X6_prepare_m g m (b + 49) (b + 1) nx)) (b + 1) a N (hb.f1.to (by simp only [mm, kK_X6_prepare]) (by simp [mm, kR_X6_prepare]) (by simp [mm, kR_X6_prepare]) (by simp [mm, kR_X6_prepare]) (by simp only [mm, kQ_X6_prepare])) (((show Fr (b + 49) (b + 195) m ((X6_prepare_m g m (b + 49) (b + 1) nx)) from ((Fr.rf).tr (fr_X6_prepare g m (b + 49) (b + 1) nx hb.h hn9 hb.f1) (by omega) (by omega))).gI (k := 163) (a := (b + 1)) (by omega)).trans hN) hN8) (by simp only [mm, kK_X6_prepare]; exact hb.f1.k) rfl wd_1054 wd_1055 wd_1056 wd_2 wd_1057 ⟨by decide, by decide, (by decide +kernel : (parseMethodDescriptor yX3_chill.desc).map (fun d => d.parameters.length) = some 1)⟩ rfl (Nat.le_of_ble_eq_true rfl) ⟨⟨by decide, by decide⟩, by decide, by decide⟩ (fun E m9 h9 => h9.elim) (fun r9 m9 h9 => ?_)
  obtain ⟨rfl, h8⟩ := h9
  replace h8 := h8.symm
  subst h8
  show mV g x _ _ _ _ _ [.int (X3_chill_r g ((X6_prepare_m g m (b + 49) (b + 1) nx)) (b + 1) a N), .ref b]
  refine v_callV (z := yX10_settle) (pc := 20) hX dX10_quench_20 (c_X10_settle hO ((X3_chill_m g ((X6_prepare_m g m (b + 49) (b + 1) nx)) (b + 1) a N)) b (X3_chill_r g ((X6_prepare_m g m (b + 49) (b + 1) nx)) (b + 1) a N)  (hb.to (by simp only [mm, kK_X3_chill, kK_X6_prepare]) (fun k hk a => by simp [mm, kR_X3_chill, kR_X6_prepare, hk]) (by simp only [mm, kQ_X3_chill, kQ_X6_prepare]))) (by simp only [mm, kK_X3_chill, kK_X6_prepare]; exact hb.k) rfl wd_864 wd_866 wp_2 wd_1 wd_867 ⟨by decide, by decide, (by decide +kernel : (parseMethodDescriptor yX10_settle.desc).map (fun d => d.parameters.length) = some 1)⟩ rfl (Nat.le_of_ble_eq_true rfl) ⟨⟨by decide, by decide⟩, by decide, by decide⟩ (fun E9 m9 h9 => by obtain ⟨hx9, n9, hn9, rfl⟩ := h9; exact v_out hX hZ (by decide) (by decide) ⟨by simp only [X10_quench_x, hx9], n9, (by simp only [X10_quench_m, hx9]; exact hn9), (by simp only [X10_quench_m, hx9])⟩) (fun r9 m9 h9 => ?_)
  obtain ⟨hx1, rfl, h8⟩ := h9
  replace h8 := h8.symm
  subst h8
  show mV g x _ _ _ _ _ [.int (X10_settle_r g ((X3_chill_m g ((X6_prepare_m g m (b + 49) (b + 1) nx)) (b + 1) a N)) b (X3_chill_r g ((X6_prepare_m g m (b + 49) (b + 1) nx)) (b + 1) a N) )]
  exact v_iret (pc := 23) hX hZ dX10_quench_23 (by decide) (by decide) ⟨(by simp only [X10_quench_x, hx1]), (by simp only [X10_quench_r, hx1]), (by simp only [X10_quench_m, hx1])⟩
def X10_scrap_r (g : mG) (m : mM) (b : Nat) (a : Int32) (N : Nat) (nx : Nat) : Int32 := (match X10_settle_x g ((X3_throwAway_m g ((X6_prepare_m g m (b + 49) (b + 1) nx)) (b + 1) a N)) b (X3_throwAway_r g ((X6_prepare_m g m (b + 49) (b + 1) nx)) (b + 1) a N)  with | some _ => 0 | none => X10_settle_r g ((X3_throwAway_m g ((X6_prepare_m g m (b + 49) (b + 1) nx)) (b + 1) a N)) b (X3_throwAway_r g ((X6_prepare_m g m (b + 49) (b + 1) nx)) (b + 1) a N) )
def X10_scrap_m (g : mG) (m : mM) (b : Nat) (a : Int32) (N : Nat) (nx : Nat) : mM := (match X10_settle_x g ((X3_throwAway_m g ((X6_prepare_m g m (b + 49) (b + 1) nx)) (b + 1) a N)) b (X3_throwAway_r g ((X6_prepare_m g m (b + 49) (b + 1) nx)) (b + 1) a N)  with | some _ => (X10_settle_m g ((X3_throwAway_m g ((X6_prepare_m g m (b + 49) (b + 1) nx)) (b + 1) a N)) b (X3_throwAway_r g ((X6_prepare_m g m (b + 49) (b + 1) nx)) (b + 1) a N) ) | none => (X10_settle_m g ((X3_throwAway_m g ((X6_prepare_m g m (b + 49) (b + 1) nx)) (b + 1) a N)) b (X3_throwAway_r g ((X6_prepare_m g m (b + 49) (b + 1) nx)) (b + 1) a N) ))
def X10_scrap_x (g : mG) (m : mM) (b : Nat) (a : Int32) (N : Nat) (nx : Nat) : Option String := (match X10_settle_x g ((X3_throwAway_m g ((X6_prepare_m g m (b + 49) (b + 1) nx)) (b + 1) a N)) b (X3_throwAway_r g ((X6_prepare_m g m (b + 49) (b + 1) nx)) (b + 1) a N)  with | some e9 => some e9 | none => none)
theorem kK_X10_scrap (g : mG) (m : mM) (b : Nat) (a : Int32) (N : Nat) (nx : Nat) : gK (X10_scrap_m g m b a N nx) = gK m := by
  unfold X10_scrap_m
  repeat' split
  all_goals simp only [mm, kK_X10_settle, kK_X3_throwAway, kK_X6_prepare]
theorem kN_X10_scrap (g : mG) (m : mM) (b : Nat) (a : Int32) (N : Nat) (nx : Nat) : gN (X10_scrap_m g m b a N nx) = gN m := by
  unfold X10_scrap_m
  repeat' split
  all_goals simp only [mm, kN_X10_settle, kN_X3_throwAway, kN_X6_prepare]
theorem kI_X10_scrap (g : mG) (m : mM) (b : Nat) (a : Int32) (N : Nat) (nx : Nat) (k a9 : Nat) (h0 : k ≠ 163) (h1 : k ≠ 164) (h2 : k ≠ 165) (h3 : k ≠ 166) (h4 : k ≠ 167) (h5 : k ≠ 168) (h6 : k ≠ 169) (h7 : k ≠ 170) (h8 : k ≠ 192) (h9 : k ≠ 193) (h10 : k ≠ 194) (h11 : k ≠ 224) (h12 : k ≠ 225) (h13 : k ≠ 257) (h14 : k ≠ 258) (h15 : k ≠ 288) (h16 : k ≠ 289) (h17 : k ≠ 290) (h18 : k ≠ 291) (h19 : k ≠ 292) (h20 : k ≠ 293) (h21 : k ≠ 294) : gI (X10_scrap_m g m b a N nx) k a9 = gI m k a9 := by
  unfold X10_scrap_m
  repeat' split
  all_goals simp [mm, kI_X10_settle, kI_X3_throwAway, kI_X6_prepare, h0, h1, h2, h3, h4, h5, h6, h7, h8, h9, h10, h11, h12, h13, h14, h15, h16, h17, h18, h19, h20, h21]
theorem kJ_X10_scrap (g : mG) (m : mM) (b : Nat) (a : Int32) (N : Nat) (nx : Nat) (k a9 : Nat) (h0 : k ≠ 171) (h1 : k ≠ 195) : gJ (X10_scrap_m g m b a N nx) k a9 = gJ m k a9 := by
  unfold X10_scrap_m
  repeat' split
  all_goals simp [mm, kJ_X10_settle, kJ_X3_throwAway, kJ_X6_prepare, h0, h1]
theorem kR_X10_scrap (g : mG) (m : mM) (b : Nat) (a : Int32) (N : Nat) (nx : Nat) (k a9 : Nat) (h0 : k ≠ 295) : gR (X10_scrap_m g m b a N nx) k a9 = gR m k a9 := by
  unfold X10_scrap_m
  repeat' split
  all_goals simp [mm, kR_X10_settle, kR_X3_throwAway, kR_X6_prepare, h0]
theorem kA_X10_scrap (g : mG) (m : mM) (b : Nat) (a : Int32) (N : Nat) (nx : Nat) : gA (X10_scrap_m g m b a N nx) = gA m := by
  unfold X10_scrap_m
  repeat' split
  all_goals simp only [mm, kA_X10_settle, kA_X3_throwAway, kA_X6_prepare]
theorem kL_X10_scrap (g : mG) (m : mM) (b : Nat) (a : Int32) (N : Nat) (nx : Nat) : gL (X10_scrap_m g m b a N nx) = gL m := by
  unfold X10_scrap_m
  repeat' split
  all_goals simp only [mm, kL_X10_settle, kL_X3_throwAway, kL_X6_prepare]
theorem kD_X10_scrap (g : mG) (m : mM) (b : Nat) (a : Int32) (N : Nat) (nx : Nat) : gD (X10_scrap_m g m b a N nx) = gD m := by
  unfold X10_scrap_m
  repeat' split
  all_goals simp only [mm, kD_X10_settle, kD_X3_throwAway, kD_X6_prepare]
set_option maxHeartbeats 4000000 in
set_option maxRecDepth 100000 in
theorem c_X10_scrap {l : Launch} {g : mG} (hO : mO l g) (m : mM) (b : Nat) (a : Int32) (N : Nat) (nx : Nat) (hb : SB m b) (hN : gI m 163 (b + 1) = nI N) (hN8 : N ≤ 8) (hn : gI m 257 (b + 49) = nI nx) (hn9 : nx < 9) : mT l g yX10_scrap (.code yX10_scrap cX10_scrap 2 (Option.some FieldType.int)) 7 111 1 6 [.ref b, .int a] m (fun r m' => X10_scrap_x g m b a N nx = none ∧ r = some (.int (X10_scrap_r g m b a N nx)) ∧ m' = X10_scrap_m g m b a N nx) (fun E9 m9 => X10_scrap_x g m b a N nx = some E9 ∧ ∃ n9, gN (X10_scrap_m g m b a N nx) ≤ n9 ∧ m9 = sN (X10_scrap_m g m b a N nx) n9) := by
  refine mT_of hO (by decide) (Nat.le_of_ble_eq_true rfl) (fun x hX hZ => ?_)
  show mV g x m 0 0 0 [(0, .ref b), (1, .int a)] []
  refine v_aload_n (pc := 0) hX dX10_scrap_0 rfl ?_
  refine v_get (v := .ref (b + 49)) (pc := 1) hX dX10_scrap_1 hb.k (ci := 11) (r := vwC11) rfl 3 (by decide) wd_309 (fvR hb.r3) ?_
  refine v_aload_n (pc := 4) hX dX10_scrap_4 rfl ?_
  refine v_get (v := .ref (b + 1)) (pc := 5) hX dX10_scrap_5 hb.k (ci := 11) (r := vwC11) rfl 0 (by decide) wd_306 (fvR hb.r0) ?_
  refine v_callV (z := yX6_prepare) (pc := 8) hX dX10_scrap_8 (c_X6_prepare hO m (b + 49) (b + 1) nx hb.h hn hn9 hb.f1) hb.h.k rfl wd_855 wd_856 wd_857 wd_8 wd_858 ⟨by decide, by decide, (by decide +kernel : (parseMethodDescriptor yX6_prepare.desc).map (fun d => d.parameters.length) = some 1)⟩ rfl (Nat.le_of_ble_eq_true rfl) ⟨⟨by decide, by decide⟩, by decide, by decide⟩ (fun E m9 h9 => h9.elim) (fun r9 m9 h9 => ?_)
  obtain ⟨rfl, h8⟩ := h9
  replace h8 := h8.symm
  subst h8
  show mV g x _ _ _ _ _ []
  refine v_aload_n (pc := 11) hX dX10_scrap_11 rfl ?_
  refine v_aload_n (pc := 12) hX dX10_scrap_12 rfl ?_
  refine v_get (v := .ref (b + 1)) (pc := 13) hX dX10_scrap_13 (by simp only [mm, kK_X6_prepare]; exact hb.k) (ci := 11) (r := vwC11) rfl 0 (by decide) wd_306 (fvR (by simp [mm, kR_X6_prepare, hb.r0])) ?_
  refine v_iload_n (pc := 16) hX dX10_scrap_16 rfl ?_
  refine v_callV (z := yX3_throwAway) (pc := 17) hX dX10_scrap_17 (c_X3_throwAway hO ((X6_prepare_m g m (b + 49) (b + 1) nx)) (b + 1) a N (hb.f1.to (by simp only [mm, kK_X6_prepare]) (by simp [mm, kR_X6_prepare]) (by simp [mm, kR_X6_prepare]) (by simp [mm, kR_X6_prepare]) (by simp only [mm, kQ_X6_prepare])) (((show Fr (b + 49) (b + 195) m ((X6_prepare_m g m (b + 49) (b + 1) nx)) from ((Fr.rf).tr (fr_X6_prepare g m (b + 49) (b + 1) nx hb.h hn9 hb.f1) (by omega) (by omega))).gI (k := 163) (a := (b + 1)) (by omega)).trans hN) hN8) (by simp only [mm, kK_X6_prepare]; exact hb.f1.k) rfl wd_1104 wd_1105 wd_1106 wd_2 wd_1107 ⟨by decide, by decide, (by decide +kernel : (parseMethodDescriptor yX3_throwAway.desc).map (fun d => d.parameters.length) = some 1)⟩ rfl (Nat.le_of_ble_eq_true rfl) ⟨⟨by decide, by decide⟩, by decide, by decide⟩ (fun E m9 h9 => h9.elim) (fun r9 m9 h9 => ?_)
  obtain ⟨rfl, h8⟩ := h9
  replace h8 := h8.symm
  subst h8
  show mV g x _ _ _ _ _ [.int (X3_throwAway_r g ((X6_prepare_m g m (b + 49) (b + 1) nx)) (b + 1) a N), .ref b]
  refine v_callV (z := yX10_settle) (pc := 20) hX dX10_scrap_20 (c_X10_settle hO ((X3_throwAway_m g ((X6_prepare_m g m (b + 49) (b + 1) nx)) (b + 1) a N)) b (X3_throwAway_r g ((X6_prepare_m g m (b + 49) (b + 1) nx)) (b + 1) a N)  (SB.f1r (hb.to (by simp only [mm, kK_X6_prepare]) (fun k hk a => by simp [mm, kR_X6_prepare, hk]) (by simp only [mm, kQ_X6_prepare])) (fr_X3_throwAway g (X6_prepare_m g m (b + 49) (b + 1) nx) (b + 1) a N (hb.f1.to (by simp only [mm, kK_X6_prepare]) (by simp [mm, kR_X6_prepare]) (by simp [mm, kR_X6_prepare]) (by simp [mm, kR_X6_prepare]) (by simp only [mm, kQ_X6_prepare])) hN8) (SF_throwAway (hb.f1.to (by simp only [mm, kK_X6_prepare]) (by simp [mm, kR_X6_prepare]) (by simp [mm, kR_X6_prepare]) (by simp [mm, kR_X6_prepare]) (by simp only [mm, kQ_X6_prepare])) hN8))) (by simp only [mm, kK_X3_throwAway, kK_X6_prepare]; exact hb.k) rfl wd_864 wd_866 wp_2 wd_1 wd_867 ⟨by decide, by decide, (by decide +kernel : (parseMethodDescriptor yX10_settle.desc).map (fun d => d.parameters.length) = some 1)⟩ rfl (Nat.le_of_ble_eq_true rfl) ⟨⟨by decide, by decide⟩, by decide, by decide⟩ (fun E9 m9 h9 => by obtain ⟨hx9, n9, hn9, rfl⟩ := h9; exact v_out hX hZ (by decide) (by decide) ⟨by simp only [X10_scrap_x, hx9], n9, (by simp only [X10_scrap_m, hx9]; exact hn9), (by simp only [X10_scrap_m, hx9])⟩) (fun r9 m9 h9 => ?_)
  obtain ⟨hx1, rfl, h8⟩ := h9
  replace h8 := h8.symm
  subst h8
  show mV g x _ _ _ _ _ [.int (X10_settle_r g ((X3_throwAway_m g ((X6_prepare_m g m (b + 49) (b + 1) nx)) (b + 1) a N)) b (X3_throwAway_r g ((X6_prepare_m g m (b + 49) (b + 1) nx)) (b + 1) a N) )]
  exact v_iret (pc := 23) hX hZ dX10_scrap_23 (by decide) (by decide) ⟨(by simp only [X10_scrap_x, hx1]), (by simp only [X10_scrap_r, hx1]), (by simp only [X10_scrap_m, hx1])⟩
def X10_addHammer_r (g : mG) (m : mM) (b : Nat) (a : Int32) (H : Nat) (nx : Nat) : Int32 := (match X10_settle_x g ((X3_newHammer_m g ((X6_prepare_m g m (b + 49) (b + 1) nx)) (b + 1) a H)) b (X3_newHammer_r g ((X6_prepare_m g m (b + 49) (b + 1) nx)) (b + 1) a H)  with | some _ => 0 | none => X10_settle_r g ((X3_newHammer_m g ((X6_prepare_m g m (b + 49) (b + 1) nx)) (b + 1) a H)) b (X3_newHammer_r g ((X6_prepare_m g m (b + 49) (b + 1) nx)) (b + 1) a H) )
def X10_addHammer_m (g : mG) (m : mM) (b : Nat) (a : Int32) (H : Nat) (nx : Nat) : mM := (match X10_settle_x g ((X3_newHammer_m g ((X6_prepare_m g m (b + 49) (b + 1) nx)) (b + 1) a H)) b (X3_newHammer_r g ((X6_prepare_m g m (b + 49) (b + 1) nx)) (b + 1) a H)  with | some _ => (X10_settle_m g ((X3_newHammer_m g ((X6_prepare_m g m (b + 49) (b + 1) nx)) (b + 1) a H)) b (X3_newHammer_r g ((X6_prepare_m g m (b + 49) (b + 1) nx)) (b + 1) a H) ) | none => (X10_settle_m g ((X3_newHammer_m g ((X6_prepare_m g m (b + 49) (b + 1) nx)) (b + 1) a H)) b (X3_newHammer_r g ((X6_prepare_m g m (b + 49) (b + 1) nx)) (b + 1) a H) ))
def X10_addHammer_x (g : mG) (m : mM) (b : Nat) (a : Int32) (H : Nat) (nx : Nat) : Option String := (match X10_settle_x g ((X3_newHammer_m g ((X6_prepare_m g m (b + 49) (b + 1) nx)) (b + 1) a H)) b (X3_newHammer_r g ((X6_prepare_m g m (b + 49) (b + 1) nx)) (b + 1) a H)  with | some e9 => some e9 | none => none)
theorem kK_X10_addHammer (g : mG) (m : mM) (b : Nat) (a : Int32) (H : Nat) (nx : Nat) : gK (X10_addHammer_m g m b a H nx) = gK m := by
  unfold X10_addHammer_m
  repeat' split
  all_goals simp only [mm, kK_X10_settle, kK_X3_newHammer, kK_X6_prepare]
theorem kN_X10_addHammer (g : mG) (m : mM) (b : Nat) (a : Int32) (H : Nat) (nx : Nat) : gN (X10_addHammer_m g m b a H nx) = gN m := by
  unfold X10_addHammer_m
  repeat' split
  all_goals simp only [mm, kN_X10_settle, kN_X3_newHammer, kN_X6_prepare]
theorem kI_X10_addHammer (g : mG) (m : mM) (b : Nat) (a : Int32) (H : Nat) (nx : Nat) (k a9 : Nat) (h0 : k ≠ 163) (h1 : k ≠ 164) (h2 : k ≠ 165) (h3 : k ≠ 166) (h4 : k ≠ 167) (h5 : k ≠ 168) (h6 : k ≠ 169) (h7 : k ≠ 170) (h8 : k ≠ 192) (h9 : k ≠ 193) (h10 : k ≠ 194) (h11 : k ≠ 224) (h12 : k ≠ 225) (h13 : k ≠ 257) (h14 : k ≠ 258) (h15 : k ≠ 288) (h16 : k ≠ 289) (h17 : k ≠ 290) (h18 : k ≠ 291) (h19 : k ≠ 292) (h20 : k ≠ 293) (h21 : k ≠ 294) : gI (X10_addHammer_m g m b a H nx) k a9 = gI m k a9 := by
  unfold X10_addHammer_m
  repeat' split
  all_goals simp [mm, kI_X10_settle, kI_X3_newHammer, kI_X6_prepare, h0, h1, h2, h3, h4, h5, h6, h7, h8, h9, h10, h11, h12, h13, h14, h15, h16, h17, h18, h19, h20, h21]
theorem kJ_X10_addHammer (g : mG) (m : mM) (b : Nat) (a : Int32) (H : Nat) (nx : Nat) (k a9 : Nat) (h0 : k ≠ 171) (h1 : k ≠ 195) : gJ (X10_addHammer_m g m b a H nx) k a9 = gJ m k a9 := by
  unfold X10_addHammer_m
  repeat' split
  all_goals simp [mm, kJ_X10_settle, kJ_X3_newHammer, kJ_X6_prepare, h0, h1]
theorem kR_X10_addHammer (g : mG) (m : mM) (b : Nat) (a : Int32) (H : Nat) (nx : Nat) (k a9 : Nat) (h0 : k ≠ 295) : gR (X10_addHammer_m g m b a H nx) k a9 = gR m k a9 := by
  unfold X10_addHammer_m
  repeat' split
  all_goals simp [mm, kR_X10_settle, kR_X3_newHammer, kR_X6_prepare, h0]
theorem kA_X10_addHammer (g : mG) (m : mM) (b : Nat) (a : Int32) (H : Nat) (nx : Nat) : gA (X10_addHammer_m g m b a H nx) = gA m := by
  unfold X10_addHammer_m
  repeat' split
  all_goals simp only [mm, kA_X10_settle, kA_X3_newHammer, kA_X6_prepare]
theorem kQ_X10_addHammer (g : mG) (m : mM) (b : Nat) (a : Int32) (H : Nat) (nx : Nat) : gQ (X10_addHammer_m g m b a H nx) = gQ m := by
  unfold X10_addHammer_m
  repeat' split
  all_goals simp only [mm, kQ_X10_settle, kQ_X3_newHammer, kQ_X6_prepare]
theorem kL_X10_addHammer (g : mG) (m : mM) (b : Nat) (a : Int32) (H : Nat) (nx : Nat) : gL (X10_addHammer_m g m b a H nx) = gL m := by
  unfold X10_addHammer_m
  repeat' split
  all_goals simp only [mm, kL_X10_settle, kL_X3_newHammer, kL_X6_prepare]
theorem kD_X10_addHammer (g : mG) (m : mM) (b : Nat) (a : Int32) (H : Nat) (nx : Nat) : gD (X10_addHammer_m g m b a H nx) = gD m := by
  unfold X10_addHammer_m
  repeat' split
  all_goals simp only [mm, kD_X10_settle, kD_X3_newHammer, kD_X6_prepare]
set_option maxHeartbeats 4000000 in
set_option maxRecDepth 100000 in
theorem c_X10_addHammer {l : Launch} {g : mG} (hO : mO l g) (m : mM) (b : Nat) (a : Int32) (H : Nat) (nx : Nat) (hb : SB m b) (hH : gI m 164 (b + 1) = nI H) (hH4 : H ≤ 4) (hn : gI m 257 (b + 49) = nI nx) (hn9 : nx < 9) : mT l g yX10_addHammer (.code yX10_addHammer cX10_addHammer 2 (Option.some FieldType.int)) 7 111 1 6 [.ref b, .int a] m (fun r m' => X10_addHammer_x g m b a H nx = none ∧ r = some (.int (X10_addHammer_r g m b a H nx)) ∧ m' = X10_addHammer_m g m b a H nx) (fun E9 m9 => X10_addHammer_x g m b a H nx = some E9 ∧ ∃ n9, gN (X10_addHammer_m g m b a H nx) ≤ n9 ∧ m9 = sN (X10_addHammer_m g m b a H nx) n9) := by
  refine mT_of hO (by decide) (Nat.le_of_ble_eq_true rfl) (fun x hX hZ => ?_)
  show mV g x m 0 0 0 [(0, .ref b), (1, .int a)] []
  refine v_aload_n (pc := 0) hX dX10_addHammer_0 rfl ?_
  refine v_get (v := .ref (b + 49)) (pc := 1) hX dX10_addHammer_1 hb.k (ci := 11) (r := vwC11) rfl 3 (by decide) wd_309 (fvR hb.r3) ?_
  refine v_aload_n (pc := 4) hX dX10_addHammer_4 rfl ?_
  refine v_get (v := .ref (b + 1)) (pc := 5) hX dX10_addHammer_5 hb.k (ci := 11) (r := vwC11) rfl 0 (by decide) wd_306 (fvR hb.r0) ?_
  refine v_callV (z := yX6_prepare) (pc := 8) hX dX10_addHammer_8 (c_X6_prepare hO m (b + 49) (b + 1) nx hb.h hn hn9 hb.f1) hb.h.k rfl wd_855 wd_856 wd_857 wd_8 wd_858 ⟨by decide, by decide, (by decide +kernel : (parseMethodDescriptor yX6_prepare.desc).map (fun d => d.parameters.length) = some 1)⟩ rfl (Nat.le_of_ble_eq_true rfl) ⟨⟨by decide, by decide⟩, by decide, by decide⟩ (fun E m9 h9 => h9.elim) (fun r9 m9 h9 => ?_)
  obtain ⟨rfl, h8⟩ := h9
  replace h8 := h8.symm
  subst h8
  show mV g x _ _ _ _ _ []
  refine v_aload_n (pc := 11) hX dX10_addHammer_11 rfl ?_
  refine v_aload_n (pc := 12) hX dX10_addHammer_12 rfl ?_
  refine v_get (v := .ref (b + 1)) (pc := 13) hX dX10_addHammer_13 (by simp only [mm, kK_X6_prepare]; exact hb.k) (ci := 11) (r := vwC11) rfl 0 (by decide) wd_306 (fvR (by simp [mm, kR_X6_prepare, hb.r0])) ?_
  refine v_iload_n (pc := 16) hX dX10_addHammer_16 rfl ?_
  refine v_callV (z := yX3_newHammer) (pc := 17) hX dX10_addHammer_17 (c_X3_newHammer hO ((X6_prepare_m g m (b + 49) (b + 1) nx)) (b + 1) a H (hb.f1.to (by simp only [mm, kK_X6_prepare]) (by simp [mm, kR_X6_prepare]) (by simp [mm, kR_X6_prepare]) (by simp [mm, kR_X6_prepare]) (by simp only [mm, kQ_X6_prepare])) (((show Fr (b + 49) (b + 195) m ((X6_prepare_m g m (b + 49) (b + 1) nx)) from ((Fr.rf).tr (fr_X6_prepare g m (b + 49) (b + 1) nx hb.h hn9 hb.f1) (by omega) (by omega))).gI (k := 164) (a := (b + 1)) (by omega)).trans hH) hH4) (by simp only [mm, kK_X6_prepare]; exact hb.f1.k) rfl wd_982 wd_983 wd_984 wd_2 wd_985 ⟨by decide, by decide, (by decide +kernel : (parseMethodDescriptor yX3_newHammer.desc).map (fun d => d.parameters.length) = some 1)⟩ rfl (Nat.le_of_ble_eq_true rfl) ⟨⟨by decide, by decide⟩, by decide, by decide⟩ (fun E m9 h9 => h9.elim) (fun r9 m9 h9 => ?_)
  obtain ⟨rfl, h8⟩ := h9
  replace h8 := h8.symm
  subst h8
  show mV g x _ _ _ _ _ [.int (X3_newHammer_r g ((X6_prepare_m g m (b + 49) (b + 1) nx)) (b + 1) a H), .ref b]
  refine v_callV (z := yX10_settle) (pc := 20) hX dX10_addHammer_20 (c_X10_settle hO ((X3_newHammer_m g ((X6_prepare_m g m (b + 49) (b + 1) nx)) (b + 1) a H)) b (X3_newHammer_r g ((X6_prepare_m g m (b + 49) (b + 1) nx)) (b + 1) a H)  (hb.to (by simp only [mm, kK_X3_newHammer, kK_X6_prepare]) (fun k hk a => by simp [mm, kR_X3_newHammer, kR_X6_prepare, hk]) (by simp only [mm, kQ_X3_newHammer, kQ_X6_prepare]))) (by simp only [mm, kK_X3_newHammer, kK_X6_prepare]; exact hb.k) rfl wd_864 wd_866 wp_2 wd_1 wd_867 ⟨by decide, by decide, (by decide +kernel : (parseMethodDescriptor yX10_settle.desc).map (fun d => d.parameters.length) = some 1)⟩ rfl (Nat.le_of_ble_eq_true rfl) ⟨⟨by decide, by decide⟩, by decide, by decide⟩ (fun E9 m9 h9 => by obtain ⟨hx9, n9, hn9, rfl⟩ := h9; exact v_out hX hZ (by decide) (by decide) ⟨by simp only [X10_addHammer_x, hx9], n9, (by simp only [X10_addHammer_m, hx9]; exact hn9), (by simp only [X10_addHammer_m, hx9])⟩) (fun r9 m9 h9 => ?_)
  obtain ⟨hx1, rfl, h8⟩ := h9
  replace h8 := h8.symm
  subst h8
  show mV g x _ _ _ _ _ [.int (X10_settle_r g ((X3_newHammer_m g ((X6_prepare_m g m (b + 49) (b + 1) nx)) (b + 1) a H)) b (X3_newHammer_r g ((X6_prepare_m g m (b + 49) (b + 1) nx)) (b + 1) a H) )]
  exact v_iret (pc := 23) hX hZ dX10_addHammer_23 (by decide) (by decide) ⟨(by simp only [X10_addHammer_x, hx1]), (by simp only [X10_addHammer_r, hx1]), (by simp only [X10_addHammer_m, hx1])⟩
def X10_hammer_r (g : mG) (m : mM) (b : Nat) (a : Int32) (a2 : Int32) (N : Nat) (H : Nat) (nx : Nat) : Int32 := (match X10_settle_x g ((X3_strike_m g ((X6_prepare_m g m (b + 49) (b + 1) nx)) (b + 1) a a2 N H)) b (X3_strike_r g ((X6_prepare_m g m (b + 49) (b + 1) nx)) (b + 1) a a2 N H)  with | some _ => 0 | none => X10_settle_r g ((X3_strike_m g ((X6_prepare_m g m (b + 49) (b + 1) nx)) (b + 1) a a2 N H)) b (X3_strike_r g ((X6_prepare_m g m (b + 49) (b + 1) nx)) (b + 1) a a2 N H) )
def X10_hammer_m (g : mG) (m : mM) (b : Nat) (a : Int32) (a2 : Int32) (N : Nat) (H : Nat) (nx : Nat) : mM := (match X10_settle_x g ((X3_strike_m g ((X6_prepare_m g m (b + 49) (b + 1) nx)) (b + 1) a a2 N H)) b (X3_strike_r g ((X6_prepare_m g m (b + 49) (b + 1) nx)) (b + 1) a a2 N H)  with | some _ => (X10_settle_m g ((X3_strike_m g ((X6_prepare_m g m (b + 49) (b + 1) nx)) (b + 1) a a2 N H)) b (X3_strike_r g ((X6_prepare_m g m (b + 49) (b + 1) nx)) (b + 1) a a2 N H) ) | none => (X10_settle_m g ((X3_strike_m g ((X6_prepare_m g m (b + 49) (b + 1) nx)) (b + 1) a a2 N H)) b (X3_strike_r g ((X6_prepare_m g m (b + 49) (b + 1) nx)) (b + 1) a a2 N H) ))
def X10_hammer_x (g : mG) (m : mM) (b : Nat) (a : Int32) (a2 : Int32) (N : Nat) (H : Nat) (nx : Nat) : Option String := (match X10_settle_x g ((X3_strike_m g ((X6_prepare_m g m (b + 49) (b + 1) nx)) (b + 1) a a2 N H)) b (X3_strike_r g ((X6_prepare_m g m (b + 49) (b + 1) nx)) (b + 1) a a2 N H)  with | some e9 => some e9 | none => none)
theorem kK_X10_hammer (g : mG) (m : mM) (b : Nat) (a : Int32) (a2 : Int32) (N : Nat) (H : Nat) (nx : Nat) : gK (X10_hammer_m g m b a a2 N H nx) = gK m := by
  unfold X10_hammer_m
  repeat' split
  all_goals simp only [mm, kK_X10_settle, kK_X3_strike, kK_X6_prepare]
theorem kN_X10_hammer (g : mG) (m : mM) (b : Nat) (a : Int32) (a2 : Int32) (N : Nat) (H : Nat) (nx : Nat) : gN (X10_hammer_m g m b a a2 N H nx) = gN m := by
  unfold X10_hammer_m
  repeat' split
  all_goals simp only [mm, kN_X10_settle, kN_X3_strike, kN_X6_prepare]
theorem kI_X10_hammer (g : mG) (m : mM) (b : Nat) (a : Int32) (a2 : Int32) (N : Nat) (H : Nat) (nx : Nat) (k a9 : Nat) (h0 : k ≠ 163) (h1 : k ≠ 164) (h2 : k ≠ 165) (h3 : k ≠ 166) (h4 : k ≠ 167) (h5 : k ≠ 168) (h6 : k ≠ 169) (h7 : k ≠ 170) (h8 : k ≠ 192) (h9 : k ≠ 193) (h10 : k ≠ 194) (h11 : k ≠ 224) (h12 : k ≠ 225) (h13 : k ≠ 257) (h14 : k ≠ 258) (h15 : k ≠ 288) (h16 : k ≠ 289) (h17 : k ≠ 290) (h18 : k ≠ 291) (h19 : k ≠ 292) (h20 : k ≠ 293) (h21 : k ≠ 294) : gI (X10_hammer_m g m b a a2 N H nx) k a9 = gI m k a9 := by
  unfold X10_hammer_m
  repeat' split
  all_goals simp [mm, kI_X10_settle, kI_X3_strike, kI_X6_prepare, h0, h1, h2, h3, h4, h5, h6, h7, h8, h9, h10, h11, h12, h13, h14, h15, h16, h17, h18, h19, h20, h21]
theorem kJ_X10_hammer (g : mG) (m : mM) (b : Nat) (a : Int32) (a2 : Int32) (N : Nat) (H : Nat) (nx : Nat) (k a9 : Nat) (h0 : k ≠ 171) (h1 : k ≠ 195) : gJ (X10_hammer_m g m b a a2 N H nx) k a9 = gJ m k a9 := by
  unfold X10_hammer_m
  repeat' split
  all_goals simp [mm, kJ_X10_settle, kJ_X3_strike, kJ_X6_prepare, h0, h1]
theorem kR_X10_hammer (g : mG) (m : mM) (b : Nat) (a : Int32) (a2 : Int32) (N : Nat) (H : Nat) (nx : Nat) (k a9 : Nat) (h0 : k ≠ 295) : gR (X10_hammer_m g m b a a2 N H nx) k a9 = gR m k a9 := by
  unfold X10_hammer_m
  repeat' split
  all_goals simp [mm, kR_X10_settle, kR_X3_strike, kR_X6_prepare, h0]
theorem kA_X10_hammer (g : mG) (m : mM) (b : Nat) (a : Int32) (a2 : Int32) (N : Nat) (H : Nat) (nx : Nat) : gA (X10_hammer_m g m b a a2 N H nx) = gA m := by
  unfold X10_hammer_m
  repeat' split
  all_goals simp only [mm, kA_X10_settle, kA_X3_strike, kA_X6_prepare]
theorem kQ_X10_hammer (g : mG) (m : mM) (b : Nat) (a : Int32) (a2 : Int32) (N : Nat) (H : Nat) (nx : Nat) : gQ (X10_hammer_m g m b a a2 N H nx) = gQ m := by
  unfold X10_hammer_m
  repeat' split
  all_goals simp only [mm, kQ_X10_settle, kQ_X3_strike, kQ_X6_prepare]
theorem kL_X10_hammer (g : mG) (m : mM) (b : Nat) (a : Int32) (a2 : Int32) (N : Nat) (H : Nat) (nx : Nat) : gL (X10_hammer_m g m b a a2 N H nx) = gL m := by
  unfold X10_hammer_m
  repeat' split
  all_goals simp only [mm, kL_X10_settle, kL_X3_strike, kL_X6_prepare]
theorem kD_X10_hammer (g : mG) (m : mM) (b : Nat) (a : Int32) (a2 : Int32) (N : Nat) (H : Nat) (nx : Nat) : gD (X10_hammer_m g m b a a2 N H nx) = gD m := by
  unfold X10_hammer_m
  repeat' split
  all_goals simp only [mm, kD_X10_settle, kD_X3_strike, kD_X6_prepare]
set_option maxHeartbeats 4000000 in
set_option maxRecDepth 100000 in
theorem c_X10_hammer {l : Launch} {g : mG} (hO : mO l g) (m : mM) (b : Nat) (a : Int32) (a2 : Int32) (N : Nat) (H : Nat) (nx : Nat) (hb : SB m b) (hN : gI m 163 (b + 1) = nI N) (hN8 : N ≤ 8) (hH : gI m 164 (b + 1) = nI H) (hH4 : H ≤ 4) (hn : gI m 257 (b + 49) = nI nx) (hn9 : nx < 9) : mT l g yX10_hammer (.code yX10_hammer cX10_hammer 3 (Option.some FieldType.int)) 7 111 1 6 [.ref b, .int a, .int a2] m (fun r m' => X10_hammer_x g m b a a2 N H nx = none ∧ r = some (.int (X10_hammer_r g m b a a2 N H nx)) ∧ m' = X10_hammer_m g m b a a2 N H nx) (fun E9 m9 => X10_hammer_x g m b a a2 N H nx = some E9 ∧ ∃ n9, gN (X10_hammer_m g m b a a2 N H nx) ≤ n9 ∧ m9 = sN (X10_hammer_m g m b a a2 N H nx) n9) := by
  refine mT_of hO (by decide) (Nat.le_of_ble_eq_true rfl) (fun x hX hZ => ?_)
  show mV g x m 0 0 0 [(0, .ref b), (1, .int a), (2, .int a2)] []
  refine v_aload_n (pc := 0) hX dX10_hammer_0 rfl ?_
  refine v_get (v := .ref (b + 49)) (pc := 1) hX dX10_hammer_1 hb.k (ci := 11) (r := vwC11) rfl 3 (by decide) wd_309 (fvR hb.r3) ?_
  refine v_aload_n (pc := 4) hX dX10_hammer_4 rfl ?_
  refine v_get (v := .ref (b + 1)) (pc := 5) hX dX10_hammer_5 hb.k (ci := 11) (r := vwC11) rfl 0 (by decide) wd_306 (fvR hb.r0) ?_
  refine v_callV (z := yX6_prepare) (pc := 8) hX dX10_hammer_8 (c_X6_prepare hO m (b + 49) (b + 1) nx hb.h hn hn9 hb.f1) hb.h.k rfl wd_855 wd_856 wd_857 wd_8 wd_858 ⟨by decide, by decide, (by decide +kernel : (parseMethodDescriptor yX6_prepare.desc).map (fun d => d.parameters.length) = some 1)⟩ rfl (Nat.le_of_ble_eq_true rfl) ⟨⟨by decide, by decide⟩, by decide, by decide⟩ (fun E m9 h9 => h9.elim) (fun r9 m9 h9 => ?_)
  obtain ⟨rfl, h8⟩ := h9
  replace h8 := h8.symm
  subst h8
  show mV g x _ _ _ _ _ []
  refine v_aload_n (pc := 11) hX dX10_hammer_11 rfl ?_
  refine v_aload_n (pc := 12) hX dX10_hammer_12 rfl ?_
  refine v_get (v := .ref (b + 1)) (pc := 13) hX dX10_hammer_13 (by simp only [mm, kK_X6_prepare]; exact hb.k) (ci := 11) (r := vwC11) rfl 0 (by decide) wd_306 (fvR (by simp [mm, kR_X6_prepare, hb.r0])) ?_
  refine v_iload_n (pc := 16) hX dX10_hammer_16 rfl ?_
  refine v_iload_n (pc := 17) hX dX10_hammer_17 rfl ?_
  refine v_callV (z := yX3_strike) (pc := 18) hX dX10_hammer_18 (c_X3_strike hO ((X6_prepare_m g m (b + 49) (b + 1) nx)) (b + 1) a a2 N H (hb.f1.to (by simp only [mm, kK_X6_prepare]) (by simp [mm, kR_X6_prepare]) (by simp [mm, kR_X6_prepare]) (by simp [mm, kR_X6_prepare]) (by simp only [mm, kQ_X6_prepare])) (((show Fr (b + 49) (b + 195) m ((X6_prepare_m g m (b + 49) (b + 1) nx)) from ((Fr.rf).tr (fr_X6_prepare g m (b + 49) (b + 1) nx hb.h hn9 hb.f1) (by omega) (by omega))).gI (k := 163) (a := (b + 1)) (by omega)).trans hN) hN8 (((show Fr (b + 49) (b + 195) m ((X6_prepare_m g m (b + 49) (b + 1) nx)) from ((Fr.rf).tr (fr_X6_prepare g m (b + 49) (b + 1) nx hb.h hn9 hb.f1) (by omega) (by omega))).gI (k := 164) (a := (b + 1)) (by omega)).trans hH) hH4) (by simp only [mm, kK_X6_prepare]; exact hb.f1.k) rfl wd_1026 wd_1027 wd_1028 wd_2 wd_1029 ⟨by decide, by decide, (by decide +kernel : (parseMethodDescriptor yX3_strike.desc).map (fun d => d.parameters.length) = some 2)⟩ rfl (Nat.le_of_ble_eq_true rfl) ⟨⟨by decide, by decide⟩, by decide, by decide⟩ (fun E m9 h9 => h9.elim) (fun r9 m9 h9 => ?_)
  obtain ⟨rfl, h8⟩ := h9
  replace h8 := h8.symm
  subst h8
  show mV g x _ _ _ _ _ [.int (X3_strike_r g ((X6_prepare_m g m (b + 49) (b + 1) nx)) (b + 1) a a2 N H), .ref b]
  refine v_callV (z := yX10_settle) (pc := 21) hX dX10_hammer_21 (c_X10_settle hO ((X3_strike_m g ((X6_prepare_m g m (b + 49) (b + 1) nx)) (b + 1) a a2 N H)) b (X3_strike_r g ((X6_prepare_m g m (b + 49) (b + 1) nx)) (b + 1) a a2 N H)  (hb.to (by simp only [mm, kK_X3_strike, kK_X6_prepare]) (fun k hk a => by simp [mm, kR_X3_strike, kR_X6_prepare, hk]) (by simp only [mm, kQ_X3_strike, kQ_X6_prepare]))) (by simp only [mm, kK_X3_strike, kK_X6_prepare]; exact hb.k) rfl wd_864 wd_866 wp_2 wd_1 wd_867 ⟨by decide, by decide, (by decide +kernel : (parseMethodDescriptor yX10_settle.desc).map (fun d => d.parameters.length) = some 1)⟩ rfl (Nat.le_of_ble_eq_true rfl) ⟨⟨by decide, by decide⟩, by decide, by decide⟩ (fun E9 m9 h9 => by obtain ⟨hx9, n9, hn9, rfl⟩ := h9; exact v_out hX hZ (by decide) (by decide) ⟨by simp only [X10_hammer_x, hx9], n9, (by simp only [X10_hammer_m, hx9]; exact hn9), (by simp only [X10_hammer_m, hx9])⟩) (fun r9 m9 h9 => ?_)
  obtain ⟨hx1, rfl, h8⟩ := h9
  replace h8 := h8.symm
  subst h8
  show mV g x _ _ _ _ _ [.int (X10_settle_r g ((X3_strike_m g ((X6_prepare_m g m (b + 49) (b + 1) nx)) (b + 1) a a2 N H)) b (X3_strike_r g ((X6_prepare_m g m (b + 49) (b + 1) nx)) (b + 1) a a2 N H) )]
  exact v_iret (pc := 24) hX hZ dX10_hammer_24 (by decide) (by decide) ⟨(by simp only [X10_hammer_x, hx1]), (by simp only [X10_hammer_r, hx1]), (by simp only [X10_hammer_m, hx1])⟩
def X10_assemble_r (g : mG) (m : mM) (b : Nat) (a : Int32) (a2 : Int32) (a3 : Int32) (a4 : Int32) (N : Nat) (nx : Nat) : Int32 := (match X10_settle_x g ((X3_join_m g ((X6_prepare_m g m (b + 49) (b + 1) nx)) (b + 1) a a2 a3 a4 N)) b (X3_join_r g ((X6_prepare_m g m (b + 49) (b + 1) nx)) (b + 1) a a2 a3 a4 N)  with | some _ => 0 | none => X10_settle_r g ((X3_join_m g ((X6_prepare_m g m (b + 49) (b + 1) nx)) (b + 1) a a2 a3 a4 N)) b (X3_join_r g ((X6_prepare_m g m (b + 49) (b + 1) nx)) (b + 1) a a2 a3 a4 N) )
def X10_assemble_m (g : mG) (m : mM) (b : Nat) (a : Int32) (a2 : Int32) (a3 : Int32) (a4 : Int32) (N : Nat) (nx : Nat) : mM := (match X10_settle_x g ((X3_join_m g ((X6_prepare_m g m (b + 49) (b + 1) nx)) (b + 1) a a2 a3 a4 N)) b (X3_join_r g ((X6_prepare_m g m (b + 49) (b + 1) nx)) (b + 1) a a2 a3 a4 N)  with | some _ => (X10_settle_m g ((X3_join_m g ((X6_prepare_m g m (b + 49) (b + 1) nx)) (b + 1) a a2 a3 a4 N)) b (X3_join_r g ((X6_prepare_m g m (b + 49) (b + 1) nx)) (b + 1) a a2 a3 a4 N) ) | none => (X10_settle_m g ((X3_join_m g ((X6_prepare_m g m (b + 49) (b + 1) nx)) (b + 1) a a2 a3 a4 N)) b (X3_join_r g ((X6_prepare_m g m (b + 49) (b + 1) nx)) (b + 1) a a2 a3 a4 N) ))
def X10_assemble_x (g : mG) (m : mM) (b : Nat) (a : Int32) (a2 : Int32) (a3 : Int32) (a4 : Int32) (N : Nat) (nx : Nat) : Option String := (match X10_settle_x g ((X3_join_m g ((X6_prepare_m g m (b + 49) (b + 1) nx)) (b + 1) a a2 a3 a4 N)) b (X3_join_r g ((X6_prepare_m g m (b + 49) (b + 1) nx)) (b + 1) a a2 a3 a4 N)  with | some e9 => some e9 | none => none)
theorem kK_X10_assemble (g : mG) (m : mM) (b : Nat) (a : Int32) (a2 : Int32) (a3 : Int32) (a4 : Int32) (N : Nat) (nx : Nat) : gK (X10_assemble_m g m b a a2 a3 a4 N nx) = gK m := by
  unfold X10_assemble_m
  repeat' split
  all_goals simp only [mm, kK_X10_settle, kK_X3_join, kK_X6_prepare]
theorem kN_X10_assemble (g : mG) (m : mM) (b : Nat) (a : Int32) (a2 : Int32) (a3 : Int32) (a4 : Int32) (N : Nat) (nx : Nat) : gN (X10_assemble_m g m b a a2 a3 a4 N nx) = gN m := by
  unfold X10_assemble_m
  repeat' split
  all_goals simp only [mm, kN_X10_settle, kN_X3_join, kN_X6_prepare]
theorem kI_X10_assemble (g : mG) (m : mM) (b : Nat) (a : Int32) (a2 : Int32) (a3 : Int32) (a4 : Int32) (N : Nat) (nx : Nat) (k a9 : Nat) (h0 : k ≠ 163) (h1 : k ≠ 164) (h2 : k ≠ 165) (h3 : k ≠ 166) (h4 : k ≠ 167) (h5 : k ≠ 168) (h6 : k ≠ 169) (h7 : k ≠ 170) (h8 : k ≠ 192) (h9 : k ≠ 193) (h10 : k ≠ 194) (h11 : k ≠ 224) (h12 : k ≠ 225) (h13 : k ≠ 257) (h14 : k ≠ 258) (h15 : k ≠ 288) (h16 : k ≠ 289) (h17 : k ≠ 290) (h18 : k ≠ 291) (h19 : k ≠ 292) (h20 : k ≠ 293) (h21 : k ≠ 294) : gI (X10_assemble_m g m b a a2 a3 a4 N nx) k a9 = gI m k a9 := by
  unfold X10_assemble_m
  repeat' split
  all_goals simp [mm, kI_X10_settle, kI_X3_join, kI_X6_prepare, h0, h1, h2, h3, h4, h5, h6, h7, h8, h9, h10, h11, h12, h13, h14, h15, h16, h17, h18, h19, h20, h21]
theorem kJ_X10_assemble (g : mG) (m : mM) (b : Nat) (a : Int32) (a2 : Int32) (a3 : Int32) (a4 : Int32) (N : Nat) (nx : Nat) (k a9 : Nat) (h0 : k ≠ 171) (h1 : k ≠ 195) : gJ (X10_assemble_m g m b a a2 a3 a4 N nx) k a9 = gJ m k a9 := by
  unfold X10_assemble_m
  repeat' split
  all_goals simp [mm, kJ_X10_settle, kJ_X3_join, kJ_X6_prepare, h0, h1]
theorem kR_X10_assemble (g : mG) (m : mM) (b : Nat) (a : Int32) (a2 : Int32) (a3 : Int32) (a4 : Int32) (N : Nat) (nx : Nat) (k a9 : Nat) (h0 : k ≠ 295) : gR (X10_assemble_m g m b a a2 a3 a4 N nx) k a9 = gR m k a9 := by
  unfold X10_assemble_m
  repeat' split
  all_goals simp [mm, kR_X10_settle, kR_X3_join, kR_X6_prepare, h0]
theorem kA_X10_assemble (g : mG) (m : mM) (b : Nat) (a : Int32) (a2 : Int32) (a3 : Int32) (a4 : Int32) (N : Nat) (nx : Nat) : gA (X10_assemble_m g m b a a2 a3 a4 N nx) = gA m := by
  unfold X10_assemble_m
  repeat' split
  all_goals simp only [mm, kA_X10_settle, kA_X3_join, kA_X6_prepare]
theorem kL_X10_assemble (g : mG) (m : mM) (b : Nat) (a : Int32) (a2 : Int32) (a3 : Int32) (a4 : Int32) (N : Nat) (nx : Nat) : gL (X10_assemble_m g m b a a2 a3 a4 N nx) = gL m := by
  unfold X10_assemble_m
  repeat' split
  all_goals simp only [mm, kL_X10_settle, kL_X3_join, kL_X6_prepare]
theorem kD_X10_assemble (g : mG) (m : mM) (b : Nat) (a : Int32) (a2 : Int32) (a3 : Int32) (a4 : Int32) (N : Nat) (nx : Nat) : gD (X10_assemble_m g m b a a2 a3 a4 N nx) = gD m := by
  unfold X10_assemble_m
  repeat' split
  all_goals simp only [mm, kD_X10_settle, kD_X3_join, kD_X6_prepare]
set_option maxHeartbeats 4000000 in
set_option maxRecDepth 100000 in
theorem c_X10_assemble {l : Launch} {g : mG} (hO : mO l g) (m : mM) (b : Nat) (a : Int32) (a2 : Int32) (a3 : Int32) (a4 : Int32) (N : Nat) (nx : Nat) (hb : SB m b) (hN : gI m 163 (b + 1) = nI N) (hN8 : N ≤ 8) (hn : gI m 257 (b + 49) = nI nx) (hn9 : nx < 9) : mT l g yX10_assemble (.code yX10_assemble cX10_assemble 5 (Option.some FieldType.int)) 7 111 1 6 [.ref b, .int a, .int a2, .int a3, .int a4] m (fun r m' => X10_assemble_x g m b a a2 a3 a4 N nx = none ∧ r = some (.int (X10_assemble_r g m b a a2 a3 a4 N nx)) ∧ m' = X10_assemble_m g m b a a2 a3 a4 N nx) (fun E9 m9 => X10_assemble_x g m b a a2 a3 a4 N nx = some E9 ∧ ∃ n9, gN (X10_assemble_m g m b a a2 a3 a4 N nx) ≤ n9 ∧ m9 = sN (X10_assemble_m g m b a a2 a3 a4 N nx) n9) := by
  refine mT_of hO (by decide) (Nat.le_of_ble_eq_true rfl) (fun x hX hZ => ?_)
  show mV g x m 0 0 0 [(0, .ref b), (1, .int a), (2, .int a2), (3, .int a3), (4, .int a4)] []
  refine v_aload_n (pc := 0) hX dX10_assemble_0 rfl ?_
  refine v_get (v := .ref (b + 49)) (pc := 1) hX dX10_assemble_1 hb.k (ci := 11) (r := vwC11) rfl 3 (by decide) wd_309 (fvR hb.r3) ?_
  refine v_aload_n (pc := 4) hX dX10_assemble_4 rfl ?_
  refine v_get (v := .ref (b + 1)) (pc := 5) hX dX10_assemble_5 hb.k (ci := 11) (r := vwC11) rfl 0 (by decide) wd_306 (fvR hb.r0) ?_
  refine v_callV (z := yX6_prepare) (pc := 8) hX dX10_assemble_8 (c_X6_prepare hO m (b + 49) (b + 1) nx hb.h hn hn9 hb.f1) hb.h.k rfl wd_855 wd_856 wd_857 wd_8 wd_858 ⟨by decide, by decide, (by decide +kernel : (parseMethodDescriptor yX6_prepare.desc).map (fun d => d.parameters.length) = some 1)⟩ rfl (Nat.le_of_ble_eq_true rfl) ⟨⟨by decide, by decide⟩, by decide, by decide⟩ (fun E m9 h9 => h9.elim) (fun r9 m9 h9 => ?_)
  obtain ⟨rfl, h8⟩ := h9
  replace h8 := h8.symm
  subst h8
  show mV g x _ _ _ _ _ []
  refine v_aload_n (pc := 11) hX dX10_assemble_11 rfl ?_
  refine v_aload_n (pc := 12) hX dX10_assemble_12 rfl ?_
  refine v_get (v := .ref (b + 1)) (pc := 13) hX dX10_assemble_13 (by simp only [mm, kK_X6_prepare]; exact hb.k) (ci := 11) (r := vwC11) rfl 0 (by decide) wd_306 (fvR (by simp [mm, kR_X6_prepare, hb.r0])) ?_
  refine v_iload_n (pc := 16) hX dX10_assemble_16 rfl ?_
  refine v_iload_n (pc := 17) hX dX10_assemble_17 rfl ?_
  refine v_iload_n (pc := 18) hX dX10_assemble_18 rfl ?_
  refine v_iload (pc := 19) hX dX10_assemble_19 rfl ?_
  refine v_callV (z := yX3_join) (pc := 21) hX dX10_assemble_21 (c_X3_join hO ((X6_prepare_m g m (b + 49) (b + 1) nx)) (b + 1) a a2 a3 a4 N (hb.f1.to (by simp only [mm, kK_X6_prepare]) (by simp [mm, kR_X6_prepare]) (by simp [mm, kR_X6_prepare]) (by simp [mm, kR_X6_prepare]) (by simp only [mm, kQ_X6_prepare])) (((show Fr (b + 49) (b + 195) m ((X6_prepare_m g m (b + 49) (b + 1) nx)) from ((Fr.rf).tr (fr_X6_prepare g m (b + 49) (b + 1) nx hb.h hn9 hb.f1) (by omega) (by omega))).gI (k := 163) (a := (b + 1)) (by omega)).trans hN) hN8) (by simp only [mm, kK_X6_prepare]; exact hb.f1.k) rfl wd_1084 wd_1085 wd_1086 wd_2 wd_1087 ⟨by decide, by decide, (by decide +kernel : (parseMethodDescriptor yX3_join.desc).map (fun d => d.parameters.length) = some 4)⟩ rfl (Nat.le_of_ble_eq_true rfl) ⟨⟨by decide, by decide⟩, by decide, by decide⟩ (fun E m9 h9 => h9.elim) (fun r9 m9 h9 => ?_)
  obtain ⟨rfl, h8⟩ := h9
  replace h8 := h8.symm
  subst h8
  show mV g x _ _ _ _ _ [.int (X3_join_r g ((X6_prepare_m g m (b + 49) (b + 1) nx)) (b + 1) a a2 a3 a4 N), .ref b]
  refine v_callV (z := yX10_settle) (pc := 24) hX dX10_assemble_24 (c_X10_settle hO ((X3_join_m g ((X6_prepare_m g m (b + 49) (b + 1) nx)) (b + 1) a a2 a3 a4 N)) b (X3_join_r g ((X6_prepare_m g m (b + 49) (b + 1) nx)) (b + 1) a a2 a3 a4 N)  (SB.f1r (hb.to (by simp only [mm, kK_X6_prepare]) (fun k hk a => by simp [mm, kR_X6_prepare, hk]) (by simp only [mm, kQ_X6_prepare])) (fr_X3_join g (X6_prepare_m g m (b + 49) (b + 1) nx) (b + 1) a a2 a3 a4 N (hb.f1.to (by simp only [mm, kK_X6_prepare]) (by simp [mm, kR_X6_prepare]) (by simp [mm, kR_X6_prepare]) (by simp [mm, kR_X6_prepare]) (by simp only [mm, kQ_X6_prepare])) hN8) (SF_join (hb.f1.to (by simp only [mm, kK_X6_prepare]) (by simp [mm, kR_X6_prepare]) (by simp [mm, kR_X6_prepare]) (by simp [mm, kR_X6_prepare]) (by simp only [mm, kQ_X6_prepare])) hN8))) (by simp only [mm, kK_X3_join, kK_X6_prepare]; exact hb.k) rfl wd_864 wd_866 wp_2 wd_1 wd_867 ⟨by decide, by decide, (by decide +kernel : (parseMethodDescriptor yX10_settle.desc).map (fun d => d.parameters.length) = some 1)⟩ rfl (Nat.le_of_ble_eq_true rfl) ⟨⟨by decide, by decide⟩, by decide, by decide⟩ (fun E9 m9 h9 => by obtain ⟨hx9, n9, hn9, rfl⟩ := h9; exact v_out hX hZ (by decide) (by decide) ⟨by simp only [X10_assemble_x, hx9], n9, (by simp only [X10_assemble_m, hx9]; exact hn9), (by simp only [X10_assemble_m, hx9])⟩) (fun r9 m9 h9 => ?_)
  obtain ⟨hx1, rfl, h8⟩ := h9
  replace h8 := h8.symm
  subst h8
  show mV g x _ _ _ _ _ [.int (X10_settle_r g ((X3_join_m g ((X6_prepare_m g m (b + 49) (b + 1) nx)) (b + 1) a a2 a3 a4 N)) b (X3_join_r g ((X6_prepare_m g m (b + 49) (b + 1) nx)) (b + 1) a a2 a3 a4 N) )]
  exact v_iret (pc := 27) hX hZ dX10_assemble_27 (by decide) (by decide) ⟨(by simp only [X10_assemble_x, hx1]), (by simp only [X10_assemble_r, hx1]), (by simp only [X10_assemble_m, hx1])⟩
