/-! THE REFERENCE at r: its rows r+1 .. r+11 -/
def SR (m : mM) (r : Nat) : Prop := gK m r = some (.inl 12) ∧ gR m 389 r = some (r + 1) ∧ gR m 390 r = some (r + 2) ∧ gR m 391 r = some (r + 3) ∧ gR m 392 r = some (r + 4) ∧ gR m 393 r = some (r + 5) ∧ gR m 394 r = some (r + 6) ∧ gR m 395 r = some (r + 7) ∧ gR m 396 r = some (r + 8) ∧ gR m 397 r = some (r + 9) ∧ gR m 398 r = some (r + 10) ∧ gR m 399 r = some (r + 11) ∧ gK m (r + 1) = some (.inr (0, 85)) ∧ gK m (r + 2) = some (.inr (0, 85)) ∧ gK m (r + 3) = some (.inr (0, 85)) ∧ gK m (r + 4) = some (.inr (0, 680)) ∧ gK m (r + 5) = some (.inr (0, 16)) ∧ gK m (r + 6) = some (.inr (0, 60)) ∧ gK m (r + 7) = some (.inr (0, 50)) ∧ gK m (r + 8) = some (.inr (0, 12)) ∧ gK m (r + 9) = some (.inr (0, 4)) ∧ gK m (r + 10) = some (.inr (0, 66)) ∧ gK m (r + 11) = some (.inr (0, 13))
theorem SR.k {m : mM} {r : Nat} (s : SR m r) : gK m r = some (.inl 12) := s.1
theorem SR.r1 {m : mM} {r : Nat} (s : SR m r) : gR m 389 r = some (r + 1) := s.2.1
theorem SR.r2 {m : mM} {r : Nat} (s : SR m r) : gR m 390 r = some (r + 2) := s.2.2.1
theorem SR.r3 {m : mM} {r : Nat} (s : SR m r) : gR m 391 r = some (r + 3) := s.2.2.2.1
theorem SR.r4 {m : mM} {r : Nat} (s : SR m r) : gR m 392 r = some (r + 4) := s.2.2.2.2.1
theorem SR.r5 {m : mM} {r : Nat} (s : SR m r) : gR m 393 r = some (r + 5) := s.2.2.2.2.2.1
theorem SR.r6 {m : mM} {r : Nat} (s : SR m r) : gR m 394 r = some (r + 6) := s.2.2.2.2.2.2.1
theorem SR.r7 {m : mM} {r : Nat} (s : SR m r) : gR m 395 r = some (r + 7) := s.2.2.2.2.2.2.2.1
theorem SR.r8 {m : mM} {r : Nat} (s : SR m r) : gR m 396 r = some (r + 8) := s.2.2.2.2.2.2.2.2.1
theorem SR.r9 {m : mM} {r : Nat} (s : SR m r) : gR m 397 r = some (r + 9) := s.2.2.2.2.2.2.2.2.2.1
theorem SR.r10 {m : mM} {r : Nat} (s : SR m r) : gR m 398 r = some (r + 10) := s.2.2.2.2.2.2.2.2.2.2.1
theorem SR.r11 {m : mM} {r : Nat} (s : SR m r) : gR m 399 r = some (r + 11) := s.2.2.2.2.2.2.2.2.2.2.2.1
theorem SR.k1 {m : mM} {r : Nat} (s : SR m r) : gK m (r + 1) = some (.inr (0, 85)) := s.2.2.2.2.2.2.2.2.2.2.2.2.1
theorem SR.k2 {m : mM} {r : Nat} (s : SR m r) : gK m (r + 2) = some (.inr (0, 85)) := s.2.2.2.2.2.2.2.2.2.2.2.2.2.1
theorem SR.k3 {m : mM} {r : Nat} (s : SR m r) : gK m (r + 3) = some (.inr (0, 85)) := s.2.2.2.2.2.2.2.2.2.2.2.2.2.2.1
theorem SR.k4 {m : mM} {r : Nat} (s : SR m r) : gK m (r + 4) = some (.inr (0, 680)) := s.2.2.2.2.2.2.2.2.2.2.2.2.2.2.2.1
theorem SR.k5 {m : mM} {r : Nat} (s : SR m r) : gK m (r + 5) = some (.inr (0, 16)) := s.2.2.2.2.2.2.2.2.2.2.2.2.2.2.2.2.1
theorem SR.k6 {m : mM} {r : Nat} (s : SR m r) : gK m (r + 6) = some (.inr (0, 60)) := s.2.2.2.2.2.2.2.2.2.2.2.2.2.2.2.2.2.1
theorem SR.k7 {m : mM} {r : Nat} (s : SR m r) : gK m (r + 7) = some (.inr (0, 50)) := s.2.2.2.2.2.2.2.2.2.2.2.2.2.2.2.2.2.2.1
theorem SR.k8 {m : mM} {r : Nat} (s : SR m r) : gK m (r + 8) = some (.inr (0, 12)) := s.2.2.2.2.2.2.2.2.2.2.2.2.2.2.2.2.2.2.2.1
theorem SR.k9 {m : mM} {r : Nat} (s : SR m r) : gK m (r + 9) = some (.inr (0, 4)) := s.2.2.2.2.2.2.2.2.2.2.2.2.2.2.2.2.2.2.2.2.1
theorem SR.k10 {m : mM} {r : Nat} (s : SR m r) : gK m (r + 10) = some (.inr (0, 66)) := s.2.2.2.2.2.2.2.2.2.2.2.2.2.2.2.2.2.2.2.2.2.1
theorem SR.k11 {m : mM} {r : Nat} (s : SR m r) : gK m (r + 11) = some (.inr (0, 13)) := s.2.2.2.2.2.2.2.2.2.2.2.2.2.2.2.2.2.2.2.2.2.2
theorem SR.to {m m1 : mM} {r : Nat} (s : SR m r) (hk : gK m1 = gK m) (hr : gR m1 = gR m) : SR m1 r := by
  unfold SR at s ⊢
  rw [hk, hr]
  exact s
section
variable {m : mM} {a b i j k : Nat} {v : Int32}
theorem gA_y : gA (sA m a i v) a i = v := by simp [mm]
theorem gA_n (h : b ≠ a ∨ j ≠ i) : gA (sA m a i v) b j = gA m b j := by
  simp only [mm]
  rw [if_neg (fun q => by rcases h with h | h; exact h q.1; exact h q.2)]
end
theorem ix_t0 {a : Int32} {q : Nat} (h : a = nI q) : 77 + 2 * a = nI (2 * q + 77) := by
  subst h
  show nI 77 + nI 2 * nI q = _
  rw [show nI 2 * nI q = nI (2 * q) from (Int32.ofNat_mul 2 q).symm, nI_add]
  congr 1
  omega
theorem ix_t1 {a : Int32} {q : Nat} (h : a = nI q) : 77 + 2 * a + 1 = nI (2 * q + 78) := by
  rw [ix_t0 h, nI_1]
theorem ix_of (p k : Nat) : 13 + 8 * nI p + nI k = nI (8 * p + (13 + k)) := by
  show nI 13 + nI 8 * nI p + nI k = _
  rw [show nI 8 * nI p = nI (8 * p) from (Int32.ofNat_mul 8 p).symm, nI_add, nI_add]
  congr 1
  omega
theorem ix_pl (j k : Nat) : nI j + nI k = nI (j + k) := nI_add j k
theorem ix_ml (c k : Nat) : nI c * nI k = nI (c * k) := (Int32.ofNat_mul c k).symm
theorem ix_c (c k : Nat) : nI c * 85 + nI k = nI (c * 85 + k) := by
  show nI c * nI 85 + nI k = _
  rw [ix_ml, nI_add]
def X11_isIn_r (g : mG) (m : mM) (a : Int32) (b : Int32) (c : Int32)  : Int32 := if a < b then 0 else (if c < a then 0 else 1)

set_option maxHeartbeats 4000000 in
set_option maxRecDepth 100000 in
theorem c_X11_isIn {l : Launch} {g : mG} (hO : mO l g) (m : mM) (a : Int32) (b : Int32) (c : Int32)   : mT l g yX11_isIn (.code yX11_isIn cX11_isIn 3 (Option.some FieldType.boolean)) 1 20 0 0 [.int a, .int b, .int c] m (fun u m' => u = some (.int (X11_isIn_r g m a b c )) ∧ m' = m) nX := by
  refine mT_of hO (by decide) (Nat.le_of_ble_eq_true rfl) (fun x hX hZ => ?_)
  show mV g x m 0 0 0 [(0, .int a), (1, .int b), (2, .int c)] []
  refine v_iload_n (pc := 0) hX dX11_isIn_0 rfl ?_
  refine v_iload_n (pc := 1) hX dX11_isIn_1 rfl ?_
  refine v_icmp_lt (tgt := 14) (pc := 2) hX dX11_isIn_2 (by decide) (fun c1 => ?_) (fun c1 => ?_)
  ·
    refine v_iconst (v := 0) (pc := 14) hX dX11_isIn_14 (by decide) ?_
    exact v_zret (pc := 15) hX hZ dX11_isIn_15 rfl (by decide) (by decide) ⟨(by rw [X11_isIn_r, if_pos c1]), rfl⟩
  ·
    refine v_iload_n (pc := 5) hX dX11_isIn_5 rfl ?_
    refine v_iload_n (pc := 6) hX dX11_isIn_6 rfl ?_
    refine v_icmp_gt (tgt := 14) (pc := 7) hX dX11_isIn_7 (by decide) (fun c2 => ?_) (fun c2 => ?_)
    ·
      refine v_iconst (v := 0) (pc := 14) hX dX11_isIn_14 (by decide) ?_
      exact v_zret (pc := 15) hX hZ dX11_isIn_15 rfl (by decide) (by decide) ⟨(by rw [X11_isIn_r, if_neg c1, if_pos c2]), rfl⟩
    ·
      refine v_iconst (v := 1) (pc := 10) hX dX11_isIn_10 (by decide) ?_
      refine v_goto (tgt := 15) (pc := 11) hX dX11_isIn_11 (by decide) ?_
      exact v_zret (pc := 15) hX hZ dX11_isIn_15 rfl (by decide) (by decide) ⟨(by rw [X11_isIn_r, if_neg c1, if_neg c2]), rfl⟩
def isI (a : Int32) (b : Int32) (c : Int32)  : Int32 := if a < b then 0 else (if c < a then 0 else 1)
theorem c_isI {l : Launch} {g : mG} (hO : mO l g) (m : mM) (a : Int32) (b : Int32) (c : Int32)  : mT l g yX11_isIn (.code yX11_isIn cX11_isIn 3 (Option.some FieldType.boolean)) 1 20 0 0 [.int a, .int b, .int c] m (fun r m' => r = some (.int (isI a b c)) ∧ m' = m) nX := c_X11_isIn hO m a b c
theorem isI_n (a b c : Int32) : narrow .boolean (.int (isI a b c)) = .int (isI a b c) := by
  unfold isI
  repeat' split
  all_goals rfl
def X11_later_r (g : mG) (m : mM) (a : Int32) (b : Int32) (c : Int32)  : Int32 := if b = 0 then (a - ((a - 20) / 8)) else (if c ≤ a then (a - ((a - c) / 4)) else (a + ((c - a) / 4)))

set_option maxHeartbeats 4000000 in
set_option maxRecDepth 100000 in
theorem c_X11_later {l : Launch} {g : mG} (hO : mO l g) (m : mM) (a : Int32) (b : Int32) (c : Int32)   : mT l g yX11_later (.code yX11_later cX11_later 3 (Option.some FieldType.int)) 1 20 0 0 [.int a, .int b, .int c] m (fun u m' => u = some (.int (X11_later_r g m a b c )) ∧ m' = m) nX := by
  refine mT_of hO (by decide) (Nat.le_of_ble_eq_true rfl) (fun x hX hZ => ?_)
  show mV g x m 0 0 0 [(0, .int a), (1, .int b), (2, .int c)] []
  refine v_iload_n (pc := 0) hX dX11_later_0 rfl ?_
  refine v_if_ne (tgt := 14) (pc := 1) hX dX11_later_1 (by decide) (fun c1 => ?_) (fun c1 => ?_)
  ·
    refine v_iload_n (pc := 14) hX dX11_later_14 rfl ?_
    refine v_iload_n (pc := 15) hX dX11_later_15 rfl ?_
    refine v_icmp_le (tgt := 29) (pc := 16) hX dX11_later_16 (by decide) (fun c2 => ?_) (fun c2 => ?_)
    ·
      refine v_iload_n (pc := 29) hX dX11_later_29 rfl ?_
      refine v_iload_n (pc := 30) hX dX11_later_30 rfl ?_
      refine v_iload_n (pc := 31) hX dX11_later_31 rfl ?_
      refine v_isub (pc := 32) hX dX11_later_32 ?_
      refine v_iconst (v := 4) (pc := 33) hX dX11_later_33 (by decide) ?_
      refine v_idiv (pc := 34) hX dX11_later_34 (by decide) ?_
      refine v_isub (pc := 35) hX dX11_later_35 ?_
      exact v_iret (pc := 36) hX hZ dX11_later_36 (by decide) (by decide) ⟨(by rw [X11_later_r, if_neg c1, if_pos c2]), rfl⟩
    ·
      refine v_iload_n (pc := 19) hX dX11_later_19 rfl ?_
      refine v_iload_n (pc := 20) hX dX11_later_20 rfl ?_
      refine v_iload_n (pc := 21) hX dX11_later_21 rfl ?_
      refine v_isub (pc := 22) hX dX11_later_22 ?_
      refine v_iconst (v := 4) (pc := 23) hX dX11_later_23 (by decide) ?_
      refine v_idiv (pc := 24) hX dX11_later_24 (by decide) ?_
      refine v_iadd (pc := 25) hX dX11_later_25 ?_
      refine v_goto (tgt := 36) (pc := 26) hX dX11_later_26 (by decide) ?_
      exact v_iret (pc := 36) hX hZ dX11_later_36 (by decide) (by decide) ⟨(by rw [X11_later_r, if_neg c1, if_neg c2]), rfl⟩
  ·
    refine v_iload_n (pc := 4) hX dX11_later_4 rfl ?_
    refine v_iload_n (pc := 5) hX dX11_later_5 rfl ?_
    refine v_bipush (v := 20) (pc := 6) hX dX11_later_6 (by decide) ?_
    refine v_isub (pc := 8) hX dX11_later_8 ?_
    refine v_bipush (v := 8) (pc := 9) hX dX11_later_9 (by decide) ?_
    refine v_idiv (pc := 11) hX dX11_later_11 (by decide) ?_
    refine v_isub (pc := 12) hX dX11_later_12 ?_
    exact v_iret (pc := 13) hX hZ dX11_later_13 (by decide) (by decide) ⟨(by rw [X11_later_r, if_pos c1]), rfl⟩
def lat (a : Int32) (b : Int32) (c : Int32)  : Int32 := if b = 0 then (a - ((a - 20) / 8)) else (if c ≤ a then (a - ((a - c) / 4)) else (a + ((c - a) / 4)))
theorem c_lat {l : Launch} {g : mG} (hO : mO l g) (m : mM) (a : Int32) (b : Int32) (c : Int32)  : mT l g yX11_later (.code yX11_later cX11_later 3 (Option.some FieldType.int)) 1 20 0 0 [.int a, .int b, .int c] m (fun r m' => r = some (.int (lat a b c)) ∧ m' = m) nX := c_X11_later hO m a b c
def X11_of_r (g : mG) (m : mM) (p : Nat) (k : Nat)  : Int32 := (13 + (8 * (nI p))) + (nI k)

set_option maxHeartbeats 4000000 in
set_option maxRecDepth 100000 in
theorem c_X11_of {l : Launch} {g : mG} (hO : mO l g) (m : mM) (p : Nat) (k : Nat)   : mT l g yX11_of (.code yX11_of cX11_of 2 (Option.some FieldType.int)) 1 20 0 0 [.int (nI p), .int (nI k)] m (fun u m' => u = some (.int (X11_of_r g m p k )) ∧ m' = m) nX := by
  refine mT_of hO (by decide) (Nat.le_of_ble_eq_true rfl) (fun x hX hZ => ?_)
  show mV g x m 0 0 0 [(0, .int (nI p)), (1, .int (nI k))] []
  refine v_bipush (v := 13) (pc := 0) hX dX11_of_0 (by decide) ?_
  refine v_bipush (v := 8) (pc := 2) hX dX11_of_2 (by decide) ?_
  refine v_iload_n (pc := 4) hX dX11_of_4 rfl ?_
  refine v_imul (pc := 5) hX dX11_of_5 ?_
  refine v_iadd (pc := 6) hX dX11_of_6 ?_
  refine v_iload_n (pc := 7) hX dX11_of_7 rfl ?_
  refine v_iadd (pc := 8) hX dX11_of_8 ?_
  exact v_iret (pc := 9) hX hZ dX11_of_9 (by decide) (by decide) ⟨(by rw [X11_of_r]), rfl⟩
theorem c_of2 {l : Launch} {g : mG} (hO : mO l g) (m : mM) (a : Int32) (p k : Nat) (ha : a = nI p) : mT l g yX11_of (.code yX11_of cX11_of 2 (Option.some FieldType.int)) 1 20 0 0 [.int a, .int (nI k)] m (fun r m' => r = some (.int (nI (8 * p + (13 + k)))) ∧ m' = m) nX := by
  subst ha
  exact mT_imp (c_X11_of hO m p k) (fun r m' q => ⟨q.1.trans (congrArg (fun z => some (Value.int z)) (ix_of p k)), q.2⟩) (fun E m' q => q)
def X11_thrown_r (g : mG) (m : mM) (r : Nat)  : Int32 := gI m 384 r

set_option maxHeartbeats 4000000 in
set_option maxRecDepth 100000 in
theorem c_X11_thrown {l : Launch} {g : mG} (hO : mO l g) (m : mM) (r : Nat)  (hs : SR m r) : mT l g yX11_thrown (.code yX11_thrown cX11_thrown 1 (Option.some FieldType.int)) 1 20 0 0 [.ref r] m (fun u m' => u = some (.int (X11_thrown_r g m r )) ∧ m' = m) nX := by
  refine mT_of hO (by decide) (Nat.le_of_ble_eq_true rfl) (fun x hX hZ => ?_)
  show mV g x m 0 0 0 [(0, .ref r)] []
  refine v_aload_n (pc := 0) hX dX11_thrown_0 rfl ?_
  refine v_get (v := .int (gI m 384 r)) (pc := 1) hX dX11_thrown_1 hs.k (ci := 12) (r := vwC12) rfl 0 (by decide) wd_1506 rfl ?_
  exact v_iret (pc := 4) hX hZ dX11_thrown_4 (by decide) (by decide) ⟨(by rw [X11_thrown_r]), rfl⟩
def X11_fail_r (g : mG) (m : mM) (r : Nat) (a : Int32)  : Int32 := 0
def X11_fail_m (g : mG) (m : mM) (r : Nat) (a : Int32)  : mM := (sI m 384 r a)
theorem kK_X11_fail (g : mG) (m : mM) (r : Nat) (a : Int32)  : gK (X11_fail_m g m r a ) = gK m := by
  unfold X11_fail_m
  repeat' split
  all_goals simp only [mm]
theorem kN_X11_fail (g : mG) (m : mM) (r : Nat) (a : Int32)  : gN (X11_fail_m g m r a ) = gN m := by
  unfold X11_fail_m
  repeat' split
  all_goals simp only [mm]
theorem kI_X11_fail (g : mG) (m : mM) (r : Nat) (a : Int32)  (k a9 : Nat) (h0 : k ≠ 384) : gI (X11_fail_m g m r a ) k a9 = gI m k a9 := by
  unfold X11_fail_m
  repeat' split
  all_goals simp [mm, h0]
theorem kJ_X11_fail (g : mG) (m : mM) (r : Nat) (a : Int32)  : gJ (X11_fail_m g m r a ) = gJ m := by
  unfold X11_fail_m
  repeat' split
  all_goals simp only [mm]
theorem kR_X11_fail (g : mG) (m : mM) (r : Nat) (a : Int32)  : gR (X11_fail_m g m r a ) = gR m := by
  unfold X11_fail_m
  repeat' split
  all_goals simp only [mm]
theorem kA_X11_fail (g : mG) (m : mM) (r : Nat) (a : Int32)  : gA (X11_fail_m g m r a ) = gA m := by
  unfold X11_fail_m
  repeat' split
  all_goals simp only [mm]
theorem kQ_X11_fail (g : mG) (m : mM) (r : Nat) (a : Int32)  : gQ (X11_fail_m g m r a ) = gQ m := by
  unfold X11_fail_m
  repeat' split
  all_goals simp only [mm]
theorem kL_X11_fail (g : mG) (m : mM) (r : Nat) (a : Int32)  : gL (X11_fail_m g m r a ) = gL m := by
  unfold X11_fail_m
  repeat' split
  all_goals simp only [mm]
theorem kD_X11_fail (g : mG) (m : mM) (r : Nat) (a : Int32)  : gD (X11_fail_m g m r a ) = gD m := by
  unfold X11_fail_m
  repeat' split
  all_goals simp only [mm]
set_option maxHeartbeats 4000000 in
set_option maxRecDepth 100000 in
theorem c_X11_fail {l : Launch} {g : mG} (hO : mO l g) (m : mM) (r : Nat) (a : Int32)  (hs : SR m r) : mT l g yX11_fail (.code yX11_fail cX11_fail 2 (Option.some FieldType.int)) 1 20 0 0 [.ref r, .int a] m (fun u m' => u = some (.int (X11_fail_r g m r a )) ∧ m' = X11_fail_m g m r a ) nX := by
  refine mT_of hO (by decide) (Nat.le_of_ble_eq_true rfl) (fun x hX hZ => ?_)
  show mV g x m 0 0 0 [(0, .ref r), (1, .int a)] []
  refine v_aload_n (pc := 0) hX dX11_fail_0 rfl ?_
  refine v_iload_n (pc := 1) hX dX11_fail_1 rfl ?_
  refine v_put (m1 := (sI m 384 r a)) (pc := 2) hX dX11_fail_2 hs.k (ci := 12) (r := vwC12) rfl 0 (by decide) wd_1506 rfl rfl rfl rfl ?_
  refine v_iconst (v := 0) (pc := 5) hX dX11_fail_5 (by decide) ?_
  exact v_iret (pc := 6) hX hZ dX11_fail_6 (by decide) (by decide) ⟨(by rw [X11_fail_r]), (by rw [X11_fail_m])⟩
theorem c_fail2 {l : Launch} {g : mG} (hO : mO l g) (m : mM) (r : Nat) (a : Int32) (hs : SR m r) : mT l g yX11_fail (.code yX11_fail cX11_fail 2 (Option.some FieldType.int)) 1 20 0 0 [.ref r, .int a] m (fun q m' => q = some (.int 0) ∧ m' = sI m 384 r a) nX := c_X11_fail hO m r a hs
def X11_lays_l1 (g : mG) (u1 : Nat) (u2 : Nat)  : Nat → Nat → mM → mM
  | 0, j, m => m
  | n + 1, j, m => X11_lays_l1 g u1 u2  n (j + 1)  ((sA m u1 j (gA m (u2) j)))
set_option maxHeartbeats 4000000 in
set_option maxRecDepth 100000 in
theorem lp_X11_lays_l1 {l : Launch} {g : mG} {x : mCx} (hO : mO l g) (u1 : Nat) (u2 : Nat)   {pst : Option Value → mM → Prop} {XX : String → mM → Prop} (hX : mX l g x cX11_lays yX11_lays { frames := 1, cells := 0, slots := 0, locals := 20 } 3) (hZ : mZ g x (Option.none : Option FieldType) [] pst XX 0 0) : ∀ (n j : Nat)  (m : mM) (hx : gK m u1 = some (.inr (0, 85))) (hy : gK m u2 = some (.inr (0, 85))) (hj : j + n = 85) (hp : pst none (X11_lays_l1 g u1 u2  n j  m)), mV g x m 0 0 2 [(0, .ref u1), (1, .ref u2), (2, .int (nI j))] [] := by
  intro n
  induction n with
  | zero =>
    intro j  m hx hy hj hp
    refine v_iload_n (pc := 2) hX dX11_lays_2 rfl ?_
    refine v_bipush (v := 85) (pc := 3) hX dX11_lays_3 (by decide) ?_
    refine v_icmp_ge (tgt := 20) (pc := 5) hX dX11_lays_5 (by decide) (fun c1 => ?_) (fun c1 => ?_)
    ·
      exact v_vret (pc := 20) hX hZ dX11_lays_20 (by decide) (by decide) (by rw [X11_lays_l1] at hp; exact hp)
    · exact absurd (show nI 85 ≤ nI j from nI_le (by omega) (by omega)) c1
  | succ n ih =>
    intro j  m hx hy hj hp
    refine v_iload_n (pc := 2) hX dX11_lays_2 rfl ?_
    refine v_bipush (v := 85) (pc := 3) hX dX11_lays_3 (by decide) ?_
    refine v_icmp_ge (tgt := 20) (pc := 5) hX dX11_lays_5 (by decide) (fun c1 => ?_) (fun c1 => ?_)
    · exact absurd c1 (show ¬ nI 85 ≤ nI j from nI_ge (by omega) (by omega))
    ·
      refine v_aload_n (pc := 8) hX dX11_lays_8 rfl ?_
      refine v_iload_n (pc := 9) hX dX11_lays_9 rfl ?_
      refine v_aload_n (pc := 10) hX dX11_lays_10 rfl ?_
      refine v_iload_n (pc := 11) hX dX11_lays_11 rfl ?_
      refine v_iald (j := j) (v := (gA m (u2) j)) (pc := 12) hX dX11_lays_12 hy rfl (by omega) (by decide) rfl ?_
      refine v_iast (j := j) (pc := 13) hX dX11_lays_13 hx rfl (by omega) (by decide) ?_
      refine v_iinc (w := nI (j + 1)) (pc := 14) hX dX11_lays_14 rfl (nI_1 _) (by decide) rfl ?_
      refine v_goto (tgt := 2) (pc := 17) hX dX11_lays_17 (by decide) ?_
      refine mV_sub (lv' := [(0, .ref u1), (1, .ref u2), (2, .int (nI (j + 1)))]) ⟨rfl, rfl, rfl, trivial⟩ ?_
      exact ih (j + 1)  ((sA m u1 j (gA m (u2) j))) (by simp only [mm]; exact hx) (by simp only [mm]; exact hy) (by omega) (by rw [X11_lays_l1] at hp; exact hp)
theorem kK_X11_lays_l1 (g : mG) (u1 : Nat) (u2 : Nat)  : ∀ (n j : Nat)  (m : mM), gK (X11_lays_l1 g u1 u2  n j  m) = gK m := by
  intro n
  induction n with
  | zero =>
    intro j  m
    rw [X11_lays_l1]
    repeat' split
    all_goals simp only [mm]
  | succ n ih =>
    intro j  m
    rw [X11_lays_l1]
    repeat' split
    all_goals simp only [mm, ih]
theorem kN_X11_lays_l1 (g : mG) (u1 : Nat) (u2 : Nat)  : ∀ (n j : Nat)  (m : mM), gN (X11_lays_l1 g u1 u2  n j  m) = gN m := by
  intro n
  induction n with
  | zero =>
    intro j  m
    rw [X11_lays_l1]
    repeat' split
    all_goals simp only [mm]
  | succ n ih =>
    intro j  m
    rw [X11_lays_l1]
    repeat' split
    all_goals simp only [mm, ih]
theorem kI_X11_lays_l1 (g : mG) (u1 : Nat) (u2 : Nat)  : ∀ (n j : Nat)  (m : mM), gI (X11_lays_l1 g u1 u2  n j  m) = gI m := by
  intro n
  induction n with
  | zero =>
    intro j  m
    rw [X11_lays_l1]
    repeat' split
    all_goals simp only [mm]
  | succ n ih =>
    intro j  m
    rw [X11_lays_l1]
    repeat' split
    all_goals simp only [mm, ih]
theorem kJ_X11_lays_l1 (g : mG) (u1 : Nat) (u2 : Nat)  : ∀ (n j : Nat)  (m : mM), gJ (X11_lays_l1 g u1 u2  n j  m) = gJ m := by
  intro n
  induction n with
  | zero =>
    intro j  m
    rw [X11_lays_l1]
    repeat' split
    all_goals simp only [mm]
  | succ n ih =>
    intro j  m
    rw [X11_lays_l1]
    repeat' split
    all_goals simp only [mm, ih]
theorem kR_X11_lays_l1 (g : mG) (u1 : Nat) (u2 : Nat)  : ∀ (n j : Nat)  (m : mM), gR (X11_lays_l1 g u1 u2  n j  m) = gR m := by
  intro n
  induction n with
  | zero =>
    intro j  m
    rw [X11_lays_l1]
    repeat' split
    all_goals simp only [mm]
  | succ n ih =>
    intro j  m
    rw [X11_lays_l1]
    repeat' split
    all_goals simp only [mm, ih]
theorem kQ_X11_lays_l1 (g : mG) (u1 : Nat) (u2 : Nat)  : ∀ (n j : Nat)  (m : mM), gQ (X11_lays_l1 g u1 u2  n j  m) = gQ m := by
  intro n
  induction n with
  | zero =>
    intro j  m
    rw [X11_lays_l1]
    repeat' split
    all_goals simp only [mm]
  | succ n ih =>
    intro j  m
    rw [X11_lays_l1]
    repeat' split
    all_goals simp only [mm, ih]
theorem kL_X11_lays_l1 (g : mG) (u1 : Nat) (u2 : Nat)  : ∀ (n j : Nat)  (m : mM), gL (X11_lays_l1 g u1 u2  n j  m) = gL m := by
  intro n
  induction n with
  | zero =>
    intro j  m
    rw [X11_lays_l1]
    repeat' split
    all_goals simp only [mm]
  | succ n ih =>
    intro j  m
    rw [X11_lays_l1]
    repeat' split
    all_goals simp only [mm, ih]
theorem kD_X11_lays_l1 (g : mG) (u1 : Nat) (u2 : Nat)  : ∀ (n j : Nat)  (m : mM), gD (X11_lays_l1 g u1 u2  n j  m) = gD m := by
  intro n
  induction n with
  | zero =>
    intro j  m
    rw [X11_lays_l1]
    repeat' split
    all_goals simp only [mm]
  | succ n ih =>
    intro j  m
    rw [X11_lays_l1]
    repeat' split
    all_goals simp only [mm, ih]
theorem kA_X11_lays_l1 (g : mG) (u1 : Nat) (u2 : Nat)  (c9 i9 : Nat) (h0 : c9 ≠ u1) : ∀ (n j : Nat)  (m : mM), gA (X11_lays_l1 g u1 u2  n j  m) c9 i9 = gA m c9 i9 := by
  intro n
  induction n with
  | zero =>
    intro j  m
    rw [X11_lays_l1]
    repeat' split
    all_goals simp [mm, h0]
  | succ n ih =>
    intro j  m
    rw [X11_lays_l1]
    repeat' split
    all_goals simp [mm, ih, h0]
def X11_lays_m (g : mG) (m : mM) (u1 : Nat) (u2 : Nat)  : mM := X11_lays_l1 g u1 u2  85 0  m
theorem kK_X11_lays (g : mG) (m : mM) (u1 : Nat) (u2 : Nat)  : gK (X11_lays_m g m u1 u2 ) = gK m := by
  unfold X11_lays_m
  repeat' split
  all_goals simp only [mm, kK_X11_lays_l1]
theorem kN_X11_lays (g : mG) (m : mM) (u1 : Nat) (u2 : Nat)  : gN (X11_lays_m g m u1 u2 ) = gN m := by
  unfold X11_lays_m
  repeat' split
  all_goals simp only [mm, kN_X11_lays_l1]
theorem kI_X11_lays (g : mG) (m : mM) (u1 : Nat) (u2 : Nat)  : gI (X11_lays_m g m u1 u2 ) = gI m := by
  unfold X11_lays_m
  repeat' split
  all_goals simp only [mm, kI_X11_lays_l1]
theorem kJ_X11_lays (g : mG) (m : mM) (u1 : Nat) (u2 : Nat)  : gJ (X11_lays_m g m u1 u2 ) = gJ m := by
  unfold X11_lays_m
  repeat' split
  all_goals simp only [mm, kJ_X11_lays_l1]
theorem kR_X11_lays (g : mG) (m : mM) (u1 : Nat) (u2 : Nat)  : gR (X11_lays_m g m u1 u2 ) = gR m := by
  unfold X11_lays_m
  repeat' split
  all_goals simp only [mm, kR_X11_lays_l1]
theorem kQ_X11_lays (g : mG) (m : mM) (u1 : Nat) (u2 : Nat)  : gQ (X11_lays_m g m u1 u2 ) = gQ m := by
  unfold X11_lays_m
  repeat' split
  all_goals simp only [mm, kQ_X11_lays_l1]
theorem kL_X11_lays (g : mG) (m : mM) (u1 : Nat) (u2 : Nat)  : gL (X11_lays_m g m u1 u2 ) = gL m := by
  unfold X11_lays_m
  repeat' split
  all_goals simp only [mm, kL_X11_lays_l1]
theorem kD_X11_lays (g : mG) (m : mM) (u1 : Nat) (u2 : Nat)  : gD (X11_lays_m g m u1 u2 ) = gD m := by
  unfold X11_lays_m
  repeat' split
  all_goals simp only [mm, kD_X11_lays_l1]
theorem kA_X11_lays (g : mG) (m : mM) (u1 : Nat) (u2 : Nat)  (c9 i9 : Nat) (h0 : c9 ≠ u1) : gA (X11_lays_m g m u1 u2 ) c9 i9 = gA m c9 i9 := by
  unfold X11_lays_m
  repeat' split
  all_goals simp [mm, kA_X11_lays_l1, h0]
set_option maxHeartbeats 4000000 in
set_option maxRecDepth 100000 in
theorem c_X11_lays {l : Launch} {g : mG} (hO : mO l g) (m : mM) (u1 : Nat) (u2 : Nat)  (hx : gK m u1 = some (.inr (0, 85))) (hy : gK m u2 = some (.inr (0, 85))) : mT l g yX11_lays (.code yX11_lays cX11_lays 3 (Option.none : Option FieldType)) 1 20 0 0 [.ref u1, .ref u2] m (fun u m' => u = none ∧ m' = X11_lays_m g m u1 u2 ) nX := by
  refine mT_of hO (by decide) (Nat.le_of_ble_eq_true rfl) (fun x hX hZ => ?_)
  show mV g x m 0 0 0 [(0, .ref u1), (1, .ref u2)] []
  refine v_iconst (v := 0) (pc := 0) hX dX11_lays_0 (by decide) ?_
  refine v_istore_n (pc := 1) hX dX11_lays_1 (by decide) rfl ?_
  refine mV_sub (lv' := [(0, .ref u1), (1, .ref u2), (2, .int (nI 0))]) ⟨rfl, rfl, rfl, trivial⟩ ?_
  exact lp_X11_lays_l1 hO u1 u2   hX hZ 85 0  m hx hy (by omega) ⟨rfl, (by rw [X11_lays_m])⟩
def X11_begins_m (g : mG) (m : mM) (r : Nat)  : mM := (X11_lays_m g ((sI m 384 r 0)) (r + 2) (r + 1) )
theorem kK_X11_begins (g : mG) (m : mM) (r : Nat)  : gK (X11_begins_m g m r ) = gK m := by
  unfold X11_begins_m
  repeat' split
  all_goals simp only [mm, kK_X11_lays]
theorem kN_X11_begins (g : mG) (m : mM) (r : Nat)  : gN (X11_begins_m g m r ) = gN m := by
  unfold X11_begins_m
  repeat' split
  all_goals simp only [mm, kN_X11_lays]
theorem kI_X11_begins (g : mG) (m : mM) (r : Nat)  (k a9 : Nat) (h0 : k ≠ 384) : gI (X11_begins_m g m r ) k a9 = gI m k a9 := by
  unfold X11_begins_m
  repeat' split
  all_goals simp [mm, kI_X11_lays, h0]
theorem kJ_X11_begins (g : mG) (m : mM) (r : Nat)  : gJ (X11_begins_m g m r ) = gJ m := by
  unfold X11_begins_m
  repeat' split
  all_goals simp only [mm, kJ_X11_lays]
theorem kR_X11_begins (g : mG) (m : mM) (r : Nat)  : gR (X11_begins_m g m r ) = gR m := by
  unfold X11_begins_m
  repeat' split
  all_goals simp only [mm, kR_X11_lays]
theorem kQ_X11_begins (g : mG) (m : mM) (r : Nat)  : gQ (X11_begins_m g m r ) = gQ m := by
  unfold X11_begins_m
  repeat' split
  all_goals simp only [mm, kQ_X11_lays]
theorem kL_X11_begins (g : mG) (m : mM) (r : Nat)  : gL (X11_begins_m g m r ) = gL m := by
  unfold X11_begins_m
  repeat' split
  all_goals simp only [mm, kL_X11_lays]
theorem kD_X11_begins (g : mG) (m : mM) (r : Nat)  : gD (X11_begins_m g m r ) = gD m := by
  unfold X11_begins_m
  repeat' split
  all_goals simp only [mm, kD_X11_lays]
theorem kA_X11_begins (g : mG) (m : mM) (r : Nat)  (c9 i9 : Nat) (h0 : c9 ≠ r + 2) : gA (X11_begins_m g m r ) c9 i9 = gA m c9 i9 := by
  unfold X11_begins_m
  repeat' split
  all_goals simp [mm, kA_X11_lays, h0]
set_option maxHeartbeats 4000000 in
set_option maxRecDepth 100000 in
theorem c_X11_begins {l : Launch} {g : mG} (hO : mO l g) (m : mM) (r : Nat)  (hs : SR m r) : mT l g yX11_begins (.code yX11_begins cX11_begins 1 (Option.none : Option FieldType)) 2 42 0 0 [.ref r] m (fun u m' => u = none ∧ m' = X11_begins_m g m r ) nX := by
  refine mT_of hO (by decide) (Nat.le_of_ble_eq_true rfl) (fun x hX hZ => ?_)
  show mV g x m 0 0 0 [(0, .ref r)] []
  refine v_aload_n (pc := 0) hX dX11_begins_0 rfl ?_
  refine v_iconst (v := 0) (pc := 1) hX dX11_begins_1 (by decide) ?_
  refine v_put (m1 := (sI m 384 r 0)) (pc := 2) hX dX11_begins_2 hs.k (ci := 12) (r := vwC12) rfl 0 (by decide) wd_1506 rfl rfl rfl rfl ?_
  refine v_aload_n (pc := 5) hX dX11_begins_5 rfl ?_
  refine v_get (v := .ref (r + 2)) (pc := 6) hX dX11_begins_6 (by simp only [mm]; exact hs.k) (ci := 12) (r := vwC12) rfl 6 (by decide) wd_1512 (fvA rfl (by simp [mm, hs.r2])) ?_
  refine v_aload_n (pc := 9) hX dX11_begins_9 rfl ?_
  refine v_get (v := .ref (r + 1)) (pc := 10) hX dX11_begins_10 (by simp only [mm]; exact hs.k) (ci := 12) (r := vwC12) rfl 5 (by decide) wd_1511 (fvA rfl (by simp [mm, hs.r1])) ?_
  refine v_callS (z := yX11_lays) (pc := 13) hX dX11_begins_13 (c_X11_lays hO ((sI m 384 r 0)) (r + 2) (r + 1)  (by simp only [mm]; exact hs.k2) (by simp only [mm]; exact hs.k1)) wd_1585 wd_1586 wd_16 wd_1587 ⟨by decide, by decide, (by decide +kernel : (parseMethodDescriptor yX11_lays.desc).map (fun d => d.parameters.length) = some 2)⟩ rfl (Nat.le_of_ble_eq_true rfl) ⟨⟨by decide, by decide⟩, by decide, by decide⟩ (fun E m9 h9 => h9.elim) (fun r9 m9 h9 => ?_)
  obtain ⟨rfl, h8⟩ := h9
  replace h8 := h8.symm
  subst h8
  show mV g x _ _ _ _ _ []
  exact v_vret (pc := 16) hX hZ dX11_begins_16 (by decide) (by decide) ⟨rfl, (by rw [X11_begins_m])⟩
