def X5_isWornOut_r (g : mG) (m : mM) (h : Nat) : Int32 := if (gI m 225 h) < 20 then 0 else 1
set_option maxHeartbeats 4000000 in
set_option maxRecDepth 100000 in
theorem c_X5_isWornOut {l : Launch} {g : mG} (hO : mO l g) (m : mM) (h : Nat) (hk : gK m h = some (.inl 7)) : mT l g yX5_isWornOut (.code yX5_isWornOut cX5_isWornOut 1 (Option.some FieldType.boolean)) 1 20 0 0 [.ref h] m (fun r m' => r = some (.int (X5_isWornOut_r g m h)) ∧ m' = m) nX := by
  refine mT_of hO (by decide) (Nat.le_of_ble_eq_true rfl) (fun x hX hZ => ?_)
  show mV g x m 0 0 0 [(0, .ref h)] []
  refine v_aload_n (pc := 0) hX dX5_isWornOut_0 rfl ?_
  refine v_get (v := .int (gI m 225 h)) (pc := 1) hX dX5_isWornOut_1 hk (ci := 7) (r := vwC7) rfl 1 (by decide) wd_141 rfl ?_
  refine v_bipush (v := 20) (pc := 4) hX dX5_isWornOut_4 (by decide) ?_
  refine v_icmp_lt (tgt := 13) (pc := 6) hX dX5_isWornOut_6 (by decide) (fun c1 => ?_) (fun c1 => ?_)
  ·
    refine v_iconst (v := 0) (pc := 13) hX dX5_isWornOut_13 (by decide) ?_
    exact v_zret (pc := 14) hX hZ dX5_isWornOut_14 rfl (by decide) (by decide) ⟨(by rw [X5_isWornOut_r, if_pos c1]), rfl⟩
  ·
    refine v_iconst (v := 1) (pc := 9) hX dX5_isWornOut_9 (by decide) ?_
    refine v_goto (tgt := 14) (pc := 10) hX dX5_isWornOut_10 (by decide) ?_
    exact v_zret (pc := 14) hX hZ dX5_isWornOut_14 rfl (by decide) (by decide) ⟨(by rw [X5_isWornOut_r, if_neg c1]), rfl⟩
def X7_meetsTest_r (g : mG) (m : mM) (h : Nat) : Int32 := if (gI m 291 h) = 10 then (if (gI m 292 h) < 40 then 0 else (if 70 < (gI m 292 h) then 0 else 1)) else 0
set_option maxHeartbeats 4000000 in
set_option maxRecDepth 100000 in
theorem c_X7_meetsTest {l : Launch} {g : mG} (hO : mO l g) (m : mM) (h : Nat) (hk : gK m h = some (.inl 9)) : mT l g yX7_meetsTest (.code yX7_meetsTest cX7_meetsTest 1 (Option.some FieldType.boolean)) 1 20 0 0 [.ref h] m (fun r m' => r = some (.int (X7_meetsTest_r g m h)) ∧ m' = m) nX := by
  refine mT_of hO (by decide) (Nat.le_of_ble_eq_true rfl) (fun x hX hZ => ?_)
  show mV g x m 0 0 0 [(0, .ref h)] []
  refine v_aload_n (pc := 0) hX dX7_meetsTest_0 rfl ?_
  refine v_get (v := .int (gI m 291 h)) (pc := 1) hX dX7_meetsTest_1 hk (ci := 9) (r := vwC9) rfl 3 (by decide) wd_101 rfl ?_
  refine v_bipush (v := 10) (pc := 4) hX dX7_meetsTest_4 (by decide) ?_
  refine v_icmp_ne (tgt := 31) (pc := 6) hX dX7_meetsTest_6 (by decide) (fun c1 => ?_) (fun c1 => ?_)
  ·
    refine v_iconst (v := 0) (pc := 31) hX dX7_meetsTest_31 (by decide) ?_
    exact v_zret (pc := 32) hX hZ dX7_meetsTest_32 rfl (by decide) (by decide) ⟨(by rw [X7_meetsTest_r, if_neg c1]), rfl⟩
  ·
    refine v_aload_n (pc := 9) hX dX7_meetsTest_9 rfl ?_
    refine v_get (v := .int (gI m 292 h)) (pc := 10) hX dX7_meetsTest_10 hk (ci := 9) (r := vwC9) rfl 4 (by decide) wd_104 rfl ?_
    refine v_bipush (v := 40) (pc := 13) hX dX7_meetsTest_13 (by decide) ?_
    refine v_icmp_lt (tgt := 31) (pc := 15) hX dX7_meetsTest_15 (by decide) (fun c2 => ?_) (fun c2 => ?_)
    ·
      refine v_iconst (v := 0) (pc := 31) hX dX7_meetsTest_31 (by decide) ?_
      exact v_zret (pc := 32) hX hZ dX7_meetsTest_32 rfl (by decide) (by decide) ⟨(by rw [X7_meetsTest_r, if_pos c1, if_pos c2]), rfl⟩
    ·
      refine v_aload_n (pc := 18) hX dX7_meetsTest_18 rfl ?_
      refine v_get (v := .int (gI m 292 h)) (pc := 19) hX dX7_meetsTest_19 hk (ci := 9) (r := vwC9) rfl 4 (by decide) wd_104 rfl ?_
      refine v_bipush (v := 70) (pc := 22) hX dX7_meetsTest_22 (by decide) ?_
      refine v_icmp_gt (tgt := 31) (pc := 24) hX dX7_meetsTest_24 (by decide) (fun c3 => ?_) (fun c3 => ?_)
      ·
        refine v_iconst (v := 0) (pc := 31) hX dX7_meetsTest_31 (by decide) ?_
        exact v_zret (pc := 32) hX hZ dX7_meetsTest_32 rfl (by decide) (by decide) ⟨(by rw [X7_meetsTest_r, if_pos c1, if_neg c2, if_pos c3]), rfl⟩
      ·
        refine v_iconst (v := 1) (pc := 27) hX dX7_meetsTest_27 (by decide) ?_
        refine v_goto (tgt := 32) (pc := 28) hX dX7_meetsTest_28 (by decide) ?_
        exact v_zret (pc := 32) hX hZ dX7_meetsTest_32 rfl (by decide) (by decide) ⟨(by rw [X7_meetsTest_r, if_pos c1, if_neg c2, if_neg c3]), rfl⟩
def X7_isReadyForBird_r (g : mG) (m : mM) (h : Nat) : Int32 := if (gI m 293 h) = 0 then (if (gR m 295 h) = (some (vdA g 1)) then 1 else 0) else 0
set_option maxHeartbeats 4000000 in
set_option maxRecDepth 100000 in
theorem c_X7_isReadyForBird {l : Launch} {g : mG} (hO : mO l g) (m : mM) (h : Nat) (hk : gK m h = some (.inl 9)) : mT l g yX7_isReadyForBird (.code yX7_isReadyForBird cX7_isReadyForBird 1 (Option.some FieldType.boolean)) 1 20 0 0 [.ref h] m (fun r m' => r = some (.int (X7_isReadyForBird_r g m h)) ∧ m' = m) nX := by
  refine mT_of hO (by decide) (Nat.le_of_ble_eq_true rfl) (fun x hX hZ => ?_)
  show mV g x m 0 0 0 [(0, .ref h)] []
  refine v_aload_n (pc := 0) hX dX7_isReadyForBird_0 rfl ?_
  refine v_get (v := .int (gI m 293 h)) (pc := 1) hX dX7_isReadyForBird_1 hk (ci := 9) (r := vwC9) rfl 5 (by decide) wd_107 rfl ?_
  refine v_if_ne (tgt := 21) (pc := 4) hX dX7_isReadyForBird_4 (by decide) (fun c1 => ?_) (fun c1 => ?_)
  ·
    refine v_iconst (v := 0) (pc := 21) hX dX7_isReadyForBird_21 (by decide) ?_
    exact v_zret (pc := 22) hX hZ dX7_isReadyForBird_22 rfl (by decide) (by decide) ⟨(by rw [X7_isReadyForBird_r, if_neg c1]), rfl⟩
  ·
    refine v_aload_n (pc := 7) hX dX7_isReadyForBird_7 rfl ?_
    refine v_get (v := va_rf (gR m 295 h)) (pc := 8) hX dX7_isReadyForBird_8 hk (ci := 9) (r := vwC9) rfl 7 (by decide) wd_113 rfl ?_
    refine v_gets (pc := 11) hX dX7_isReadyForBird_11 (vd_Z1 hO) wd_1092 ?_
    refine v_acmp_ne (a := gR m 295 h) (b := some (vdA g 1)) (tgt := 21) (pc := 14) hX dX7_isReadyForBird_14 (by decide) (fun c2 => ?_) (fun c2 => ?_)
    ·
      refine v_iconst (v := 0) (pc := 21) hX dX7_isReadyForBird_21 (by decide) ?_
      exact v_zret (pc := 22) hX hZ dX7_isReadyForBird_22 rfl (by decide) (by decide) ⟨(by rw [X7_isReadyForBird_r, if_pos c1, if_neg c2]), rfl⟩
    ·
      refine v_iconst (v := 1) (pc := 17) hX dX7_isReadyForBird_17 (by decide) ?_
      refine v_goto (tgt := 22) (pc := 18) hX dX7_isReadyForBird_18 (by decide) ?_
      exact v_zret (pc := 22) hX hZ dX7_isReadyForBird_22 rfl (by decide) (by decide) ⟨(by rw [X7_isReadyForBird_r, if_pos c1, if_pos c2]), rfl⟩
def X5_init_m (g : mG) (m : mM) (h : Nat) : mM := (sI (sI m 224 h 1) 225 h 0)
set_option maxHeartbeats 4000000 in
set_option maxRecDepth 100000 in
theorem c_X5_init {l : Launch} {g : mG} (hO : mO l g) (m : mM) (h : Nat) (hk : gK m h = some (.inl 7)) : mT l g yX5_init (.code yX5_init cX5_init 1 (Option.none : Option FieldType)) 1 20 0 0 [.ref h] m (fun r m' => r = none ∧ m' = X5_init_m g m h) nX := by
  refine mT_of hO (by decide) (Nat.le_of_ble_eq_true rfl) (fun x hX hZ => ?_)
  show mV g x m 0 0 0 [(0, .ref h)] []
  refine v_aload_n (pc := 0) hX dX5_init_0 rfl ?_
  refine v_objInit (pc := 1) hX dX5_init_1 wd_137 wd_43 wd_44 (by decide) (by decide) ?_
  refine v_aload_n (pc := 4) hX dX5_init_4 rfl ?_
  refine v_iconst (v := 1) (pc := 5) hX dX5_init_5 (by decide) ?_
  refine v_put (m1 := (sI m 224 h 1)) (pc := 6) hX dX5_init_6 hk (ci := 7) (r := vwC7) rfl 0 (by decide) wd_138 rfl rfl rfl rfl ?_
  refine v_aload_n (pc := 9) hX dX5_init_9 rfl ?_
  refine v_iconst (v := 0) (pc := 10) hX dX5_init_10 (by decide) ?_
  refine v_put (m1 := (sI (sI m 224 h 1) 225 h 0)) (pc := 11) hX dX5_init_11 (by simp only [mm]; exact hk) (ci := 7) (r := vwC7) rfl 1 (by decide) wd_141 rfl rfl rfl rfl ?_
  exact v_vret (pc := 14) hX hZ dX5_init_14 (by decide) (by decide) ⟨rfl, (by rw [X5_init_m])⟩
theorem kK_X5_init (g : mG) (m : mM) (h : Nat) : gK (X5_init_m g m h) = gK m := by
  unfold X5_init_m
  repeat' split
  all_goals simp only [mm]
theorem kN_X5_init (g : mG) (m : mM) (h : Nat) : gN (X5_init_m g m h) = gN m := by
  unfold X5_init_m
  repeat' split
  all_goals simp only [mm]
theorem kI_X5_init (g : mG) (m : mM) (h : Nat) (k a9 : Nat) (h0 : k ≠ 224) (h1 : k ≠ 225) : gI (X5_init_m g m h) k a9 = gI m k a9 := by
  unfold X5_init_m
  repeat' split
  all_goals simp [mm, h0, h1]
theorem kJ_X5_init (g : mG) (m : mM) (h : Nat) : gJ (X5_init_m g m h) = gJ m := by
  unfold X5_init_m
  repeat' split
  all_goals simp only [mm]
theorem kR_X5_init (g : mG) (m : mM) (h : Nat) : gR (X5_init_m g m h) = gR m := by
  unfold X5_init_m
  repeat' split
  all_goals simp only [mm]
theorem kA_X5_init (g : mG) (m : mM) (h : Nat) : gA (X5_init_m g m h) = gA m := by
  unfold X5_init_m
  repeat' split
  all_goals simp only [mm]
theorem kQ_X5_init (g : mG) (m : mM) (h : Nat) : gQ (X5_init_m g m h) = gQ m := by
  unfold X5_init_m
  repeat' split
  all_goals simp only [mm]
theorem kL_X5_init (g : mG) (m : mM) (h : Nat) : gL (X5_init_m g m h) = gL m := by
  unfold X5_init_m
  repeat' split
  all_goals simp only [mm]
theorem kD_X5_init (g : mG) (m : mM) (h : Nat) : gD (X5_init_m g m h) = gD m := by
  unfold X5_init_m
  repeat' split
  all_goals simp only [mm]
theorem fr_X5_init (g : mG) (m : mM) (h : Nat)  : Fr h (h + 1) m (X5_init_m g m h) := by
  unfold X5_init_m
  exact ((((Fr.rf).I (by omega))).I (by omega))
def X5_begin_m (g : mG) (m : mM) (h : Nat) (a : Int32) : mM := (sI (sI m 224 h a) 225 h 0)
set_option maxHeartbeats 4000000 in
set_option maxRecDepth 100000 in
theorem c_X5_begin {l : Launch} {g : mG} (hO : mO l g) (m : mM) (h : Nat) (a : Int32) (hk : gK m h = some (.inl 7)) : mT l g yX5_begin (.code yX5_begin cX5_begin 2 (Option.none : Option FieldType)) 1 20 0 0 [.ref h, .int a] m (fun r m' => r = none ∧ m' = X5_begin_m g m h a) nX := by
  refine mT_of hO (by decide) (Nat.le_of_ble_eq_true rfl) (fun x hX hZ => ?_)
  show mV g x m 0 0 0 [(0, .ref h), (1, .int a)] []
  refine v_aload_n (pc := 0) hX dX5_begin_0 rfl ?_
  refine v_iload_n (pc := 1) hX dX5_begin_1 rfl ?_
  refine v_put (m1 := (sI m 224 h a)) (pc := 2) hX dX5_begin_2 hk (ci := 7) (r := vwC7) rfl 0 (by decide) wd_138 rfl rfl rfl rfl ?_
  refine v_aload_n (pc := 5) hX dX5_begin_5 rfl ?_
  refine v_iconst (v := 0) (pc := 6) hX dX5_begin_6 (by decide) ?_
  refine v_put (m1 := (sI (sI m 224 h a) 225 h 0)) (pc := 7) hX dX5_begin_7 (by simp only [mm]; exact hk) (ci := 7) (r := vwC7) rfl 1 (by decide) wd_141 rfl rfl rfl rfl ?_
  exact v_vret (pc := 10) hX hZ dX5_begin_10 (by decide) (by decide) ⟨rfl, (by rw [X5_begin_m])⟩
theorem kK_X5_begin (g : mG) (m : mM) (h : Nat) (a : Int32) : gK (X5_begin_m g m h a) = gK m := by
  unfold X5_begin_m
  repeat' split
  all_goals simp only [mm]
theorem kN_X5_begin (g : mG) (m : mM) (h : Nat) (a : Int32) : gN (X5_begin_m g m h a) = gN m := by
  unfold X5_begin_m
  repeat' split
  all_goals simp only [mm]
theorem kI_X5_begin (g : mG) (m : mM) (h : Nat) (a : Int32) (k a9 : Nat) (h0 : k ≠ 224) (h1 : k ≠ 225) : gI (X5_begin_m g m h a) k a9 = gI m k a9 := by
  unfold X5_begin_m
  repeat' split
  all_goals simp [mm, h0, h1]
theorem kJ_X5_begin (g : mG) (m : mM) (h : Nat) (a : Int32) : gJ (X5_begin_m g m h a) = gJ m := by
  unfold X5_begin_m
  repeat' split
  all_goals simp only [mm]
theorem kR_X5_begin (g : mG) (m : mM) (h : Nat) (a : Int32) : gR (X5_begin_m g m h a) = gR m := by
  unfold X5_begin_m
  repeat' split
  all_goals simp only [mm]
theorem kA_X5_begin (g : mG) (m : mM) (h : Nat) (a : Int32) : gA (X5_begin_m g m h a) = gA m := by
  unfold X5_begin_m
  repeat' split
  all_goals simp only [mm]
theorem kQ_X5_begin (g : mG) (m : mM) (h : Nat) (a : Int32) : gQ (X5_begin_m g m h a) = gQ m := by
  unfold X5_begin_m
  repeat' split
  all_goals simp only [mm]
theorem kL_X5_begin (g : mG) (m : mM) (h : Nat) (a : Int32) : gL (X5_begin_m g m h a) = gL m := by
  unfold X5_begin_m
  repeat' split
  all_goals simp only [mm]
theorem kD_X5_begin (g : mG) (m : mM) (h : Nat) (a : Int32) : gD (X5_begin_m g m h a) = gD m := by
  unfold X5_begin_m
  repeat' split
  all_goals simp only [mm]
theorem fr_X5_begin (g : mG) (m : mM) (h : Nat) (a : Int32)  : Fr h (h + 1) m (X5_begin_m g m h a) := by
  unfold X5_begin_m
  exact ((((Fr.rf).I (by omega))).I (by omega))
def X5_copyFrom_m (g : mG) (m : mM) (h : Nat) (o : Nat) : mM := (sI (sI m 224 h (gI m 224 o)) 225 h (gI m 225 o))
set_option maxHeartbeats 4000000 in
set_option maxRecDepth 100000 in
theorem c_X5_copyFrom {l : Launch} {g : mG} (hO : mO l g) (m : mM) (h : Nat) (o : Nat) (hk : gK m h = some (.inl 7)) (hk2 : gK m o = some (.inl 7)) : mT l g yX5_copyFrom (.code yX5_copyFrom cX5_copyFrom 2 (Option.none : Option FieldType)) 1 20 0 0 [.ref h, .ref o] m (fun r m' => r = none ∧ m' = X5_copyFrom_m g m h o) nX := by
  refine mT_of hO (by decide) (Nat.le_of_ble_eq_true rfl) (fun x hX hZ => ?_)
  show mV g x m 0 0 0 [(0, .ref h), (1, .ref o)] []
  refine v_aload_n (pc := 0) hX dX5_copyFrom_0 rfl ?_
  refine v_aload_n (pc := 1) hX dX5_copyFrom_1 rfl ?_
  refine v_get (v := .int (gI m 224 o)) (pc := 2) hX dX5_copyFrom_2 hk2 (ci := 7) (r := vwC7) rfl 0 (by decide) wd_138 rfl ?_
  refine v_put (m1 := (sI m 224 h (gI m 224 o))) (pc := 5) hX dX5_copyFrom_5 hk (ci := 7) (r := vwC7) rfl 0 (by decide) wd_138 rfl rfl rfl rfl ?_
  refine v_aload_n (pc := 8) hX dX5_copyFrom_8 rfl ?_
  refine v_aload_n (pc := 9) hX dX5_copyFrom_9 rfl ?_
  refine v_get (v := .int (gI m 225 o)) (pc := 10) hX dX5_copyFrom_10 (by simp only [mm]; exact hk2) (ci := 7) (r := vwC7) rfl 1 (by decide) wd_141 (by show Value.int _ = Value.int _; simp [mm]) ?_
  refine v_put (m1 := (sI (sI m 224 h (gI m 224 o)) 225 h (gI m 225 o))) (pc := 13) hX dX5_copyFrom_13 (by simp only [mm]; exact hk) (ci := 7) (r := vwC7) rfl 1 (by decide) wd_141 rfl rfl rfl rfl ?_
  exact v_vret (pc := 16) hX hZ dX5_copyFrom_16 (by decide) (by decide) ⟨rfl, (by rw [X5_copyFrom_m])⟩
theorem kK_X5_copyFrom (g : mG) (m : mM) (h : Nat) (o : Nat) : gK (X5_copyFrom_m g m h o) = gK m := by
  unfold X5_copyFrom_m
  repeat' split
  all_goals simp only [mm]
theorem kN_X5_copyFrom (g : mG) (m : mM) (h : Nat) (o : Nat) : gN (X5_copyFrom_m g m h o) = gN m := by
  unfold X5_copyFrom_m
  repeat' split
  all_goals simp only [mm]
theorem kI_X5_copyFrom (g : mG) (m : mM) (h : Nat) (o : Nat) (k a9 : Nat) (h0 : k ≠ 224) (h1 : k ≠ 225) : gI (X5_copyFrom_m g m h o) k a9 = gI m k a9 := by
  unfold X5_copyFrom_m
  repeat' split
  all_goals simp [mm, h0, h1]
theorem kJ_X5_copyFrom (g : mG) (m : mM) (h : Nat) (o : Nat) : gJ (X5_copyFrom_m g m h o) = gJ m := by
  unfold X5_copyFrom_m
  repeat' split
  all_goals simp only [mm]
theorem kR_X5_copyFrom (g : mG) (m : mM) (h : Nat) (o : Nat) : gR (X5_copyFrom_m g m h o) = gR m := by
  unfold X5_copyFrom_m
  repeat' split
  all_goals simp only [mm]
theorem kA_X5_copyFrom (g : mG) (m : mM) (h : Nat) (o : Nat) : gA (X5_copyFrom_m g m h o) = gA m := by
  unfold X5_copyFrom_m
  repeat' split
  all_goals simp only [mm]
theorem kQ_X5_copyFrom (g : mG) (m : mM) (h : Nat) (o : Nat) : gQ (X5_copyFrom_m g m h o) = gQ m := by
  unfold X5_copyFrom_m
  repeat' split
  all_goals simp only [mm]
theorem kL_X5_copyFrom (g : mG) (m : mM) (h : Nat) (o : Nat) : gL (X5_copyFrom_m g m h o) = gL m := by
  unfold X5_copyFrom_m
  repeat' split
  all_goals simp only [mm]
theorem kD_X5_copyFrom (g : mG) (m : mM) (h : Nat) (o : Nat) : gD (X5_copyFrom_m g m h o) = gD m := by
  unfold X5_copyFrom_m
  repeat' split
  all_goals simp only [mm]
theorem fr_X5_copyFrom (g : mG) (m : mM) (h : Nat) (o : Nat)  : Fr h (h + 1) m (X5_copyFrom_m g m h o) := by
  unfold X5_copyFrom_m
  exact ((((Fr.rf).I (by omega))).I (by omega))
def X5_isBetterThan_r (g : mG) (m : mM) (h : Nat) (o : Nat) : Int32 := if (gI m 224 h) = (gI m 224 o) then (if (gI m 225 o) ≤ (gI m 225 h) then 0 else 1) else (if (gI m 224 h) ≤ (gI m 224 o) then 0 else 1)
set_option maxHeartbeats 4000000 in
set_option maxRecDepth 100000 in
theorem c_X5_isBetterThan {l : Launch} {g : mG} (hO : mO l g) (m : mM) (h : Nat) (o : Nat) (hk : gK m h = some (.inl 7)) (hk2 : gK m o = some (.inl 7)) : mT l g yX5_isBetterThan (.code yX5_isBetterThan cX5_isBetterThan 2 (Option.some FieldType.boolean)) 1 20 0 0 [.ref h, .ref o] m (fun r m' => r = some (.int (X5_isBetterThan_r g m h o)) ∧ m' = m) nX := by
  refine mT_of hO (by decide) (Nat.le_of_ble_eq_true rfl) (fun x hX hZ => ?_)
  show mV g x m 0 0 0 [(0, .ref h), (1, .ref o)] []
  refine v_aload_n (pc := 0) hX dX5_isBetterThan_0 rfl ?_
  refine v_get (v := .int (gI m 224 h)) (pc := 1) hX dX5_isBetterThan_1 hk (ci := 7) (r := vwC7) rfl 0 (by decide) wd_138 rfl ?_
  refine v_aload_n (pc := 4) hX dX5_isBetterThan_4 rfl ?_
  refine v_get (v := .int (gI m 224 o)) (pc := 5) hX dX5_isBetterThan_5 hk2 (ci := 7) (r := vwC7) rfl 0 (by decide) wd_138 rfl ?_
  refine v_icmp_eq (tgt := 28) (pc := 8) hX dX5_isBetterThan_8 (by decide) (fun c1 => ?_) (fun c1 => ?_)
  ·
    refine v_aload_n (pc := 28) hX dX5_isBetterThan_28 rfl ?_
    refine v_get (v := .int (gI m 225 h)) (pc := 29) hX dX5_isBetterThan_29 hk (ci := 7) (r := vwC7) rfl 1 (by decide) wd_141 rfl ?_
    refine v_aload_n (pc := 32) hX dX5_isBetterThan_32 rfl ?_
    refine v_get (v := .int (gI m 225 o)) (pc := 33) hX dX5_isBetterThan_33 hk2 (ci := 7) (r := vwC7) rfl 1 (by decide) wd_141 rfl ?_
    refine v_icmp_ge (tgt := 43) (pc := 36) hX dX5_isBetterThan_36 (by decide) (fun c2 => ?_) (fun c2 => ?_)
    ·
      refine v_iconst (v := 0) (pc := 43) hX dX5_isBetterThan_43 (by decide) ?_
      exact v_zret (pc := 44) hX hZ dX5_isBetterThan_44 rfl (by decide) (by decide) ⟨(by rw [X5_isBetterThan_r, if_pos c1, if_pos c2]), rfl⟩
    ·
      refine v_iconst (v := 1) (pc := 39) hX dX5_isBetterThan_39 (by decide) ?_
      refine v_goto (tgt := 44) (pc := 40) hX dX5_isBetterThan_40 (by decide) ?_
      exact v_zret (pc := 44) hX hZ dX5_isBetterThan_44 rfl (by decide) (by decide) ⟨(by rw [X5_isBetterThan_r, if_pos c1, if_neg c2]), rfl⟩
  ·
    refine v_aload_n (pc := 11) hX dX5_isBetterThan_11 rfl ?_
    refine v_get (v := .int (gI m 224 h)) (pc := 12) hX dX5_isBetterThan_12 hk (ci := 7) (r := vwC7) rfl 0 (by decide) wd_138 rfl ?_
    refine v_aload_n (pc := 15) hX dX5_isBetterThan_15 rfl ?_
    refine v_get (v := .int (gI m 224 o)) (pc := 16) hX dX5_isBetterThan_16 hk2 (ci := 7) (r := vwC7) rfl 0 (by decide) wd_138 rfl ?_
    refine v_icmp_le (tgt := 26) (pc := 19) hX dX5_isBetterThan_19 (by decide) (fun c3 => ?_) (fun c3 => ?_)
    ·
      refine v_iconst (v := 0) (pc := 26) hX dX5_isBetterThan_26 (by decide) ?_
      exact v_zret (pc := 27) hX hZ dX5_isBetterThan_27 rfl (by decide) (by decide) ⟨(by rw [X5_isBetterThan_r, if_neg c1, if_pos c3]), rfl⟩
    ·
      refine v_iconst (v := 1) (pc := 22) hX dX5_isBetterThan_22 (by decide) ?_
      refine v_goto (tgt := 27) (pc := 23) hX dX5_isBetterThan_23 (by decide) ?_
      exact v_zret (pc := 27) hX hZ dX5_isBetterThan_27 rfl (by decide) (by decide) ⟨(by rw [X5_isBetterThan_r, if_neg c1, if_neg c3]), rfl⟩
def X4_init_m (g : mG) (m : mM) (h : Nat) : mM := (sJ (sI (sI (sI m 192 h 20) 193 h 0) 194 h 20) 195 h ((0 : Int64)))
set_option maxHeartbeats 4000000 in
set_option maxRecDepth 100000 in
theorem c_X4_init {l : Launch} {g : mG} (hO : mO l g) (m : mM) (h : Nat) (hk : gK m h = some (.inl 6)) : mT l g yX4_init (.code yX4_init cX4_init 1 (Option.none : Option FieldType)) 1 20 0 0 [.ref h] m (fun r m' => r = none ∧ m' = X4_init_m g m h) nX := by
  refine mT_of hO (by decide) (Nat.le_of_ble_eq_true rfl) (fun x hX hZ => ?_)
  show mV g x m 0 0 0 [(0, .ref h)] []
  refine v_aload_n (pc := 0) hX dX4_init_0 rfl ?_
  refine v_objInit (pc := 1) hX dX4_init_1 wd_56 wd_43 wd_44 (by decide) (by decide) ?_
  refine v_aload_n (pc := 4) hX dX4_init_4 rfl ?_
  refine v_bipush (v := 20) (pc := 5) hX dX4_init_5 (by decide) ?_
  refine v_put (m1 := (sI m 192 h 20)) (pc := 7) hX dX4_init_7 hk (ci := 6) (r := vwC6) rfl 0 (by decide) wd_57 rfl rfl rfl rfl ?_
  refine v_aload_n (pc := 10) hX dX4_init_10 rfl ?_
  refine v_iconst (v := 0) (pc := 11) hX dX4_init_11 (by decide) ?_
  refine v_put (m1 := (sI (sI m 192 h 20) 193 h 0)) (pc := 12) hX dX4_init_12 (by simp only [mm]; exact hk) (ci := 6) (r := vwC6) rfl 1 (by decide) wd_61 rfl rfl rfl rfl ?_
  refine v_aload_n (pc := 15) hX dX4_init_15 rfl ?_
  refine v_bipush (v := 20) (pc := 16) hX dX4_init_16 (by decide) ?_
  refine v_put (m1 := (sI (sI (sI m 192 h 20) 193 h 0) 194 h 20)) (pc := 18) hX dX4_init_18 (by simp only [mm]; exact hk) (ci := 6) (r := vwC6) rfl 2 (by decide) wd_64 rfl rfl rfl rfl ?_
  refine v_aload_n (pc := 21) hX dX4_init_21 rfl ?_
  refine v_lconst (v := 0) (pc := 22) hX dX4_init_22 (by decide) ?_
  refine v_put (m1 := (sJ (sI (sI (sI m 192 h 20) 193 h 0) 194 h 20) 195 h ((0 : Int64)))) (pc := 23) hX dX4_init_23 (by simp only [mm]; exact hk) (ci := 6) (r := vwC6) rfl 3 (by decide) wd_67 rfl rfl rfl rfl ?_
  exact v_vret (pc := 26) hX hZ dX4_init_26 (by decide) (by decide) ⟨rfl, (by rw [X4_init_m])⟩
theorem kK_X4_init (g : mG) (m : mM) (h : Nat) : gK (X4_init_m g m h) = gK m := by
  unfold X4_init_m
  repeat' split
  all_goals simp only [mm]
theorem kN_X4_init (g : mG) (m : mM) (h : Nat) : gN (X4_init_m g m h) = gN m := by
  unfold X4_init_m
  repeat' split
  all_goals simp only [mm]
theorem kI_X4_init (g : mG) (m : mM) (h : Nat) (k a9 : Nat) (h0 : k ≠ 192) (h1 : k ≠ 193) (h2 : k ≠ 194) : gI (X4_init_m g m h) k a9 = gI m k a9 := by
  unfold X4_init_m
  repeat' split
  all_goals simp [mm, h0, h1, h2]
theorem kJ_X4_init (g : mG) (m : mM) (h : Nat) (k a9 : Nat) (h0 : k ≠ 195) : gJ (X4_init_m g m h) k a9 = gJ m k a9 := by
  unfold X4_init_m
  repeat' split
  all_goals simp [mm, h0]
theorem kR_X4_init (g : mG) (m : mM) (h : Nat) : gR (X4_init_m g m h) = gR m := by
  unfold X4_init_m
  repeat' split
  all_goals simp only [mm]
theorem kA_X4_init (g : mG) (m : mM) (h : Nat) : gA (X4_init_m g m h) = gA m := by
  unfold X4_init_m
  repeat' split
  all_goals simp only [mm]
theorem kQ_X4_init (g : mG) (m : mM) (h : Nat) : gQ (X4_init_m g m h) = gQ m := by
  unfold X4_init_m
  repeat' split
  all_goals simp only [mm]
theorem kL_X4_init (g : mG) (m : mM) (h : Nat) : gL (X4_init_m g m h) = gL m := by
  unfold X4_init_m
  repeat' split
  all_goals simp only [mm]
theorem kD_X4_init (g : mG) (m : mM) (h : Nat) : gD (X4_init_m g m h) = gD m := by
  unfold X4_init_m
  repeat' split
  all_goals simp only [mm]
theorem fr_X4_init (g : mG) (m : mM) (h : Nat)  : Fr h (h + 1) m (X4_init_m g m h) := by
  unfold X4_init_m
  exact ((((((((Fr.rf).I (by omega))).I (by omega))).I (by omega))).J (by omega))
def X4_copyFrom_m (g : mG) (m : mM) (h : Nat) (o : Nat) : mM := (sJ (sI (sI (sI m 192 h (gI m 192 o)) 193 h (gI m 193 o)) 194 h (gI m 194 o)) 195 h (gJ m 195 o))
set_option maxHeartbeats 4000000 in
set_option maxRecDepth 100000 in
theorem c_X4_copyFrom {l : Launch} {g : mG} (hO : mO l g) (m : mM) (h : Nat) (o : Nat) (hk : gK m h = some (.inl 6)) (hk2 : gK m o = some (.inl 6)) : mT l g yX4_copyFrom (.code yX4_copyFrom cX4_copyFrom 2 (Option.none : Option FieldType)) 1 20 0 0 [.ref h, .ref o] m (fun r m' => r = none ∧ m' = X4_copyFrom_m g m h o) nX := by
  refine mT_of hO (by decide) (Nat.le_of_ble_eq_true rfl) (fun x hX hZ => ?_)
  show mV g x m 0 0 0 [(0, .ref h), (1, .ref o)] []
  refine v_aload_n (pc := 0) hX dX4_copyFrom_0 rfl ?_
  refine v_aload_n (pc := 1) hX dX4_copyFrom_1 rfl ?_
  refine v_get (v := .int (gI m 192 o)) (pc := 2) hX dX4_copyFrom_2 hk2 (ci := 6) (r := vwC6) rfl 0 (by decide) wd_57 rfl ?_
  refine v_put (m1 := (sI m 192 h (gI m 192 o))) (pc := 5) hX dX4_copyFrom_5 hk (ci := 6) (r := vwC6) rfl 0 (by decide) wd_57 rfl rfl rfl rfl ?_
  refine v_aload_n (pc := 8) hX dX4_copyFrom_8 rfl ?_
  refine v_aload_n (pc := 9) hX dX4_copyFrom_9 rfl ?_
  refine v_get (v := .int (gI m 193 o)) (pc := 10) hX dX4_copyFrom_10 (by simp only [mm]; exact hk2) (ci := 6) (r := vwC6) rfl 1 (by decide) wd_61 (by show Value.int _ = Value.int _; simp [mm]) ?_
  refine v_put (m1 := (sI (sI m 192 h (gI m 192 o)) 193 h (gI m 193 o))) (pc := 13) hX dX4_copyFrom_13 (by simp only [mm]; exact hk) (ci := 6) (r := vwC6) rfl 1 (by decide) wd_61 rfl rfl rfl rfl ?_
  refine v_aload_n (pc := 16) hX dX4_copyFrom_16 rfl ?_
  refine v_aload_n (pc := 17) hX dX4_copyFrom_17 rfl ?_
  refine v_get (v := .int (gI m 194 o)) (pc := 18) hX dX4_copyFrom_18 (by simp only [mm]; exact hk2) (ci := 6) (r := vwC6) rfl 2 (by decide) wd_64 (by show Value.int _ = Value.int _; simp [mm]) ?_
  refine v_put (m1 := (sI (sI (sI m 192 h (gI m 192 o)) 193 h (gI m 193 o)) 194 h (gI m 194 o))) (pc := 21) hX dX4_copyFrom_21 (by simp only [mm]; exact hk) (ci := 6) (r := vwC6) rfl 2 (by decide) wd_64 rfl rfl rfl rfl ?_
  refine v_aload_n (pc := 24) hX dX4_copyFrom_24 rfl ?_
  refine v_aload_n (pc := 25) hX dX4_copyFrom_25 rfl ?_
  refine v_get (v := .long (gJ m 195 o)) (pc := 26) hX dX4_copyFrom_26 (by simp only [mm]; exact hk2) (ci := 6) (r := vwC6) rfl 3 (by decide) wd_67 (by show Value.long _ = Value.long _; simp [mm]) ?_
  refine v_put (m1 := (sJ (sI (sI (sI m 192 h (gI m 192 o)) 193 h (gI m 193 o)) 194 h (gI m 194 o)) 195 h (gJ m 195 o))) (pc := 29) hX dX4_copyFrom_29 (by simp only [mm]; exact hk) (ci := 6) (r := vwC6) rfl 3 (by decide) wd_67 rfl rfl rfl rfl ?_
  exact v_vret (pc := 32) hX hZ dX4_copyFrom_32 (by decide) (by decide) ⟨rfl, (by rw [X4_copyFrom_m])⟩
theorem kK_X4_copyFrom (g : mG) (m : mM) (h : Nat) (o : Nat) : gK (X4_copyFrom_m g m h o) = gK m := by
  unfold X4_copyFrom_m
  repeat' split
  all_goals simp only [mm]
theorem kN_X4_copyFrom (g : mG) (m : mM) (h : Nat) (o : Nat) : gN (X4_copyFrom_m g m h o) = gN m := by
  unfold X4_copyFrom_m
  repeat' split
  all_goals simp only [mm]
theorem kI_X4_copyFrom (g : mG) (m : mM) (h : Nat) (o : Nat) (k a9 : Nat) (h0 : k ≠ 192) (h1 : k ≠ 193) (h2 : k ≠ 194) : gI (X4_copyFrom_m g m h o) k a9 = gI m k a9 := by
  unfold X4_copyFrom_m
  repeat' split
  all_goals simp [mm, h0, h1, h2]
theorem kJ_X4_copyFrom (g : mG) (m : mM) (h : Nat) (o : Nat) (k a9 : Nat) (h0 : k ≠ 195) : gJ (X4_copyFrom_m g m h o) k a9 = gJ m k a9 := by
  unfold X4_copyFrom_m
  repeat' split
  all_goals simp [mm, h0]
theorem kR_X4_copyFrom (g : mG) (m : mM) (h : Nat) (o : Nat) : gR (X4_copyFrom_m g m h o) = gR m := by
  unfold X4_copyFrom_m
  repeat' split
  all_goals simp only [mm]
theorem kA_X4_copyFrom (g : mG) (m : mM) (h : Nat) (o : Nat) : gA (X4_copyFrom_m g m h o) = gA m := by
  unfold X4_copyFrom_m
  repeat' split
  all_goals simp only [mm]
theorem kQ_X4_copyFrom (g : mG) (m : mM) (h : Nat) (o : Nat) : gQ (X4_copyFrom_m g m h o) = gQ m := by
  unfold X4_copyFrom_m
  repeat' split
  all_goals simp only [mm]
theorem kL_X4_copyFrom (g : mG) (m : mM) (h : Nat) (o : Nat) : gL (X4_copyFrom_m g m h o) = gL m := by
  unfold X4_copyFrom_m
  repeat' split
  all_goals simp only [mm]
theorem kD_X4_copyFrom (g : mG) (m : mM) (h : Nat) (o : Nat) : gD (X4_copyFrom_m g m h o) = gD m := by
  unfold X4_copyFrom_m
  repeat' split
  all_goals simp only [mm]
theorem fr_X4_copyFrom (g : mG) (m : mM) (h : Nat) (o : Nat)  : Fr h (h + 1) m (X4_copyFrom_m g m h o) := by
  unfold X4_copyFrom_m
  exact ((((((((Fr.rf).I (by omega))).I (by omega))).I (by omega))).J (by omega))
def X4_burn_m (g : mG) (m : mM) (h : Nat) : mM := if (gI m 193 h) ≤ (gI m 194 h) then ((sI (sJ (sI m 194 h ((gI m 194 h) - (gI m 193 h))) 195 h ((gJ m 195 h) + ((gI m 193 h).toInt64))) 192 h (imin 1200 ((gI m 192 h) + (20 * (gI m 193 h)))))) else ((sI m 193 h 0))
set_option maxHeartbeats 4000000 in
set_option maxRecDepth 100000 in
theorem c_X4_burn {l : Launch} {g : mG} (hO : mO l g) (m : mM) (h : Nat) (hk : gK m h = some (.inl 6)) : mT l g yX4_burn (.code yX4_burn cX4_burn 1 (Option.none : Option FieldType)) 1 21 0 0 [.ref h] m (fun r m' => r = none ∧ m' = X4_burn_m g m h) nX := by
  refine mT_of hO (by decide) (Nat.le_of_ble_eq_true rfl) (fun x hX hZ => ?_)
  show mV g x m 0 0 0 [(0, .ref h)] []
  refine v_aload_n (pc := 0) hX dX4_burn_0 rfl ?_
  refine v_get (v := .int (gI m 194 h)) (pc := 1) hX dX4_burn_1 hk (ci := 6) (r := vwC6) rfl 2 (by decide) wd_64 rfl ?_
  refine v_aload_n (pc := 4) hX dX4_burn_4 rfl ?_
  refine v_get (v := .int (gI m 193 h)) (pc := 5) hX dX4_burn_5 hk (ci := 6) (r := vwC6) rfl 1 (by decide) wd_61 rfl ?_
  refine v_icmp_ge (tgt := 17) (pc := 8) hX dX4_burn_8 (by decide) (fun c1 => ?_) (fun c1 => ?_)
  ·
    refine v_aload_n (pc := 17) hX dX4_burn_17 rfl ?_
    refine v_dup (pc := 18) hX dX4_burn_18 rfl ?_
    refine v_get (v := .int (gI m 194 h)) (pc := 19) hX dX4_burn_19 hk (ci := 6) (r := vwC6) rfl 2 (by decide) wd_64 rfl ?_
    refine v_aload_n (pc := 22) hX dX4_burn_22 rfl ?_
    refine v_get (v := .int (gI m 193 h)) (pc := 23) hX dX4_burn_23 hk (ci := 6) (r := vwC6) rfl 1 (by decide) wd_61 rfl ?_
    refine v_isub (pc := 26) hX dX4_burn_26 ?_
    refine v_put (m1 := (sI m 194 h ((gI m 194 h) - (gI m 193 h)))) (pc := 27) hX dX4_burn_27 hk (ci := 6) (r := vwC6) rfl 2 (by decide) wd_64 rfl rfl rfl rfl ?_
    refine v_aload_n (pc := 30) hX dX4_burn_30 rfl ?_
    refine v_dup (pc := 31) hX dX4_burn_31 rfl ?_
    refine v_get (v := .long (gJ m 195 h)) (pc := 32) hX dX4_burn_32 (by simp only [mm]; exact hk) (ci := 6) (r := vwC6) rfl 3 (by decide) wd_67 (by show Value.long _ = Value.long _; simp [mm]) ?_
    refine v_aload_n (pc := 35) hX dX4_burn_35 rfl ?_
    refine v_get (v := .int (gI m 193 h)) (pc := 36) hX dX4_burn_36 (by simp only [mm]; exact hk) (ci := 6) (r := vwC6) rfl 1 (by decide) wd_61 (by show Value.int _ = Value.int _; simp [mm]) ?_
    refine v_i2l (pc := 39) hX dX4_burn_39 ?_
    refine v_ladd (pc := 40) hX dX4_burn_40 ?_
    refine v_put (m1 := (sJ (sI m 194 h ((gI m 194 h) - (gI m 193 h))) 195 h ((gJ m 195 h) + ((gI m 193 h).toInt64)))) (pc := 41) hX dX4_burn_41 (by simp only [mm]; exact hk) (ci := 6) (r := vwC6) rfl 3 (by decide) wd_67 rfl rfl rfl rfl ?_
    refine v_aload_n (pc := 44) hX dX4_burn_44 rfl ?_
    refine v_sipush (v := 1200) (pc := 45) hX dX4_burn_45 (by decide) ?_
    refine v_aload_n (pc := 48) hX dX4_burn_48 rfl ?_
    refine v_get (v := .int (gI m 192 h)) (pc := 49) hX dX4_burn_49 (by simp only [mm]; exact hk) (ci := 6) (r := vwC6) rfl 0 (by decide) wd_57 (by show Value.int _ = Value.int _; simp [mm]) ?_
    refine v_bipush (v := 20) (pc := 52) hX dX4_burn_52 (by decide) ?_
    refine v_aload_n (pc := 54) hX dX4_burn_54 rfl ?_
    refine v_get (v := .int (gI m 193 h)) (pc := 55) hX dX4_burn_55 (by simp only [mm]; exact hk) (ci := 6) (r := vwC6) rfl 1 (by decide) wd_61 (by show Value.int _ = Value.int _; simp [mm]) ?_
    refine v_imul (pc := 58) hX dX4_burn_58 ?_
    refine v_iadd (pc := 59) hX dX4_burn_59 ?_
    refine v_mmin (pc := 60) hX dX4_burn_60 wd_444 (Nat.le_of_ble_eq_true rfl) ⟨by decide, by decide, by decide⟩ ?_
    refine v_put (m1 := (sI (sJ (sI m 194 h ((gI m 194 h) - (gI m 193 h))) 195 h ((gJ m 195 h) + ((gI m 193 h).toInt64))) 192 h (imin 1200 ((gI m 192 h) + (20 * (gI m 193 h)))))) (pc := 63) hX dX4_burn_63 (by simp only [mm]; exact hk) (ci := 6) (r := vwC6) rfl 0 (by decide) wd_57 rfl rfl rfl rfl ?_
    exact v_vret (pc := 66) hX hZ dX4_burn_66 (by decide) (by decide) ⟨rfl, (by rw [X4_burn_m, if_pos c1])⟩
  ·
    refine v_aload_n (pc := 11) hX dX4_burn_11 rfl ?_
    refine v_iconst (v := 0) (pc := 12) hX dX4_burn_12 (by decide) ?_
    refine v_put (m1 := (sI m 193 h 0)) (pc := 13) hX dX4_burn_13 hk (ci := 6) (r := vwC6) rfl 1 (by decide) wd_61 rfl rfl rfl rfl ?_
    exact v_vret (pc := 16) hX hZ dX4_burn_16 (by decide) (by decide) ⟨rfl, (by rw [X4_burn_m, if_neg c1])⟩
theorem kK_X4_burn (g : mG) (m : mM) (h : Nat) : gK (X4_burn_m g m h) = gK m := by
  unfold X4_burn_m
  repeat' split
  all_goals simp only [mm]
theorem kN_X4_burn (g : mG) (m : mM) (h : Nat) : gN (X4_burn_m g m h) = gN m := by
  unfold X4_burn_m
  repeat' split
  all_goals simp only [mm]
theorem kI_X4_burn (g : mG) (m : mM) (h : Nat) (k a9 : Nat) (h0 : k ≠ 192) (h1 : k ≠ 193) (h2 : k ≠ 194) : gI (X4_burn_m g m h) k a9 = gI m k a9 := by
  unfold X4_burn_m
  repeat' split
  all_goals simp [mm, h0, h1, h2]
theorem kJ_X4_burn (g : mG) (m : mM) (h : Nat) (k a9 : Nat) (h0 : k ≠ 195) : gJ (X4_burn_m g m h) k a9 = gJ m k a9 := by
  unfold X4_burn_m
  repeat' split
  all_goals simp [mm, h0]
theorem kR_X4_burn (g : mG) (m : mM) (h : Nat) : gR (X4_burn_m g m h) = gR m := by
  unfold X4_burn_m
  repeat' split
  all_goals simp only [mm]
theorem kA_X4_burn (g : mG) (m : mM) (h : Nat) : gA (X4_burn_m g m h) = gA m := by
  unfold X4_burn_m
  repeat' split
  all_goals simp only [mm]
theorem kQ_X4_burn (g : mG) (m : mM) (h : Nat) : gQ (X4_burn_m g m h) = gQ m := by
  unfold X4_burn_m
  repeat' split
  all_goals simp only [mm]
theorem kL_X4_burn (g : mG) (m : mM) (h : Nat) : gL (X4_burn_m g m h) = gL m := by
  unfold X4_burn_m
  repeat' split
  all_goals simp only [mm]
theorem kD_X4_burn (g : mG) (m : mM) (h : Nat) : gD (X4_burn_m g m h) = gD m := by
  unfold X4_burn_m
  repeat' split
  all_goals simp only [mm]
theorem fr_X4_burn (g : mG) (m : mM) (h : Nat)  : Fr h (h + 1) m (X4_burn_m g m h) := by
  unfold X4_burn_m
  split
  ·
    exact ((((((Fr.rf).I (by omega))).J (by omega))).I (by omega))
  ·
    exact ((Fr.rf).I (by omega))
def X4_passMinute_m (g : mG) (m : mM) (h : Nat) : mM := (sI (X4_burn_m g m h) 192 h ((gI (X4_burn_m g m h) 192 h) - (((gI (X4_burn_m g m h) 192 h) - 20) / 20)))
set_option maxHeartbeats 4000000 in
set_option maxRecDepth 100000 in
theorem c_X4_passMinute {l : Launch} {g : mG} (hO : mO l g) (m : mM) (h : Nat) (hk : gK m h = some (.inl 6)) : mT l g yX4_passMinute (.code yX4_passMinute cX4_passMinute 1 (Option.none : Option FieldType)) 2 41 0 0 [.ref h] m (fun r m' => r = none ∧ m' = X4_passMinute_m g m h) nX := by
  refine mT_of hO (by decide) (Nat.le_of_ble_eq_true rfl) (fun x hX hZ => ?_)
  show mV g x m 0 0 0 [(0, .ref h)] []
  refine v_aload_n (pc := 0) hX dX4_passMinute_0 rfl ?_
  refine v_callV (z := yX4_burn) (pc := 1) hX dX4_passMinute_1 (c_X4_burn hO m h (by exact hk)) hk rfl wd_440 wd_442 wp_0 wd_3 wd_443 ⟨by decide, by decide, (by decide +kernel : (parseMethodDescriptor yX4_burn.desc).map (fun d => d.parameters.length) = some 0)⟩ rfl (Nat.le_of_ble_eq_true rfl) ⟨⟨by decide, by decide⟩, by decide, by decide⟩ (fun E m9 h9 => h9.elim) (fun r9 m9 h9 => ?_)
  obtain ⟨rfl, h8⟩ := h9
  replace h8 := h8.symm
  subst h8
  show mV g x _ _ _ _ _ []
  refine v_aload_n (pc := 4) hX dX4_passMinute_4 rfl ?_
  refine v_dup (pc := 5) hX dX4_passMinute_5 rfl ?_
  refine v_get (v := .int (gI (X4_burn_m g m h) 192 h)) (pc := 6) hX dX4_passMinute_6 (by simp only [mm, kK_X4_burn]; exact hk) (ci := 6) (r := vwC6) rfl 0 (by decide) wd_57 rfl ?_
  refine v_aload_n (pc := 9) hX dX4_passMinute_9 rfl ?_
  refine v_get (v := .int (gI (X4_burn_m g m h) 192 h)) (pc := 10) hX dX4_passMinute_10 (by simp only [mm, kK_X4_burn]; exact hk) (ci := 6) (r := vwC6) rfl 0 (by decide) wd_57 rfl ?_
  refine v_bipush (v := 20) (pc := 13) hX dX4_passMinute_13 (by decide) ?_
  refine v_isub (pc := 15) hX dX4_passMinute_15 ?_
  refine v_bipush (v := 20) (pc := 16) hX dX4_passMinute_16 (by decide) ?_
  refine v_idiv (pc := 18) hX dX4_passMinute_18 (by decide) ?_
  refine v_isub (pc := 19) hX dX4_passMinute_19 ?_
  refine v_put (m1 := (sI (X4_burn_m g m h) 192 h ((gI (X4_burn_m g m h) 192 h) - (((gI (X4_burn_m g m h) 192 h) - 20) / 20)))) (pc := 20) hX dX4_passMinute_20 (by simp only [mm, kK_X4_burn]; exact hk) (ci := 6) (r := vwC6) rfl 0 (by decide) wd_57 rfl rfl rfl rfl ?_
  exact v_vret (pc := 23) hX hZ dX4_passMinute_23 (by decide) (by decide) ⟨rfl, (by rw [X4_passMinute_m])⟩
theorem kK_X4_passMinute (g : mG) (m : mM) (h : Nat) : gK (X4_passMinute_m g m h) = gK m := by
  unfold X4_passMinute_m
  repeat' split
  all_goals simp only [mm, kK_X4_burn]
theorem kN_X4_passMinute (g : mG) (m : mM) (h : Nat) : gN (X4_passMinute_m g m h) = gN m := by
  unfold X4_passMinute_m
  repeat' split
  all_goals simp only [mm, kN_X4_burn]
theorem kI_X4_passMinute (g : mG) (m : mM) (h : Nat) (k a9 : Nat) (h0 : k ≠ 192) (h1 : k ≠ 193) (h2 : k ≠ 194) : gI (X4_passMinute_m g m h) k a9 = gI m k a9 := by
  unfold X4_passMinute_m
  repeat' split
  all_goals simp [mm, kI_X4_burn, h0, h1, h2]
theorem kJ_X4_passMinute (g : mG) (m : mM) (h : Nat) (k a9 : Nat) (h0 : k ≠ 195) : gJ (X4_passMinute_m g m h) k a9 = gJ m k a9 := by
  unfold X4_passMinute_m
  repeat' split
  all_goals simp [mm, kJ_X4_burn, h0]
theorem kR_X4_passMinute (g : mG) (m : mM) (h : Nat) : gR (X4_passMinute_m g m h) = gR m := by
  unfold X4_passMinute_m
  repeat' split
  all_goals simp only [mm, kR_X4_burn]
theorem kA_X4_passMinute (g : mG) (m : mM) (h : Nat) : gA (X4_passMinute_m g m h) = gA m := by
  unfold X4_passMinute_m
  repeat' split
  all_goals simp only [mm, kA_X4_burn]
theorem kQ_X4_passMinute (g : mG) (m : mM) (h : Nat) : gQ (X4_passMinute_m g m h) = gQ m := by
  unfold X4_passMinute_m
  repeat' split
  all_goals simp only [mm, kQ_X4_burn]
theorem kL_X4_passMinute (g : mG) (m : mM) (h : Nat) : gL (X4_passMinute_m g m h) = gL m := by
  unfold X4_passMinute_m
  repeat' split
  all_goals simp only [mm, kL_X4_burn]
theorem kD_X4_passMinute (g : mG) (m : mM) (h : Nat) : gD (X4_passMinute_m g m h) = gD m := by
  unfold X4_passMinute_m
  repeat' split
  all_goals simp only [mm, kD_X4_burn]
theorem fr_X4_passMinute (g : mG) (m : mM) (h : Nat)  : Fr h (h + 1) m (X4_passMinute_m g m h) := by
  unfold X4_passMinute_m
  exact ((((Fr.rf).tr (fr_X4_burn g m h ) (by omega) (by omega))).I (by omega))
def X7_init_m (g : mG) (m : mM) (h : Nat) : mM := (sR (sI (sI (sI (sI (sI (sI (sI m 288 h 0) 289 h 98) 290 h 20) 291 h 0) 292 h 10) 293 h 0) 294 h 0) 295 h (some (vdA g 0)))
set_option maxHeartbeats 4000000 in
set_option maxRecDepth 100000 in
theorem c_X7_init {l : Launch} {g : mG} (hO : mO l g) (m : mM) (h : Nat) (hk : gK m h = some (.inl 9)) : mT l g yX7_init (.code yX7_init cX7_init 1 (Option.none : Option FieldType)) 1 20 0 0 [.ref h] m (fun r m' => r = none ∧ m' = X7_init_m g m h) nX := by
  refine mT_of hO (by decide) (Nat.le_of_ble_eq_true rfl) (fun x hX hZ => ?_)
  show mV g x m 0 0 0 [(0, .ref h)] []
  refine v_aload_n (pc := 0) hX dX7_init_0 rfl ?_
  refine v_objInit (pc := 1) hX dX7_init_1 wd_87 wd_43 wd_44 (by decide) (by decide) ?_
  refine v_aload_n (pc := 4) hX dX7_init_4 rfl ?_
  refine v_iconst (v := 0) (pc := 5) hX dX7_init_5 (by decide) ?_
  refine v_put (m1 := (sI m 288 h 0)) (pc := 6) hX dX7_init_6 hk (ci := 9) (r := vwC9) rfl 0 (by decide) wd_90 rfl rfl rfl rfl ?_
  refine v_aload_n (pc := 9) hX dX7_init_9 rfl ?_
  refine v_bipush (v := 98) (pc := 10) hX dX7_init_10 (by decide) ?_
  refine v_put (m1 := (sI (sI m 288 h 0) 289 h 98)) (pc := 12) hX dX7_init_12 (by simp only [mm]; exact hk) (ci := 9) (r := vwC9) rfl 1 (by decide) wd_94 rfl (by decide) (by decide) rfl ?_
  refine v_aload_n (pc := 15) hX dX7_init_15 rfl ?_
  refine v_bipush (v := 20) (pc := 16) hX dX7_init_16 (by decide) ?_
  refine v_put (m1 := (sI (sI (sI m 288 h 0) 289 h 98) 290 h 20)) (pc := 18) hX dX7_init_18 (by simp only [mm]; exact hk) (ci := 9) (r := vwC9) rfl 2 (by decide) wd_97 rfl rfl rfl rfl ?_
  refine v_aload_n (pc := 21) hX dX7_init_21 rfl ?_
  refine v_iconst (v := 0) (pc := 22) hX dX7_init_22 (by decide) ?_
  refine v_put (m1 := (sI (sI (sI (sI m 288 h 0) 289 h 98) 290 h 20) 291 h 0)) (pc := 23) hX dX7_init_23 (by simp only [mm]; exact hk) (ci := 9) (r := vwC9) rfl 3 (by decide) wd_101 rfl rfl rfl rfl ?_
  refine v_aload_n (pc := 26) hX dX7_init_26 rfl ?_
  refine v_bipush (v := 10) (pc := 27) hX dX7_init_27 (by decide) ?_
  refine v_put (m1 := (sI (sI (sI (sI (sI m 288 h 0) 289 h 98) 290 h 20) 291 h 0) 292 h 10)) (pc := 29) hX dX7_init_29 (by simp only [mm]; exact hk) (ci := 9) (r := vwC9) rfl 4 (by decide) wd_104 rfl rfl rfl rfl ?_
  refine v_aload_n (pc := 32) hX dX7_init_32 rfl ?_
  refine v_iconst (v := 0) (pc := 33) hX dX7_init_33 (by decide) ?_
  refine v_put (m1 := (sI (sI (sI (sI (sI (sI m 288 h 0) 289 h 98) 290 h 20) 291 h 0) 292 h 10) 293 h 0)) (pc := 34) hX dX7_init_34 (by simp only [mm]; exact hk) (ci := 9) (r := vwC9) rfl 5 (by decide) wd_107 rfl (by decide) (by decide) rfl ?_
  refine v_aload_n (pc := 37) hX dX7_init_37 rfl ?_
  refine v_iconst (v := 0) (pc := 38) hX dX7_init_38 (by decide) ?_
  refine v_put (m1 := (sI (sI (sI (sI (sI (sI (sI m 288 h 0) 289 h 98) 290 h 20) 291 h 0) 292 h 10) 293 h 0) 294 h 0)) (pc := 39) hX dX7_init_39 (by simp only [mm]; exact hk) (ci := 9) (r := vwC9) rfl 6 (by decide) wd_110 rfl (by decide) (by decide) rfl ?_
  refine v_aload_n (pc := 42) hX dX7_init_42 rfl ?_
  refine v_gets (pc := 43) hX dX7_init_43 (vd_Z0 hO) wd_88 ?_
  refine v_put (m1 := (sR (sI (sI (sI (sI (sI (sI (sI m 288 h 0) 289 h 98) 290 h 20) 291 h 0) 292 h 10) 293 h 0) 294 h 0) 295 h (some (vdA g 0)))) (pc := 46) hX dX7_init_46 (by simp only [mm]; exact hk) (ci := 9) (r := vwC9) rfl 7 (by decide) wd_113 rfl rfl rfl rfl ?_
  exact v_vret (pc := 49) hX hZ dX7_init_49 (by decide) (by decide) ⟨rfl, (by rw [X7_init_m])⟩
theorem kK_X7_init (g : mG) (m : mM) (h : Nat) : gK (X7_init_m g m h) = gK m := by
  unfold X7_init_m
  repeat' split
  all_goals simp only [mm]
theorem kN_X7_init (g : mG) (m : mM) (h : Nat) : gN (X7_init_m g m h) = gN m := by
  unfold X7_init_m
  repeat' split
  all_goals simp only [mm]
theorem kI_X7_init (g : mG) (m : mM) (h : Nat) (k a9 : Nat) (h0 : k ≠ 288) (h1 : k ≠ 289) (h2 : k ≠ 290) (h3 : k ≠ 291) (h4 : k ≠ 292) (h5 : k ≠ 293) (h6 : k ≠ 294) : gI (X7_init_m g m h) k a9 = gI m k a9 := by
  unfold X7_init_m
  repeat' split
  all_goals simp [mm, h0, h1, h2, h3, h4, h5, h6]
theorem kJ_X7_init (g : mG) (m : mM) (h : Nat) : gJ (X7_init_m g m h) = gJ m := by
  unfold X7_init_m
  repeat' split
  all_goals simp only [mm]
theorem kR_X7_init (g : mG) (m : mM) (h : Nat) (k a9 : Nat) (h0 : k ≠ 295) : gR (X7_init_m g m h) k a9 = gR m k a9 := by
  unfold X7_init_m
  repeat' split
  all_goals simp [mm, h0]
theorem kA_X7_init (g : mG) (m : mM) (h : Nat) : gA (X7_init_m g m h) = gA m := by
  unfold X7_init_m
  repeat' split
  all_goals simp only [mm]
theorem kQ_X7_init (g : mG) (m : mM) (h : Nat) : gQ (X7_init_m g m h) = gQ m := by
  unfold X7_init_m
  repeat' split
  all_goals simp only [mm]
theorem kL_X7_init (g : mG) (m : mM) (h : Nat) : gL (X7_init_m g m h) = gL m := by
  unfold X7_init_m
  repeat' split
  all_goals simp only [mm]
theorem kD_X7_init (g : mG) (m : mM) (h : Nat) : gD (X7_init_m g m h) = gD m := by
  unfold X7_init_m
  repeat' split
  all_goals simp only [mm]
theorem fr_X7_init (g : mG) (m : mM) (h : Nat)  : Fr h (h + 1) m (X7_init_m g m h) := by
  unfold X7_init_m
  exact ((((((((((((((((Fr.rf).I (by omega))).I (by omega))).I (by omega))).I (by omega))).I (by omega))).I (by omega))).I (by omega))).R (by omega))
def X7_begin_m (g : mG) (m : mM) (h : Nat) (a : Int32) (b : Int32) : mM := (sR (sI (sI (sI (sI (sI (sI (sI m 288 h a) 289 h b) 290 h 20) 291 h 0) 292 h 10) 293 h 0) 294 h 0) 295 h (some (vdA g 0)))
set_option maxHeartbeats 4000000 in
set_option maxRecDepth 100000 in
theorem c_X7_begin {l : Launch} {g : mG} (hO : mO l g) (m : mM) (h : Nat) (a : Int32) (b : Int32) (hk : gK m h = some (.inl 9)) (hn : narrow .char (.int b) = .int b ∧ fits .char (.int b) = true) : mT l g yX7_begin (.code yX7_begin cX7_begin 3 (Option.none : Option FieldType)) 1 20 0 0 [.ref h, .int a, .int b] m (fun r m' => r = none ∧ m' = X7_begin_m g m h a b) nX := by
  refine mT_of hO (by decide) (Nat.le_of_ble_eq_true rfl) (fun x hX hZ => ?_)
  show mV g x m 0 0 0 [(0, .ref h), (1, .int a), (2, .int b)] []
  refine v_aload_n (pc := 0) hX dX7_begin_0 rfl ?_
  refine v_iload_n (pc := 1) hX dX7_begin_1 rfl ?_
  refine v_put (m1 := (sI m 288 h a)) (pc := 2) hX dX7_begin_2 hk (ci := 9) (r := vwC9) rfl 0 (by decide) wd_90 rfl rfl rfl rfl ?_
  refine v_aload_n (pc := 5) hX dX7_begin_5 rfl ?_
  refine v_iload_n (pc := 6) hX dX7_begin_6 rfl ?_
  refine v_put (m1 := (sI (sI m 288 h a) 289 h b)) (pc := 7) hX dX7_begin_7 (by simp only [mm]; exact hk) (ci := 9) (r := vwC9) rfl 1 (by decide) wd_94 rfl hn.1 hn.2 rfl ?_
  refine v_aload_n (pc := 10) hX dX7_begin_10 rfl ?_
  refine v_bipush (v := 20) (pc := 11) hX dX7_begin_11 (by decide) ?_
  refine v_put (m1 := (sI (sI (sI m 288 h a) 289 h b) 290 h 20)) (pc := 13) hX dX7_begin_13 (by simp only [mm]; exact hk) (ci := 9) (r := vwC9) rfl 2 (by decide) wd_97 rfl rfl rfl rfl ?_
  refine v_aload_n (pc := 16) hX dX7_begin_16 rfl ?_
  refine v_iconst (v := 0) (pc := 17) hX dX7_begin_17 (by decide) ?_
  refine v_put (m1 := (sI (sI (sI (sI m 288 h a) 289 h b) 290 h 20) 291 h 0)) (pc := 18) hX dX7_begin_18 (by simp only [mm]; exact hk) (ci := 9) (r := vwC9) rfl 3 (by decide) wd_101 rfl rfl rfl rfl ?_
  refine v_aload_n (pc := 21) hX dX7_begin_21 rfl ?_
  refine v_bipush (v := 10) (pc := 22) hX dX7_begin_22 (by decide) ?_
  refine v_put (m1 := (sI (sI (sI (sI (sI m 288 h a) 289 h b) 290 h 20) 291 h 0) 292 h 10)) (pc := 24) hX dX7_begin_24 (by simp only [mm]; exact hk) (ci := 9) (r := vwC9) rfl 4 (by decide) wd_104 rfl rfl rfl rfl ?_
  refine v_aload_n (pc := 27) hX dX7_begin_27 rfl ?_
  refine v_iconst (v := 0) (pc := 28) hX dX7_begin_28 (by decide) ?_
  refine v_put (m1 := (sI (sI (sI (sI (sI (sI m 288 h a) 289 h b) 290 h 20) 291 h 0) 292 h 10) 293 h 0)) (pc := 29) hX dX7_begin_29 (by simp only [mm]; exact hk) (ci := 9) (r := vwC9) rfl 5 (by decide) wd_107 rfl (by decide) (by decide) rfl ?_
  refine v_aload_n (pc := 32) hX dX7_begin_32 rfl ?_
  refine v_iconst (v := 0) (pc := 33) hX dX7_begin_33 (by decide) ?_
  refine v_put (m1 := (sI (sI (sI (sI (sI (sI (sI m 288 h a) 289 h b) 290 h 20) 291 h 0) 292 h 10) 293 h 0) 294 h 0)) (pc := 34) hX dX7_begin_34 (by simp only [mm]; exact hk) (ci := 9) (r := vwC9) rfl 6 (by decide) wd_110 rfl (by decide) (by decide) rfl ?_
  refine v_aload_n (pc := 37) hX dX7_begin_37 rfl ?_
  refine v_gets (pc := 38) hX dX7_begin_38 (vd_Z0 hO) wd_88 ?_
  refine v_put (m1 := (sR (sI (sI (sI (sI (sI (sI (sI m 288 h a) 289 h b) 290 h 20) 291 h 0) 292 h 10) 293 h 0) 294 h 0) 295 h (some (vdA g 0)))) (pc := 41) hX dX7_begin_41 (by simp only [mm]; exact hk) (ci := 9) (r := vwC9) rfl 7 (by decide) wd_113 rfl rfl rfl rfl ?_
  exact v_vret (pc := 44) hX hZ dX7_begin_44 (by decide) (by decide) ⟨rfl, (by rw [X7_begin_m])⟩
theorem kK_X7_begin (g : mG) (m : mM) (h : Nat) (a : Int32) (b : Int32) : gK (X7_begin_m g m h a b) = gK m := by
  unfold X7_begin_m
  repeat' split
  all_goals simp only [mm]
theorem kN_X7_begin (g : mG) (m : mM) (h : Nat) (a : Int32) (b : Int32) : gN (X7_begin_m g m h a b) = gN m := by
  unfold X7_begin_m
  repeat' split
  all_goals simp only [mm]
theorem kI_X7_begin (g : mG) (m : mM) (h : Nat) (a : Int32) (b : Int32) (k a9 : Nat) (h0 : k ≠ 288) (h1 : k ≠ 289) (h2 : k ≠ 290) (h3 : k ≠ 291) (h4 : k ≠ 292) (h5 : k ≠ 293) (h6 : k ≠ 294) : gI (X7_begin_m g m h a b) k a9 = gI m k a9 := by
  unfold X7_begin_m
  repeat' split
  all_goals simp [mm, h0, h1, h2, h3, h4, h5, h6]
theorem kJ_X7_begin (g : mG) (m : mM) (h : Nat) (a : Int32) (b : Int32) : gJ (X7_begin_m g m h a b) = gJ m := by
  unfold X7_begin_m
  repeat' split
  all_goals simp only [mm]
theorem kR_X7_begin (g : mG) (m : mM) (h : Nat) (a : Int32) (b : Int32) (k a9 : Nat) (h0 : k ≠ 295) : gR (X7_begin_m g m h a b) k a9 = gR m k a9 := by
  unfold X7_begin_m
  repeat' split
  all_goals simp [mm, h0]
theorem kA_X7_begin (g : mG) (m : mM) (h : Nat) (a : Int32) (b : Int32) : gA (X7_begin_m g m h a b) = gA m := by
  unfold X7_begin_m
  repeat' split
  all_goals simp only [mm]
theorem kQ_X7_begin (g : mG) (m : mM) (h : Nat) (a : Int32) (b : Int32) : gQ (X7_begin_m g m h a b) = gQ m := by
  unfold X7_begin_m
  repeat' split
  all_goals simp only [mm]
theorem kL_X7_begin (g : mG) (m : mM) (h : Nat) (a : Int32) (b : Int32) : gL (X7_begin_m g m h a b) = gL m := by
  unfold X7_begin_m
  repeat' split
  all_goals simp only [mm]
theorem kD_X7_begin (g : mG) (m : mM) (h : Nat) (a : Int32) (b : Int32) : gD (X7_begin_m g m h a b) = gD m := by
  unfold X7_begin_m
  repeat' split
  all_goals simp only [mm]
theorem fr_X7_begin (g : mG) (m : mM) (h : Nat) (a : Int32) (b : Int32)  : Fr h (h + 1) m (X7_begin_m g m h a b) := by
  unfold X7_begin_m
  exact ((((((((((((((((Fr.rf).I (by omega))).I (by omega))).I (by omega))).I (by omega))).I (by omega))).I (by omega))).I (by omega))).R (by omega))
def X7_copyFrom_m (g : mG) (m : mM) (h : Nat) (o : Nat) : mM := (sR (sI (sI (sI (sI (sI (sI (sI m 288 h (gI m 288 o)) 289 h (gI m 289 o)) 290 h (gI m 290 o)) 291 h (gI m 291 o)) 292 h (gI m 292 o)) 293 h (gI m 293 o)) 294 h (gI m 294 o)) 295 h (gR m 295 o))
set_option maxHeartbeats 4000000 in
set_option maxRecDepth 100000 in
theorem c_X7_copyFrom {l : Launch} {g : mG} (hO : mO l g) (m : mM) (h : Nat) (o : Nat) (hk : gK m h = some (.inl 9)) (hk2 : gK m o = some (.inl 9)) : mT l g yX7_copyFrom (.code yX7_copyFrom cX7_copyFrom 2 (Option.none : Option FieldType)) 1 20 0 0 [.ref h, .ref o] m (fun r m' => r = none ∧ m' = X7_copyFrom_m g m h o) nX := by
  refine mT_of hO (by decide) (Nat.le_of_ble_eq_true rfl) (fun x hX hZ => ?_)
  show mV g x m 0 0 0 [(0, .ref h), (1, .ref o)] []
  refine mV_ok hk2 (r := vwC9) rfl 1 (by decide) (fun n1 f1 => ?_)
  refine mV_ok hk2 (r := vwC9) rfl 5 (by decide) (fun n5 f5 => ?_)
  refine mV_ok hk2 (r := vwC9) rfl 6 (by decide) (fun n6 f6 => ?_)
  refine v_aload_n (pc := 0) hX dX7_copyFrom_0 rfl ?_
  refine v_aload_n (pc := 1) hX dX7_copyFrom_1 rfl ?_
  refine v_get (v := .int (gI m 288 o)) (pc := 2) hX dX7_copyFrom_2 hk2 (ci := 9) (r := vwC9) rfl 0 (by decide) wd_90 rfl ?_
  refine v_put (m1 := (sI m 288 h (gI m 288 o))) (pc := 5) hX dX7_copyFrom_5 hk (ci := 9) (r := vwC9) rfl 0 (by decide) wd_90 rfl rfl rfl rfl ?_
  refine v_aload_n (pc := 8) hX dX7_copyFrom_8 rfl ?_
  refine v_aload_n (pc := 9) hX dX7_copyFrom_9 rfl ?_
  refine v_get (v := .int (gI m 289 o)) (pc := 10) hX dX7_copyFrom_10 (by simp only [mm]; exact hk2) (ci := 9) (r := vwC9) rfl 1 (by decide) wd_94 (by show Value.int _ = Value.int _; simp [mm]) ?_
  refine v_put (m1 := (sI (sI m 288 h (gI m 288 o)) 289 h (gI m 289 o))) (pc := 13) hX dX7_copyFrom_13 (by simp only [mm]; exact hk) (ci := 9) (r := vwC9) rfl 1 (by decide) wd_94 rfl n1 f1 rfl ?_
  refine v_aload_n (pc := 16) hX dX7_copyFrom_16 rfl ?_
  refine v_aload_n (pc := 17) hX dX7_copyFrom_17 rfl ?_
  refine v_get (v := .int (gI m 290 o)) (pc := 18) hX dX7_copyFrom_18 (by simp only [mm]; exact hk2) (ci := 9) (r := vwC9) rfl 2 (by decide) wd_97 (by show Value.int _ = Value.int _; simp [mm]) ?_
  refine v_put (m1 := (sI (sI (sI m 288 h (gI m 288 o)) 289 h (gI m 289 o)) 290 h (gI m 290 o))) (pc := 21) hX dX7_copyFrom_21 (by simp only [mm]; exact hk) (ci := 9) (r := vwC9) rfl 2 (by decide) wd_97 rfl rfl rfl rfl ?_
  refine v_aload_n (pc := 24) hX dX7_copyFrom_24 rfl ?_
  refine v_aload_n (pc := 25) hX dX7_copyFrom_25 rfl ?_
  refine v_get (v := .int (gI m 291 o)) (pc := 26) hX dX7_copyFrom_26 (by simp only [mm]; exact hk2) (ci := 9) (r := vwC9) rfl 3 (by decide) wd_101 (by show Value.int _ = Value.int _; simp [mm]) ?_
  refine v_put (m1 := (sI (sI (sI (sI m 288 h (gI m 288 o)) 289 h (gI m 289 o)) 290 h (gI m 290 o)) 291 h (gI m 291 o))) (pc := 29) hX dX7_copyFrom_29 (by simp only [mm]; exact hk) (ci := 9) (r := vwC9) rfl 3 (by decide) wd_101 rfl rfl rfl rfl ?_
  refine v_aload_n (pc := 32) hX dX7_copyFrom_32 rfl ?_
  refine v_aload_n (pc := 33) hX dX7_copyFrom_33 rfl ?_
  refine v_get (v := .int (gI m 292 o)) (pc := 34) hX dX7_copyFrom_34 (by simp only [mm]; exact hk2) (ci := 9) (r := vwC9) rfl 4 (by decide) wd_104 (by show Value.int _ = Value.int _; simp [mm]) ?_
  refine v_put (m1 := (sI (sI (sI (sI (sI m 288 h (gI m 288 o)) 289 h (gI m 289 o)) 290 h (gI m 290 o)) 291 h (gI m 291 o)) 292 h (gI m 292 o))) (pc := 37) hX dX7_copyFrom_37 (by simp only [mm]; exact hk) (ci := 9) (r := vwC9) rfl 4 (by decide) wd_104 rfl rfl rfl rfl ?_
  refine v_aload_n (pc := 40) hX dX7_copyFrom_40 rfl ?_
  refine v_aload_n (pc := 41) hX dX7_copyFrom_41 rfl ?_
  refine v_get (v := .int (gI m 293 o)) (pc := 42) hX dX7_copyFrom_42 (by simp only [mm]; exact hk2) (ci := 9) (r := vwC9) rfl 5 (by decide) wd_107 (by show Value.int _ = Value.int _; simp [mm]) ?_
  refine v_put (m1 := (sI (sI (sI (sI (sI (sI m 288 h (gI m 288 o)) 289 h (gI m 289 o)) 290 h (gI m 290 o)) 291 h (gI m 291 o)) 292 h (gI m 292 o)) 293 h (gI m 293 o))) (pc := 45) hX dX7_copyFrom_45 (by simp only [mm]; exact hk) (ci := 9) (r := vwC9) rfl 5 (by decide) wd_107 rfl n5 f5 rfl ?_
  refine v_aload_n (pc := 48) hX dX7_copyFrom_48 rfl ?_
  refine v_aload_n (pc := 49) hX dX7_copyFrom_49 rfl ?_
  refine v_get (v := .int (gI m 294 o)) (pc := 50) hX dX7_copyFrom_50 (by simp only [mm]; exact hk2) (ci := 9) (r := vwC9) rfl 6 (by decide) wd_110 (by show Value.int _ = Value.int _; simp [mm]) ?_
  refine v_put (m1 := (sI (sI (sI (sI (sI (sI (sI m 288 h (gI m 288 o)) 289 h (gI m 289 o)) 290 h (gI m 290 o)) 291 h (gI m 291 o)) 292 h (gI m 292 o)) 293 h (gI m 293 o)) 294 h (gI m 294 o))) (pc := 53) hX dX7_copyFrom_53 (by simp only [mm]; exact hk) (ci := 9) (r := vwC9) rfl 6 (by decide) wd_110 rfl n6 f6 rfl ?_
  refine v_aload_n (pc := 56) hX dX7_copyFrom_56 rfl ?_
  refine v_aload_n (pc := 57) hX dX7_copyFrom_57 rfl ?_
  refine v_get (v := va_rf (gR m 295 o)) (pc := 58) hX dX7_copyFrom_58 (by simp only [mm]; exact hk2) (ci := 9) (r := vwC9) rfl 7 (by decide) wd_113 (by show va_rf _ = va_rf _; simp [mm]) ?_
  refine v_put (m1 := (sR (sI (sI (sI (sI (sI (sI (sI m 288 h (gI m 288 o)) 289 h (gI m 289 o)) 290 h (gI m 290 o)) 291 h (gI m 291 o)) 292 h (gI m 292 o)) 293 h (gI m 293 o)) 294 h (gI m 294 o)) 295 h (gR m 295 o))) (pc := 61) hX dX7_copyFrom_61 (by simp only [mm]; exact hk) (ci := 9) (r := vwC9) rfl 7 (by decide) wd_113 rfl (nar_q _ _) (fit_q _ _) (sV_q _ _ _ _ _) ?_
  exact v_vret (pc := 64) hX hZ dX7_copyFrom_64 (by decide) (by decide) ⟨rfl, (by rw [X7_copyFrom_m])⟩
theorem kK_X7_copyFrom (g : mG) (m : mM) (h : Nat) (o : Nat) : gK (X7_copyFrom_m g m h o) = gK m := by
  unfold X7_copyFrom_m
  repeat' split
  all_goals simp only [mm]
theorem kN_X7_copyFrom (g : mG) (m : mM) (h : Nat) (o : Nat) : gN (X7_copyFrom_m g m h o) = gN m := by
  unfold X7_copyFrom_m
  repeat' split
  all_goals simp only [mm]
theorem kI_X7_copyFrom (g : mG) (m : mM) (h : Nat) (o : Nat) (k a9 : Nat) (h0 : k ≠ 288) (h1 : k ≠ 289) (h2 : k ≠ 290) (h3 : k ≠ 291) (h4 : k ≠ 292) (h5 : k ≠ 293) (h6 : k ≠ 294) : gI (X7_copyFrom_m g m h o) k a9 = gI m k a9 := by
  unfold X7_copyFrom_m
  repeat' split
  all_goals simp [mm, h0, h1, h2, h3, h4, h5, h6]
theorem kJ_X7_copyFrom (g : mG) (m : mM) (h : Nat) (o : Nat) : gJ (X7_copyFrom_m g m h o) = gJ m := by
  unfold X7_copyFrom_m
  repeat' split
  all_goals simp only [mm]
theorem kR_X7_copyFrom (g : mG) (m : mM) (h : Nat) (o : Nat) (k a9 : Nat) (h0 : k ≠ 295) : gR (X7_copyFrom_m g m h o) k a9 = gR m k a9 := by
  unfold X7_copyFrom_m
  repeat' split
  all_goals simp [mm, h0]
theorem kA_X7_copyFrom (g : mG) (m : mM) (h : Nat) (o : Nat) : gA (X7_copyFrom_m g m h o) = gA m := by
  unfold X7_copyFrom_m
  repeat' split
  all_goals simp only [mm]
theorem kQ_X7_copyFrom (g : mG) (m : mM) (h : Nat) (o : Nat) : gQ (X7_copyFrom_m g m h o) = gQ m := by
  unfold X7_copyFrom_m
  repeat' split
  all_goals simp only [mm]
theorem kL_X7_copyFrom (g : mG) (m : mM) (h : Nat) (o : Nat) : gL (X7_copyFrom_m g m h o) = gL m := by
  unfold X7_copyFrom_m
  repeat' split
  all_goals simp only [mm]
theorem kD_X7_copyFrom (g : mG) (m : mM) (h : Nat) (o : Nat) : gD (X7_copyFrom_m g m h o) = gD m := by
  unfold X7_copyFrom_m
  repeat' split
  all_goals simp only [mm]
theorem fr_X7_copyFrom (g : mG) (m : mM) (h : Nat) (o : Nat)  : Fr h (h + 1) m (X7_copyFrom_m g m h o) := by
  unfold X7_copyFrom_m
  exact ((((((((((((((((Fr.rf).I (by omega))).I (by omega))).I (by omega))).I (by omega))).I (by omega))).I (by omega))).I (by omega))).R (by omega))
def X7_changeTemperature_m (g : mG) (m : mM) (h : Nat) (a : Int32) : mM := if (gI m 293 h) = 0 then ((sI m 290 h ((gI m 290 h) - (((gI m 290 h) - 20) / 8)))) else (if a ≤ (gI m 290 h) then ((sI m 290 h ((gI m 290 h) - (((gI m 290 h) - a) / 4)))) else ((sI m 290 h ((gI m 290 h) + ((a - (gI m 290 h)) / 4)))))
set_option maxHeartbeats 4000000 in
set_option maxRecDepth 100000 in
theorem c_X7_changeTemperature {l : Launch} {g : mG} (hO : mO l g) (m : mM) (h : Nat) (a : Int32) (hk : gK m h = some (.inl 9)) : mT l g yX7_changeTemperature (.code yX7_changeTemperature cX7_changeTemperature 2 (Option.none : Option FieldType)) 1 20 0 0 [.ref h, .int a] m (fun r m' => r = none ∧ m' = X7_changeTemperature_m g m h a) nX := by
  refine mT_of hO (by decide) (Nat.le_of_ble_eq_true rfl) (fun x hX hZ => ?_)
  show mV g x m 0 0 0 [(0, .ref h), (1, .int a)] []
  refine v_aload_n (pc := 0) hX dX7_changeTemperature_0 rfl ?_
  refine v_get (v := .int (gI m 293 h)) (pc := 1) hX dX7_changeTemperature_1 hk (ci := 9) (r := vwC9) rfl 5 (by decide) wd_107 rfl ?_
  refine v_if_ne (tgt := 29) (pc := 4) hX dX7_changeTemperature_4 (by decide) (fun c1 => ?_) (fun c1 => ?_)
  ·
    refine v_aload_n (pc := 29) hX dX7_changeTemperature_29 rfl ?_
    refine v_get (v := .int (gI m 290 h)) (pc := 30) hX dX7_changeTemperature_30 hk (ci := 9) (r := vwC9) rfl 2 (by decide) wd_97 rfl ?_
    refine v_iload_n (pc := 33) hX dX7_changeTemperature_33 rfl ?_
    refine v_icmp_ge (tgt := 57) (pc := 34) hX dX7_changeTemperature_34 (by decide) (fun c2 => ?_) (fun c2 => ?_)
    ·
      refine v_aload_n (pc := 57) hX dX7_changeTemperature_57 rfl ?_
      refine v_dup (pc := 58) hX dX7_changeTemperature_58 rfl ?_
      refine v_get (v := .int (gI m 290 h)) (pc := 59) hX dX7_changeTemperature_59 hk (ci := 9) (r := vwC9) rfl 2 (by decide) wd_97 rfl ?_
      refine v_aload_n (pc := 62) hX dX7_changeTemperature_62 rfl ?_
      refine v_get (v := .int (gI m 290 h)) (pc := 63) hX dX7_changeTemperature_63 hk (ci := 9) (r := vwC9) rfl 2 (by decide) wd_97 rfl ?_
      refine v_iload_n (pc := 66) hX dX7_changeTemperature_66 rfl ?_
      refine v_isub (pc := 67) hX dX7_changeTemperature_67 ?_
      refine v_iconst (v := 4) (pc := 68) hX dX7_changeTemperature_68 (by decide) ?_
      refine v_idiv (pc := 69) hX dX7_changeTemperature_69 (by decide) ?_
      refine v_isub (pc := 70) hX dX7_changeTemperature_70 ?_
      refine v_put (m1 := (sI m 290 h ((gI m 290 h) - (((gI m 290 h) - a) / 4)))) (pc := 71) hX dX7_changeTemperature_71 hk (ci := 9) (r := vwC9) rfl 2 (by decide) wd_97 rfl rfl rfl rfl ?_
      exact v_vret (pc := 74) hX hZ dX7_changeTemperature_74 (by decide) (by decide) ⟨rfl, (by rw [X7_changeTemperature_m, if_neg c1, if_pos c2])⟩
    ·
      refine v_aload_n (pc := 37) hX dX7_changeTemperature_37 rfl ?_
      refine v_dup (pc := 38) hX dX7_changeTemperature_38 rfl ?_
      refine v_get (v := .int (gI m 290 h)) (pc := 39) hX dX7_changeTemperature_39 hk (ci := 9) (r := vwC9) rfl 2 (by decide) wd_97 rfl ?_
      refine v_iload_n (pc := 42) hX dX7_changeTemperature_42 rfl ?_
      refine v_aload_n (pc := 43) hX dX7_changeTemperature_43 rfl ?_
      refine v_get (v := .int (gI m 290 h)) (pc := 44) hX dX7_changeTemperature_44 hk (ci := 9) (r := vwC9) rfl 2 (by decide) wd_97 rfl ?_
      refine v_isub (pc := 47) hX dX7_changeTemperature_47 ?_
      refine v_iconst (v := 4) (pc := 48) hX dX7_changeTemperature_48 (by decide) ?_
      refine v_idiv (pc := 49) hX dX7_changeTemperature_49 (by decide) ?_
      refine v_iadd (pc := 50) hX dX7_changeTemperature_50 ?_
      refine v_put (m1 := (sI m 290 h ((gI m 290 h) + ((a - (gI m 290 h)) / 4)))) (pc := 51) hX dX7_changeTemperature_51 hk (ci := 9) (r := vwC9) rfl 2 (by decide) wd_97 rfl rfl rfl rfl ?_
      refine v_goto (tgt := 74) (pc := 54) hX dX7_changeTemperature_54 (by decide) ?_
      exact v_vret (pc := 74) hX hZ dX7_changeTemperature_74 (by decide) (by decide) ⟨rfl, (by rw [X7_changeTemperature_m, if_neg c1, if_neg c2])⟩
  ·
    refine v_aload_n (pc := 7) hX dX7_changeTemperature_7 rfl ?_
    refine v_dup (pc := 8) hX dX7_changeTemperature_8 rfl ?_
    refine v_get (v := .int (gI m 290 h)) (pc := 9) hX dX7_changeTemperature_9 hk (ci := 9) (r := vwC9) rfl 2 (by decide) wd_97 rfl ?_
    refine v_aload_n (pc := 12) hX dX7_changeTemperature_12 rfl ?_
    refine v_get (v := .int (gI m 290 h)) (pc := 13) hX dX7_changeTemperature_13 hk (ci := 9) (r := vwC9) rfl 2 (by decide) wd_97 rfl ?_
    refine v_bipush (v := 20) (pc := 16) hX dX7_changeTemperature_16 (by decide) ?_
    refine v_isub (pc := 18) hX dX7_changeTemperature_18 ?_
    refine v_bipush (v := 8) (pc := 19) hX dX7_changeTemperature_19 (by decide) ?_
    refine v_idiv (pc := 21) hX dX7_changeTemperature_21 (by decide) ?_
    refine v_isub (pc := 22) hX dX7_changeTemperature_22 ?_
    refine v_put (m1 := (sI m 290 h ((gI m 290 h) - (((gI m 290 h) - 20) / 8)))) (pc := 23) hX dX7_changeTemperature_23 hk (ci := 9) (r := vwC9) rfl 2 (by decide) wd_97 rfl rfl rfl rfl ?_
    refine v_goto (tgt := 74) (pc := 26) hX dX7_changeTemperature_26 (by decide) ?_
    exact v_vret (pc := 74) hX hZ dX7_changeTemperature_74 (by decide) (by decide) ⟨rfl, (by rw [X7_changeTemperature_m, if_pos c1])⟩
theorem kK_X7_changeTemperature (g : mG) (m : mM) (h : Nat) (a : Int32) : gK (X7_changeTemperature_m g m h a) = gK m := by
  unfold X7_changeTemperature_m
  repeat' split
  all_goals simp only [mm]
theorem kN_X7_changeTemperature (g : mG) (m : mM) (h : Nat) (a : Int32) : gN (X7_changeTemperature_m g m h a) = gN m := by
  unfold X7_changeTemperature_m
  repeat' split
  all_goals simp only [mm]
theorem kI_X7_changeTemperature (g : mG) (m : mM) (h : Nat) (a : Int32) (k a9 : Nat) (h0 : k ≠ 290) : gI (X7_changeTemperature_m g m h a) k a9 = gI m k a9 := by
  unfold X7_changeTemperature_m
  repeat' split
  all_goals simp [mm, h0]
theorem kJ_X7_changeTemperature (g : mG) (m : mM) (h : Nat) (a : Int32) : gJ (X7_changeTemperature_m g m h a) = gJ m := by
  unfold X7_changeTemperature_m
  repeat' split
  all_goals simp only [mm]
theorem kR_X7_changeTemperature (g : mG) (m : mM) (h : Nat) (a : Int32) : gR (X7_changeTemperature_m g m h a) = gR m := by
  unfold X7_changeTemperature_m
  repeat' split
  all_goals simp only [mm]
theorem kA_X7_changeTemperature (g : mG) (m : mM) (h : Nat) (a : Int32) : gA (X7_changeTemperature_m g m h a) = gA m := by
  unfold X7_changeTemperature_m
  repeat' split
  all_goals simp only [mm]
theorem kQ_X7_changeTemperature (g : mG) (m : mM) (h : Nat) (a : Int32) : gQ (X7_changeTemperature_m g m h a) = gQ m := by
  unfold X7_changeTemperature_m
  repeat' split
  all_goals simp only [mm]
theorem kL_X7_changeTemperature (g : mG) (m : mM) (h : Nat) (a : Int32) : gL (X7_changeTemperature_m g m h a) = gL m := by
  unfold X7_changeTemperature_m
  repeat' split
  all_goals simp only [mm]
theorem kD_X7_changeTemperature (g : mG) (m : mM) (h : Nat) (a : Int32) : gD (X7_changeTemperature_m g m h a) = gD m := by
  unfold X7_changeTemperature_m
  repeat' split
  all_goals simp only [mm]
theorem fr_X7_changeTemperature (g : mG) (m : mM) (h : Nat) (a : Int32)  : Fr h (h + 1) m (X7_changeTemperature_m g m h a) := by
  unfold X7_changeTemperature_m
  split
  ·
    exact ((Fr.rf).I (by omega))
  ·
    split
    ·
      exact ((Fr.rf).I (by omega))
    ·
      exact ((Fr.rf).I (by omega))
def X7_temper_m (g : mG) (m : mM) (h : Nat) : mM := if (gI m 294 h) = 0 then m else (if (gI m 290 h) < 200 then (if (gI m 290 h) < 700 then m else ((sI (sR (sI m 294 h 0) 295 h (some (vdA g 0))) 292 h 10))) else (if 400 < (gI m 290 h) then (if (gI m 290 h) < 700 then m else ((sI (sR (sI m 294 h 0) 295 h (some (vdA g 0))) 292 h 10))) else (if (gI m 290 h) < 700 then ((sI m 292 h (imax 0 ((gI m 292 h) - 1)))) else ((sI (sR (sI (sI m 292 h (imax 0 ((gI m 292 h) - 1))) 294 h 0) 295 h (some (vdA g 0))) 292 h 10)))))
set_option maxHeartbeats 4000000 in
set_option maxRecDepth 100000 in
theorem c_X7_temper {l : Launch} {g : mG} (hO : mO l g) (m : mM) (h : Nat) (hk : gK m h = some (.inl 9)) : mT l g yX7_temper (.code yX7_temper cX7_temper 1 (Option.none : Option FieldType)) 1 21 0 0 [.ref h] m (fun r m' => r = none ∧ m' = X7_temper_m g m h) nX := by
  refine mT_of hO (by decide) (Nat.le_of_ble_eq_true rfl) (fun x hX hZ => ?_)
  show mV g x m 0 0 0 [(0, .ref h)] []
  refine v_aload_n (pc := 0) hX dX7_temper_0 rfl ?_
  refine v_get (v := .int (gI m 294 h)) (pc := 1) hX dX7_temper_1 hk (ci := 9) (r := vwC9) rfl 6 (by decide) wd_110 rfl ?_
  refine v_if_ne (tgt := 8) (pc := 4) hX dX7_temper_4 (by decide) (fun c1 => ?_) (fun c1 => ?_)
  ·
    refine v_aload_n (pc := 8) hX dX7_temper_8 rfl ?_
    refine v_get (v := .int (gI m 290 h)) (pc := 9) hX dX7_temper_9 hk (ci := 9) (r := vwC9) rfl 2 (by decide) wd_97 rfl ?_
    refine v_sipush (v := 200) (pc := 12) hX dX7_temper_12 (by decide) ?_
    refine v_icmp_lt (tgt := 42) (pc := 15) hX dX7_temper_15 (by decide) (fun c2 => ?_) (fun c2 => ?_)
    ·
      refine v_aload_n (pc := 42) hX dX7_temper_42 rfl ?_
      refine v_get (v := .int (gI m 290 h)) (pc := 43) hX dX7_temper_43 hk (ci := 9) (r := vwC9) rfl 2 (by decide) wd_97 rfl ?_
      refine v_sipush (v := 700) (pc := 46) hX dX7_temper_46 (by decide) ?_
      refine v_icmp_lt (tgt := 70) (pc := 49) hX dX7_temper_49 (by decide) (fun c3 => ?_) (fun c3 => ?_)
      ·
        exact v_vret (pc := 70) hX hZ dX7_temper_70 (by decide) (by decide) ⟨rfl, (by rw [X7_temper_m, if_neg c1, if_pos c2, if_pos c3])⟩
      ·
        refine v_aload_n (pc := 52) hX dX7_temper_52 rfl ?_
        refine v_iconst (v := 0) (pc := 53) hX dX7_temper_53 (by decide) ?_
        refine v_put (m1 := (sI m 294 h 0)) (pc := 54) hX dX7_temper_54 hk (ci := 9) (r := vwC9) rfl 6 (by decide) wd_110 rfl (by decide) (by decide) rfl ?_
        refine v_aload_n (pc := 57) hX dX7_temper_57 rfl ?_
        refine v_gets (pc := 58) hX dX7_temper_58 (vd_Z0 hO) wd_88 ?_
        refine v_put (m1 := (sR (sI m 294 h 0) 295 h (some (vdA g 0)))) (pc := 61) hX dX7_temper_61 (by simp only [mm]; exact hk) (ci := 9) (r := vwC9) rfl 7 (by decide) wd_113 rfl rfl rfl rfl ?_
        refine v_aload_n (pc := 64) hX dX7_temper_64 rfl ?_
        refine v_bipush (v := 10) (pc := 65) hX dX7_temper_65 (by decide) ?_
        refine v_put (m1 := (sI (sR (sI m 294 h 0) 295 h (some (vdA g 0))) 292 h 10)) (pc := 67) hX dX7_temper_67 (by simp only [mm]; exact hk) (ci := 9) (r := vwC9) rfl 4 (by decide) wd_104 rfl rfl rfl rfl ?_
        exact v_vret (pc := 70) hX hZ dX7_temper_70 (by decide) (by decide) ⟨rfl, (by rw [X7_temper_m, if_neg c1, if_pos c2, if_neg c3])⟩
    ·
      refine v_aload_n (pc := 18) hX dX7_temper_18 rfl ?_
      refine v_get (v := .int (gI m 290 h)) (pc := 19) hX dX7_temper_19 hk (ci := 9) (r := vwC9) rfl 2 (by decide) wd_97 rfl ?_
      refine v_sipush (v := 400) (pc := 22) hX dX7_temper_22 (by decide) ?_
      refine v_icmp_gt (tgt := 42) (pc := 25) hX dX7_temper_25 (by decide) (fun c4 => ?_) (fun c4 => ?_)
      ·
        refine v_aload_n (pc := 42) hX dX7_temper_42 rfl ?_
        refine v_get (v := .int (gI m 290 h)) (pc := 43) hX dX7_temper_43 hk (ci := 9) (r := vwC9) rfl 2 (by decide) wd_97 rfl ?_
        refine v_sipush (v := 700) (pc := 46) hX dX7_temper_46 (by decide) ?_
        refine v_icmp_lt (tgt := 70) (pc := 49) hX dX7_temper_49 (by decide) (fun c5 => ?_) (fun c5 => ?_)
        ·
          exact v_vret (pc := 70) hX hZ dX7_temper_70 (by decide) (by decide) ⟨rfl, (by rw [X7_temper_m, if_neg c1, if_neg c2, if_pos c4, if_pos c5])⟩
        ·
          refine v_aload_n (pc := 52) hX dX7_temper_52 rfl ?_
          refine v_iconst (v := 0) (pc := 53) hX dX7_temper_53 (by decide) ?_
          refine v_put (m1 := (sI m 294 h 0)) (pc := 54) hX dX7_temper_54 hk (ci := 9) (r := vwC9) rfl 6 (by decide) wd_110 rfl (by decide) (by decide) rfl ?_
          refine v_aload_n (pc := 57) hX dX7_temper_57 rfl ?_
          refine v_gets (pc := 58) hX dX7_temper_58 (vd_Z0 hO) wd_88 ?_
          refine v_put (m1 := (sR (sI m 294 h 0) 295 h (some (vdA g 0)))) (pc := 61) hX dX7_temper_61 (by simp only [mm]; exact hk) (ci := 9) (r := vwC9) rfl 7 (by decide) wd_113 rfl rfl rfl rfl ?_
          refine v_aload_n (pc := 64) hX dX7_temper_64 rfl ?_
          refine v_bipush (v := 10) (pc := 65) hX dX7_temper_65 (by decide) ?_
          refine v_put (m1 := (sI (sR (sI m 294 h 0) 295 h (some (vdA g 0))) 292 h 10)) (pc := 67) hX dX7_temper_67 (by simp only [mm]; exact hk) (ci := 9) (r := vwC9) rfl 4 (by decide) wd_104 rfl rfl rfl rfl ?_
          exact v_vret (pc := 70) hX hZ dX7_temper_70 (by decide) (by decide) ⟨rfl, (by rw [X7_temper_m, if_neg c1, if_neg c2, if_pos c4, if_neg c5])⟩
      ·
        refine v_aload_n (pc := 28) hX dX7_temper_28 rfl ?_
        refine v_iconst (v := 0) (pc := 29) hX dX7_temper_29 (by decide) ?_
        refine v_aload_n (pc := 30) hX dX7_temper_30 rfl ?_
        refine v_get (v := .int (gI m 292 h)) (pc := 31) hX dX7_temper_31 hk (ci := 9) (r := vwC9) rfl 4 (by decide) wd_104 rfl ?_
        refine v_iconst (v := 1) (pc := 34) hX dX7_temper_34 (by decide) ?_
        refine v_isub (pc := 35) hX dX7_temper_35 ?_
        refine v_mmax (pc := 36) hX dX7_temper_36 wd_455 (Nat.le_of_ble_eq_true rfl) ⟨by decide, by decide, by decide⟩ ?_
        refine v_put (m1 := (sI m 292 h (imax 0 ((gI m 292 h) - 1)))) (pc := 39) hX dX7_temper_39 hk (ci := 9) (r := vwC9) rfl 4 (by decide) wd_104 rfl rfl rfl rfl ?_
        refine v_aload_n (pc := 42) hX dX7_temper_42 rfl ?_
        refine v_get (v := .int (gI m 290 h)) (pc := 43) hX dX7_temper_43 (by simp only [mm]; exact hk) (ci := 9) (r := vwC9) rfl 2 (by decide) wd_97 (by show Value.int _ = Value.int _; simp [mm]) ?_
        refine v_sipush (v := 700) (pc := 46) hX dX7_temper_46 (by decide) ?_
        refine v_icmp_lt (tgt := 70) (pc := 49) hX dX7_temper_49 (by decide) (fun c6 => ?_) (fun c6 => ?_)
        ·
          exact v_vret (pc := 70) hX hZ dX7_temper_70 (by decide) (by decide) ⟨rfl, (by rw [X7_temper_m, if_neg c1, if_neg c2, if_neg c4, if_pos c6])⟩
        ·
          refine v_aload_n (pc := 52) hX dX7_temper_52 rfl ?_
          refine v_iconst (v := 0) (pc := 53) hX dX7_temper_53 (by decide) ?_
          refine v_put (m1 := (sI (sI m 292 h (imax 0 ((gI m 292 h) - 1))) 294 h 0)) (pc := 54) hX dX7_temper_54 (by simp only [mm]; exact hk) (ci := 9) (r := vwC9) rfl 6 (by decide) wd_110 rfl (by decide) (by decide) rfl ?_
          refine v_aload_n (pc := 57) hX dX7_temper_57 rfl ?_
          refine v_gets (pc := 58) hX dX7_temper_58 (vd_Z0 hO) wd_88 ?_
          refine v_put (m1 := (sR (sI (sI m 292 h (imax 0 ((gI m 292 h) - 1))) 294 h 0) 295 h (some (vdA g 0)))) (pc := 61) hX dX7_temper_61 (by simp only [mm]; exact hk) (ci := 9) (r := vwC9) rfl 7 (by decide) wd_113 rfl rfl rfl rfl ?_
          refine v_aload_n (pc := 64) hX dX7_temper_64 rfl ?_
          refine v_bipush (v := 10) (pc := 65) hX dX7_temper_65 (by decide) ?_
          refine v_put (m1 := (sI (sR (sI (sI m 292 h (imax 0 ((gI m 292 h) - 1))) 294 h 0) 295 h (some (vdA g 0))) 292 h 10)) (pc := 67) hX dX7_temper_67 (by simp only [mm]; exact hk) (ci := 9) (r := vwC9) rfl 4 (by decide) wd_104 rfl rfl rfl rfl ?_
          exact v_vret (pc := 70) hX hZ dX7_temper_70 (by decide) (by decide) ⟨rfl, (by rw [X7_temper_m, if_neg c1, if_neg c2, if_neg c4, if_neg c6])⟩
  ·
    exact v_vret (pc := 7) hX hZ dX7_temper_7 (by decide) (by decide) ⟨rfl, (by rw [X7_temper_m, if_pos c1])⟩
theorem kK_X7_temper (g : mG) (m : mM) (h : Nat) : gK (X7_temper_m g m h) = gK m := by
  unfold X7_temper_m
  repeat' split
  all_goals simp only [mm]
theorem kN_X7_temper (g : mG) (m : mM) (h : Nat) : gN (X7_temper_m g m h) = gN m := by
  unfold X7_temper_m
  repeat' split
  all_goals simp only [mm]
theorem kI_X7_temper (g : mG) (m : mM) (h : Nat) (k a9 : Nat) (h0 : k ≠ 292) (h1 : k ≠ 294) : gI (X7_temper_m g m h) k a9 = gI m k a9 := by
  unfold X7_temper_m
  repeat' split
  all_goals simp [mm, h0, h1]
theorem kJ_X7_temper (g : mG) (m : mM) (h : Nat) : gJ (X7_temper_m g m h) = gJ m := by
  unfold X7_temper_m
  repeat' split
  all_goals simp only [mm]
theorem kR_X7_temper (g : mG) (m : mM) (h : Nat) (k a9 : Nat) (h0 : k ≠ 295) : gR (X7_temper_m g m h) k a9 = gR m k a9 := by
  unfold X7_temper_m
  repeat' split
  all_goals simp [mm, h0]
theorem kA_X7_temper (g : mG) (m : mM) (h : Nat) : gA (X7_temper_m g m h) = gA m := by
  unfold X7_temper_m
  repeat' split
  all_goals simp only [mm]
theorem kQ_X7_temper (g : mG) (m : mM) (h : Nat) : gQ (X7_temper_m g m h) = gQ m := by
  unfold X7_temper_m
  repeat' split
  all_goals simp only [mm]
theorem kL_X7_temper (g : mG) (m : mM) (h : Nat) : gL (X7_temper_m g m h) = gL m := by
  unfold X7_temper_m
  repeat' split
  all_goals simp only [mm]
theorem kD_X7_temper (g : mG) (m : mM) (h : Nat) : gD (X7_temper_m g m h) = gD m := by
  unfold X7_temper_m
  repeat' split
  all_goals simp only [mm]
theorem fr_X7_temper (g : mG) (m : mM) (h : Nat)  : Fr h (h + 1) m (X7_temper_m g m h) := by
  unfold X7_temper_m
  split
  ·
    exact Fr.rf
  ·
    split
    ·
      split
      ·
        exact Fr.rf
      ·
        exact ((((((Fr.rf).I (by omega))).R (by omega))).I (by omega))
    ·
      split
      ·
        split
        ·
          exact Fr.rf
        ·
          exact ((((((Fr.rf).I (by omega))).R (by omega))).I (by omega))
      ·
        split
        ·
          exact ((Fr.rf).I (by omega))
        ·
          exact ((((((((Fr.rf).I (by omega))).I (by omega))).R (by omega))).I (by omega))
def X7_stagesGained_r (g : mG) (m : mM) (h : Nat) (a : Int32) : Int32 := imin (1 + ((a * (imax 0 ((gI m 290 h) - 500))) / 1000)) (10 - (gI m 291 h))
set_option maxHeartbeats 4000000 in
set_option maxRecDepth 100000 in
theorem c_X7_stagesGained {l : Launch} {g : mG} (hO : mO l g) (m : mM) (h : Nat) (a : Int32) (hk : gK m h = some (.inl 9)) : mT l g yX7_stagesGained (.code yX7_stagesGained cX7_stagesGained 3 (Option.some FieldType.int)) 1 21 0 0 [.ref h, .int a] m (fun r m' => r = some (.int (X7_stagesGained_r g m h a)) ∧ m' = m) nX := by
  refine mT_of hO (by decide) (Nat.le_of_ble_eq_true rfl) (fun x hX hZ => ?_)
  show mV g x m 0 0 0 [(0, .ref h), (1, .int a)] []
  refine v_iconst (v := 0) (pc := 0) hX dX7_stagesGained_0 (by decide) ?_
  refine v_aload_n (pc := 1) hX dX7_stagesGained_1 rfl ?_
  refine v_get (v := .int (gI m 290 h)) (pc := 2) hX dX7_stagesGained_2 hk (ci := 9) (r := vwC9) rfl 2 (by decide) wd_97 rfl ?_
  refine v_sipush (v := 500) (pc := 5) hX dX7_stagesGained_5 (by decide) ?_
  refine v_isub (pc := 8) hX dX7_stagesGained_8 ?_
  refine v_mmax (pc := 9) hX dX7_stagesGained_9 wd_455 (Nat.le_of_ble_eq_true rfl) ⟨by decide, by decide, by decide⟩ ?_
  refine v_istore_n (pc := 12) hX dX7_stagesGained_12 (by decide) rfl ?_
  refine v_iconst (v := 1) (pc := 13) hX dX7_stagesGained_13 (by decide) ?_
  refine v_iload_n (pc := 14) hX dX7_stagesGained_14 rfl ?_
  refine v_iload_n (pc := 15) hX dX7_stagesGained_15 rfl ?_
  refine v_imul (pc := 16) hX dX7_stagesGained_16 ?_
  refine v_sipush (v := 1000) (pc := 17) hX dX7_stagesGained_17 (by decide) ?_
  refine v_idiv (pc := 20) hX dX7_stagesGained_20 (by decide) ?_
  refine v_iadd (pc := 21) hX dX7_stagesGained_21 ?_
  refine v_bipush (v := 10) (pc := 22) hX dX7_stagesGained_22 (by decide) ?_
  refine v_aload_n (pc := 24) hX dX7_stagesGained_24 rfl ?_
  refine v_get (v := .int (gI m 291 h)) (pc := 25) hX dX7_stagesGained_25 hk (ci := 9) (r := vwC9) rfl 3 (by decide) wd_101 rfl ?_
  refine v_isub (pc := 28) hX dX7_stagesGained_28 ?_
  refine v_mmin (pc := 29) hX dX7_stagesGained_29 wd_1042 (Nat.le_of_ble_eq_true rfl) ⟨by decide, by decide, by decide⟩ ?_
  exact v_iret (pc := 32) hX hZ dX7_stagesGained_32 (by decide) (by decide) ⟨(by rw [X7_stagesGained_r]), rfl⟩
def X7_harden_m (g : mG) (m : mM) (h : Nat) (a : Int32) : mM := (sI m 292 h (imin 99 ((gI m 292 h) + a)))
set_option maxHeartbeats 4000000 in
set_option maxRecDepth 100000 in
theorem c_X7_harden {l : Launch} {g : mG} (hO : mO l g) (m : mM) (h : Nat) (a : Int32) (hk : gK m h = some (.inl 9)) : mT l g yX7_harden (.code yX7_harden cX7_harden 2 (Option.none : Option FieldType)) 1 21 0 0 [.ref h, .int a] m (fun r m' => r = none ∧ m' = X7_harden_m g m h a) nX := by
  refine mT_of hO (by decide) (Nat.le_of_ble_eq_true rfl) (fun x hX hZ => ?_)
  show mV g x m 0 0 0 [(0, .ref h), (1, .int a)] []
  refine v_aload_n (pc := 0) hX dX7_harden_0 rfl ?_
  refine v_bipush (v := 99) (pc := 1) hX dX7_harden_1 (by decide) ?_
  refine v_aload_n (pc := 3) hX dX7_harden_3 rfl ?_
  refine v_get (v := .int (gI m 292 h)) (pc := 4) hX dX7_harden_4 hk (ci := 9) (r := vwC9) rfl 4 (by decide) wd_104 rfl ?_
  refine v_iload_n (pc := 7) hX dX7_harden_7 rfl ?_
  refine v_iadd (pc := 8) hX dX7_harden_8 ?_
  refine v_mmin (pc := 9) hX dX7_harden_9 wd_1042 (Nat.le_of_ble_eq_true rfl) ⟨by decide, by decide, by decide⟩ ?_
  refine v_put (m1 := (sI m 292 h (imin 99 ((gI m 292 h) + a)))) (pc := 12) hX dX7_harden_12 hk (ci := 9) (r := vwC9) rfl 4 (by decide) wd_104 rfl rfl rfl rfl ?_
  exact v_vret (pc := 15) hX hZ dX7_harden_15 (by decide) (by decide) ⟨rfl, (by rw [X7_harden_m])⟩
theorem kK_X7_harden (g : mG) (m : mM) (h : Nat) (a : Int32) : gK (X7_harden_m g m h a) = gK m := by
  unfold X7_harden_m
  repeat' split
  all_goals simp only [mm]
theorem kN_X7_harden (g : mG) (m : mM) (h : Nat) (a : Int32) : gN (X7_harden_m g m h a) = gN m := by
  unfold X7_harden_m
  repeat' split
  all_goals simp only [mm]
theorem kI_X7_harden (g : mG) (m : mM) (h : Nat) (a : Int32) (k a9 : Nat) (h0 : k ≠ 292) : gI (X7_harden_m g m h a) k a9 = gI m k a9 := by
  unfold X7_harden_m
  repeat' split
  all_goals simp [mm, h0]
theorem kJ_X7_harden (g : mG) (m : mM) (h : Nat) (a : Int32) : gJ (X7_harden_m g m h a) = gJ m := by
  unfold X7_harden_m
  repeat' split
  all_goals simp only [mm]
theorem kR_X7_harden (g : mG) (m : mM) (h : Nat) (a : Int32) : gR (X7_harden_m g m h a) = gR m := by
  unfold X7_harden_m
  repeat' split
  all_goals simp only [mm]
theorem kA_X7_harden (g : mG) (m : mM) (h : Nat) (a : Int32) : gA (X7_harden_m g m h a) = gA m := by
  unfold X7_harden_m
  repeat' split
  all_goals simp only [mm]
theorem kQ_X7_harden (g : mG) (m : mM) (h : Nat) (a : Int32) : gQ (X7_harden_m g m h a) = gQ m := by
  unfold X7_harden_m
  repeat' split
  all_goals simp only [mm]
theorem kL_X7_harden (g : mG) (m : mM) (h : Nat) (a : Int32) : gL (X7_harden_m g m h a) = gL m := by
  unfold X7_harden_m
  repeat' split
  all_goals simp only [mm]
theorem kD_X7_harden (g : mG) (m : mM) (h : Nat) (a : Int32) : gD (X7_harden_m g m h a) = gD m := by
  unfold X7_harden_m
  repeat' split
  all_goals simp only [mm]
theorem fr_X7_harden (g : mG) (m : mM) (h : Nat) (a : Int32)  : Fr h (h + 1) m (X7_harden_m g m h a) := by
  unfold X7_harden_m
  exact ((Fr.rf).I (by omega))
def X7_ranksBefore_r (g : mG) (m : mM) (h : Nat) (o : Nat) : Int32 := if (gI m 292 h) = (gI m 292 o) then (if (gI m 291 h) = (gI m 291 o) then (if (gI m 288 o) ≤ (gI m 288 h) then 0 else 1) else (if (gI m 291 h) ≤ (gI m 291 o) then 0 else 1)) else (if (gI m 292 h) ≤ (gI m 292 o) then 0 else 1)
set_option maxHeartbeats 4000000 in
set_option maxRecDepth 100000 in
theorem c_X7_ranksBefore {l : Launch} {g : mG} (hO : mO l g) (m : mM) (h : Nat) (o : Nat) (hk : gK m h = some (.inl 9)) (hk2 : gK m o = some (.inl 9)) : mT l g yX7_ranksBefore (.code yX7_ranksBefore cX7_ranksBefore 2 (Option.some FieldType.boolean)) 1 20 0 0 [.ref h, .ref o] m (fun r m' => r = some (.int (X7_ranksBefore_r g m h o)) ∧ m' = m) nX := by
  refine mT_of hO (by decide) (Nat.le_of_ble_eq_true rfl) (fun x hX hZ => ?_)
  show mV g x m 0 0 0 [(0, .ref h), (1, .ref o)] []
  refine v_aload_n (pc := 0) hX dX7_ranksBefore_0 rfl ?_
  refine v_get (v := .int (gI m 292 h)) (pc := 1) hX dX7_ranksBefore_1 hk (ci := 9) (r := vwC9) rfl 4 (by decide) wd_104 rfl ?_
  refine v_aload_n (pc := 4) hX dX7_ranksBefore_4 rfl ?_
  refine v_get (v := .int (gI m 292 o)) (pc := 5) hX dX7_ranksBefore_5 hk2 (ci := 9) (r := vwC9) rfl 4 (by decide) wd_104 rfl ?_
  refine v_icmp_eq (tgt := 28) (pc := 8) hX dX7_ranksBefore_8 (by decide) (fun c1 => ?_) (fun c1 => ?_)
  ·
    refine v_aload_n (pc := 28) hX dX7_ranksBefore_28 rfl ?_
    refine v_get (v := .int (gI m 291 h)) (pc := 29) hX dX7_ranksBefore_29 hk (ci := 9) (r := vwC9) rfl 3 (by decide) wd_101 rfl ?_
    refine v_aload_n (pc := 32) hX dX7_ranksBefore_32 rfl ?_
    refine v_get (v := .int (gI m 291 o)) (pc := 33) hX dX7_ranksBefore_33 hk2 (ci := 9) (r := vwC9) rfl 3 (by decide) wd_101 rfl ?_
    refine v_icmp_eq (tgt := 56) (pc := 36) hX dX7_ranksBefore_36 (by decide) (fun c2 => ?_) (fun c2 => ?_)
    ·
      refine v_aload_n (pc := 56) hX dX7_ranksBefore_56 rfl ?_
      refine v_get (v := .int (gI m 288 h)) (pc := 57) hX dX7_ranksBefore_57 hk (ci := 9) (r := vwC9) rfl 0 (by decide) wd_90 rfl ?_
      refine v_aload_n (pc := 60) hX dX7_ranksBefore_60 rfl ?_
      refine v_get (v := .int (gI m 288 o)) (pc := 61) hX dX7_ranksBefore_61 hk2 (ci := 9) (r := vwC9) rfl 0 (by decide) wd_90 rfl ?_
      refine v_icmp_ge (tgt := 71) (pc := 64) hX dX7_ranksBefore_64 (by decide) (fun c3 => ?_) (fun c3 => ?_)
      ·
        refine v_iconst (v := 0) (pc := 71) hX dX7_ranksBefore_71 (by decide) ?_
        exact v_zret (pc := 72) hX hZ dX7_ranksBefore_72 rfl (by decide) (by decide) ⟨(by rw [X7_ranksBefore_r, if_pos c1, if_pos c2, if_pos c3]), rfl⟩
      ·
        refine v_iconst (v := 1) (pc := 67) hX dX7_ranksBefore_67 (by decide) ?_
        refine v_goto (tgt := 72) (pc := 68) hX dX7_ranksBefore_68 (by decide) ?_
        exact v_zret (pc := 72) hX hZ dX7_ranksBefore_72 rfl (by decide) (by decide) ⟨(by rw [X7_ranksBefore_r, if_pos c1, if_pos c2, if_neg c3]), rfl⟩
    ·
      refine v_aload_n (pc := 39) hX dX7_ranksBefore_39 rfl ?_
      refine v_get (v := .int (gI m 291 h)) (pc := 40) hX dX7_ranksBefore_40 hk (ci := 9) (r := vwC9) rfl 3 (by decide) wd_101 rfl ?_
      refine v_aload_n (pc := 43) hX dX7_ranksBefore_43 rfl ?_
      refine v_get (v := .int (gI m 291 o)) (pc := 44) hX dX7_ranksBefore_44 hk2 (ci := 9) (r := vwC9) rfl 3 (by decide) wd_101 rfl ?_
      refine v_icmp_le (tgt := 54) (pc := 47) hX dX7_ranksBefore_47 (by decide) (fun c4 => ?_) (fun c4 => ?_)
      ·
        refine v_iconst (v := 0) (pc := 54) hX dX7_ranksBefore_54 (by decide) ?_
        exact v_zret (pc := 55) hX hZ dX7_ranksBefore_55 rfl (by decide) (by decide) ⟨(by rw [X7_ranksBefore_r, if_pos c1, if_neg c2, if_pos c4]), rfl⟩
      ·
        refine v_iconst (v := 1) (pc := 50) hX dX7_ranksBefore_50 (by decide) ?_
        refine v_goto (tgt := 55) (pc := 51) hX dX7_ranksBefore_51 (by decide) ?_
        exact v_zret (pc := 55) hX hZ dX7_ranksBefore_55 rfl (by decide) (by decide) ⟨(by rw [X7_ranksBefore_r, if_pos c1, if_neg c2, if_neg c4]), rfl⟩
  ·
    refine v_aload_n (pc := 11) hX dX7_ranksBefore_11 rfl ?_
    refine v_get (v := .int (gI m 292 h)) (pc := 12) hX dX7_ranksBefore_12 hk (ci := 9) (r := vwC9) rfl 4 (by decide) wd_104 rfl ?_
    refine v_aload_n (pc := 15) hX dX7_ranksBefore_15 rfl ?_
    refine v_get (v := .int (gI m 292 o)) (pc := 16) hX dX7_ranksBefore_16 hk2 (ci := 9) (r := vwC9) rfl 4 (by decide) wd_104 rfl ?_
    refine v_icmp_le (tgt := 26) (pc := 19) hX dX7_ranksBefore_19 (by decide) (fun c5 => ?_) (fun c5 => ?_)
    ·
      refine v_iconst (v := 0) (pc := 26) hX dX7_ranksBefore_26 (by decide) ?_
      exact v_zret (pc := 27) hX hZ dX7_ranksBefore_27 rfl (by decide) (by decide) ⟨(by rw [X7_ranksBefore_r, if_neg c1, if_pos c5]), rfl⟩
    ·
      refine v_iconst (v := 1) (pc := 22) hX dX7_ranksBefore_22 (by decide) ?_
      refine v_goto (tgt := 27) (pc := 23) hX dX7_ranksBefore_23 (by decide) ?_
      exact v_zret (pc := 27) hX hZ dX7_ranksBefore_27 rfl (by decide) (by decide) ⟨(by rw [X7_ranksBefore_r, if_neg c1, if_neg c5]), rfl⟩
