def X11_tells_r (g : mG) (m : mM) (r : Nat) (i : Nat)  : Int32 := gA m (r + 1) i
def X11_tells_m (g : mG) (m : mM) (r : Nat) (i : Nat)  : mM := (sI m 384 r 0)
theorem kK_X11_tells (g : mG) (m : mM) (r : Nat) (i : Nat)  : gK (X11_tells_m g m r i ) = gK m := by
  unfold X11_tells_m
  repeat' split
  all_goals simp only [mm]
theorem kN_X11_tells (g : mG) (m : mM) (r : Nat) (i : Nat)  : gN (X11_tells_m g m r i ) = gN m := by
  unfold X11_tells_m
  repeat' split
  all_goals simp only [mm]
theorem kI_X11_tells (g : mG) (m : mM) (r : Nat) (i : Nat)  (k a9 : Nat) (h0 : k ≠ 384) : gI (X11_tells_m g m r i ) k a9 = gI m k a9 := by
  unfold X11_tells_m
  repeat' split
  all_goals simp [mm, h0]
theorem kJ_X11_tells (g : mG) (m : mM) (r : Nat) (i : Nat)  : gJ (X11_tells_m g m r i ) = gJ m := by
  unfold X11_tells_m
  repeat' split
  all_goals simp only [mm]
theorem kR_X11_tells (g : mG) (m : mM) (r : Nat) (i : Nat)  : gR (X11_tells_m g m r i ) = gR m := by
  unfold X11_tells_m
  repeat' split
  all_goals simp only [mm]
theorem kA_X11_tells (g : mG) (m : mM) (r : Nat) (i : Nat)  : gA (X11_tells_m g m r i ) = gA m := by
  unfold X11_tells_m
  repeat' split
  all_goals simp only [mm]
theorem kQ_X11_tells (g : mG) (m : mM) (r : Nat) (i : Nat)  : gQ (X11_tells_m g m r i ) = gQ m := by
  unfold X11_tells_m
  repeat' split
  all_goals simp only [mm]
theorem kL_X11_tells (g : mG) (m : mM) (r : Nat) (i : Nat)  : gL (X11_tells_m g m r i ) = gL m := by
  unfold X11_tells_m
  repeat' split
  all_goals simp only [mm]
theorem kD_X11_tells (g : mG) (m : mM) (r : Nat) (i : Nat)  : gD (X11_tells_m g m r i ) = gD m := by
  unfold X11_tells_m
  repeat' split
  all_goals simp only [mm]
set_option maxHeartbeats 4000000 in
set_option maxRecDepth 100000 in
theorem c_X11_tells {l : Launch} {g : mG} (hO : mO l g) (m : mM) (r : Nat) (i : Nat)  (hs : SR m r) (hk : i < 13) : mT l g yX11_tells (.code yX11_tells cX11_tells 2 (Option.some FieldType.int)) 1 20 0 0 [.ref r, .int (nI i)] m (fun u m' => u = some (.int (X11_tells_r g m r i )) ∧ m' = X11_tells_m g m r i ) nX := by
  refine mT_of hO (by decide) (Nat.le_of_ble_eq_true rfl) (fun x hX hZ => ?_)
  show mV g x m 0 0 0 [(0, .ref r), (1, .int (nI i))] []
  refine v_aload_n (pc := 0) hX dX11_tells_0 rfl ?_
  refine v_iconst (v := 0) (pc := 1) hX dX11_tells_1 (by decide) ?_
  refine v_put (m1 := (sI m 384 r 0)) (pc := 2) hX dX11_tells_2 hs.k (ci := 12) (r := vwC12) rfl 0 (by decide) wd_1506 rfl rfl rfl rfl ?_
  refine v_aload_n (pc := 5) hX dX11_tells_5 rfl ?_
  refine v_get (v := .ref (r + 1)) (pc := 6) hX dX11_tells_6 (by simp only [mm]; exact hs.k) (ci := 12) (r := vwC12) rfl 5 (by decide) wd_1511 (fvA rfl (by simp [mm, hs.r1])) ?_
  refine v_iload_n (pc := 9) hX dX11_tells_9 rfl ?_
  refine v_iald (j := i) (v := (gA m (r + 1) i)) (pc := 10) hX dX11_tells_10 (by simp only [mm]; exact hs.k1) rfl (by omega) (by decide) rfl ?_
  exact v_iret (pc := 11) hX hZ dX11_tells_11 (by decide) (by decide) ⟨(by rw [X11_tells_r]), (by rw [X11_tells_m])⟩
def X11_time_r (g : mG) (m : mM) (r : Nat)  : Int32 := X11_tells_r g m r 0 
def X11_time_m (g : mG) (m : mM) (r : Nat)  : mM := (X11_tells_m g m r 0 )
theorem kK_X11_time (g : mG) (m : mM) (r : Nat)  : gK (X11_time_m g m r ) = gK m := by
  unfold X11_time_m
  repeat' split
  all_goals simp only [mm, kK_X11_tells]
theorem kN_X11_time (g : mG) (m : mM) (r : Nat)  : gN (X11_time_m g m r ) = gN m := by
  unfold X11_time_m
  repeat' split
  all_goals simp only [mm, kN_X11_tells]
theorem kI_X11_time (g : mG) (m : mM) (r : Nat)  (k a9 : Nat) (h0 : k ≠ 384) : gI (X11_time_m g m r ) k a9 = gI m k a9 := by
  unfold X11_time_m
  repeat' split
  all_goals simp [mm, kI_X11_tells, h0]
theorem kJ_X11_time (g : mG) (m : mM) (r : Nat)  : gJ (X11_time_m g m r ) = gJ m := by
  unfold X11_time_m
  repeat' split
  all_goals simp only [mm, kJ_X11_tells]
theorem kR_X11_time (g : mG) (m : mM) (r : Nat)  : gR (X11_time_m g m r ) = gR m := by
  unfold X11_time_m
  repeat' split
  all_goals simp only [mm, kR_X11_tells]
theorem kA_X11_time (g : mG) (m : mM) (r : Nat)  : gA (X11_time_m g m r ) = gA m := by
  unfold X11_time_m
  repeat' split
  all_goals simp only [mm, kA_X11_tells]
theorem kQ_X11_time (g : mG) (m : mM) (r : Nat)  : gQ (X11_time_m g m r ) = gQ m := by
  unfold X11_time_m
  repeat' split
  all_goals simp only [mm, kQ_X11_tells]
theorem kL_X11_time (g : mG) (m : mM) (r : Nat)  : gL (X11_time_m g m r ) = gL m := by
  unfold X11_time_m
  repeat' split
  all_goals simp only [mm, kL_X11_tells]
theorem kD_X11_time (g : mG) (m : mM) (r : Nat)  : gD (X11_time_m g m r ) = gD m := by
  unfold X11_time_m
  repeat' split
  all_goals simp only [mm, kD_X11_tells]
set_option maxHeartbeats 4000000 in
set_option maxRecDepth 100000 in
theorem c_X11_time {l : Launch} {g : mG} (hO : mO l g) (m : mM) (r : Nat)  (hs : SR m r) : mT l g yX11_time (.code yX11_time cX11_time 1 (Option.some FieldType.int)) 2 41 0 0 [.ref r] m (fun u m' => u = some (.int (X11_time_r g m r )) ∧ m' = X11_time_m g m r ) nX := by
  refine mT_of hO (by decide) (Nat.le_of_ble_eq_true rfl) (fun x hX hZ => ?_)
  show mV g x m 0 0 0 [(0, .ref r)] []
  refine v_aload_n (pc := 0) hX dX11_time_0 rfl ?_
  refine v_iconst (v := 0) (pc := 1) hX dX11_time_1 (by decide) ?_
  refine v_callV (z := yX11_tells) (pc := 2) hX dX11_time_2 (c_X11_tells hO m r 0  hs (by decide)) hs.k rfl wd_1744 wd_1746 wp_42 wd_16 wd_1747 ⟨by decide, by decide, (by decide +kernel : (parseMethodDescriptor yX11_tells.desc).map (fun d => d.parameters.length) = some 1)⟩ rfl (Nat.le_of_ble_eq_true rfl) ⟨⟨by decide, by decide⟩, by decide, by decide⟩ (fun E m9 h9 => h9.elim) (fun r9 m9 h9 => ?_)
  obtain ⟨rfl, h8⟩ := h9
  replace h8 := h8.symm
  subst h8
  show mV g x _ _ _ _ _ [.int (X11_tells_r g m r 0 )]
  exact v_iret (pc := 5) hX hZ dX11_time_5 (by decide) (by decide) ⟨(by rw [X11_time_r]), (by rw [X11_time_m])⟩
def X11_furnace_r (g : mG) (m : mM) (r : Nat)  : Int32 := X11_tells_r g m r 1 
def X11_furnace_m (g : mG) (m : mM) (r : Nat)  : mM := (X11_tells_m g m r 1 )
theorem kK_X11_furnace (g : mG) (m : mM) (r : Nat)  : gK (X11_furnace_m g m r ) = gK m := by
  unfold X11_furnace_m
  repeat' split
  all_goals simp only [mm, kK_X11_tells]
theorem kN_X11_furnace (g : mG) (m : mM) (r : Nat)  : gN (X11_furnace_m g m r ) = gN m := by
  unfold X11_furnace_m
  repeat' split
  all_goals simp only [mm, kN_X11_tells]
theorem kI_X11_furnace (g : mG) (m : mM) (r : Nat)  (k a9 : Nat) (h0 : k ≠ 384) : gI (X11_furnace_m g m r ) k a9 = gI m k a9 := by
  unfold X11_furnace_m
  repeat' split
  all_goals simp [mm, kI_X11_tells, h0]
theorem kJ_X11_furnace (g : mG) (m : mM) (r : Nat)  : gJ (X11_furnace_m g m r ) = gJ m := by
  unfold X11_furnace_m
  repeat' split
  all_goals simp only [mm, kJ_X11_tells]
theorem kR_X11_furnace (g : mG) (m : mM) (r : Nat)  : gR (X11_furnace_m g m r ) = gR m := by
  unfold X11_furnace_m
  repeat' split
  all_goals simp only [mm, kR_X11_tells]
theorem kA_X11_furnace (g : mG) (m : mM) (r : Nat)  : gA (X11_furnace_m g m r ) = gA m := by
  unfold X11_furnace_m
  repeat' split
  all_goals simp only [mm, kA_X11_tells]
theorem kQ_X11_furnace (g : mG) (m : mM) (r : Nat)  : gQ (X11_furnace_m g m r ) = gQ m := by
  unfold X11_furnace_m
  repeat' split
  all_goals simp only [mm, kQ_X11_tells]
theorem kL_X11_furnace (g : mG) (m : mM) (r : Nat)  : gL (X11_furnace_m g m r ) = gL m := by
  unfold X11_furnace_m
  repeat' split
  all_goals simp only [mm, kL_X11_tells]
theorem kD_X11_furnace (g : mG) (m : mM) (r : Nat)  : gD (X11_furnace_m g m r ) = gD m := by
  unfold X11_furnace_m
  repeat' split
  all_goals simp only [mm, kD_X11_tells]
set_option maxHeartbeats 4000000 in
set_option maxRecDepth 100000 in
theorem c_X11_furnace {l : Launch} {g : mG} (hO : mO l g) (m : mM) (r : Nat)  (hs : SR m r) : mT l g yX11_furnace (.code yX11_furnace cX11_furnace 1 (Option.some FieldType.int)) 2 41 0 0 [.ref r] m (fun u m' => u = some (.int (X11_furnace_r g m r )) ∧ m' = X11_furnace_m g m r ) nX := by
  refine mT_of hO (by decide) (Nat.le_of_ble_eq_true rfl) (fun x hX hZ => ?_)
  show mV g x m 0 0 0 [(0, .ref r)] []
  refine v_aload_n (pc := 0) hX dX11_furnace_0 rfl ?_
  refine v_iconst (v := 1) (pc := 1) hX dX11_furnace_1 (by decide) ?_
  refine v_callV (z := yX11_tells) (pc := 2) hX dX11_furnace_2 (c_X11_tells hO m r 1  hs (by decide)) hs.k rfl wd_1744 wd_1746 wp_42 wd_16 wd_1747 ⟨by decide, by decide, (by decide +kernel : (parseMethodDescriptor yX11_tells.desc).map (fun d => d.parameters.length) = some 1)⟩ rfl (Nat.le_of_ble_eq_true rfl) ⟨⟨by decide, by decide⟩, by decide, by decide⟩ (fun E m9 h9 => h9.elim) (fun r9 m9 h9 => ?_)
  obtain ⟨rfl, h8⟩ := h9
  replace h8 := h8.symm
  subst h8
  show mV g x _ _ _ _ _ [.int (X11_tells_r g m r 1 )]
  exact v_iret (pc := 5) hX hZ dX11_furnace_5 (by decide) (by decide) ⟨(by rw [X11_furnace_r]), (by rw [X11_furnace_m])⟩
def X11_bellows_r (g : mG) (m : mM) (r : Nat)  : Int32 := X11_tells_r g m r 2 
def X11_bellows_m (g : mG) (m : mM) (r : Nat)  : mM := (X11_tells_m g m r 2 )
theorem kK_X11_bellows (g : mG) (m : mM) (r : Nat)  : gK (X11_bellows_m g m r ) = gK m := by
  unfold X11_bellows_m
  repeat' split
  all_goals simp only [mm, kK_X11_tells]
theorem kN_X11_bellows (g : mG) (m : mM) (r : Nat)  : gN (X11_bellows_m g m r ) = gN m := by
  unfold X11_bellows_m
  repeat' split
  all_goals simp only [mm, kN_X11_tells]
theorem kI_X11_bellows (g : mG) (m : mM) (r : Nat)  (k a9 : Nat) (h0 : k ≠ 384) : gI (X11_bellows_m g m r ) k a9 = gI m k a9 := by
  unfold X11_bellows_m
  repeat' split
  all_goals simp [mm, kI_X11_tells, h0]
theorem kJ_X11_bellows (g : mG) (m : mM) (r : Nat)  : gJ (X11_bellows_m g m r ) = gJ m := by
  unfold X11_bellows_m
  repeat' split
  all_goals simp only [mm, kJ_X11_tells]
theorem kR_X11_bellows (g : mG) (m : mM) (r : Nat)  : gR (X11_bellows_m g m r ) = gR m := by
  unfold X11_bellows_m
  repeat' split
  all_goals simp only [mm, kR_X11_tells]
theorem kA_X11_bellows (g : mG) (m : mM) (r : Nat)  : gA (X11_bellows_m g m r ) = gA m := by
  unfold X11_bellows_m
  repeat' split
  all_goals simp only [mm, kA_X11_tells]
theorem kQ_X11_bellows (g : mG) (m : mM) (r : Nat)  : gQ (X11_bellows_m g m r ) = gQ m := by
  unfold X11_bellows_m
  repeat' split
  all_goals simp only [mm, kQ_X11_tells]
theorem kL_X11_bellows (g : mG) (m : mM) (r : Nat)  : gL (X11_bellows_m g m r ) = gL m := by
  unfold X11_bellows_m
  repeat' split
  all_goals simp only [mm, kL_X11_tells]
theorem kD_X11_bellows (g : mG) (m : mM) (r : Nat)  : gD (X11_bellows_m g m r ) = gD m := by
  unfold X11_bellows_m
  repeat' split
  all_goals simp only [mm, kD_X11_tells]
set_option maxHeartbeats 4000000 in
set_option maxRecDepth 100000 in
theorem c_X11_bellows {l : Launch} {g : mG} (hO : mO l g) (m : mM) (r : Nat)  (hs : SR m r) : mT l g yX11_bellows (.code yX11_bellows cX11_bellows 1 (Option.some FieldType.int)) 2 41 0 0 [.ref r] m (fun u m' => u = some (.int (X11_bellows_r g m r )) ∧ m' = X11_bellows_m g m r ) nX := by
  refine mT_of hO (by decide) (Nat.le_of_ble_eq_true rfl) (fun x hX hZ => ?_)
  show mV g x m 0 0 0 [(0, .ref r)] []
  refine v_aload_n (pc := 0) hX dX11_bellows_0 rfl ?_
  refine v_iconst (v := 2) (pc := 1) hX dX11_bellows_1 (by decide) ?_
  refine v_callV (z := yX11_tells) (pc := 2) hX dX11_bellows_2 (c_X11_tells hO m r 2  hs (by decide)) hs.k rfl wd_1744 wd_1746 wp_42 wd_16 wd_1747 ⟨by decide, by decide, (by decide +kernel : (parseMethodDescriptor yX11_tells.desc).map (fun d => d.parameters.length) = some 1)⟩ rfl (Nat.le_of_ble_eq_true rfl) ⟨⟨by decide, by decide⟩, by decide, by decide⟩ (fun E m9 h9 => h9.elim) (fun r9 m9 h9 => ?_)
  obtain ⟨rfl, h8⟩ := h9
  replace h8 := h8.symm
  subst h8
  show mV g x _ _ _ _ _ [.int (X11_tells_r g m r 2 )]
  exact v_iret (pc := 5) hX hZ dX11_bellows_5 (by decide) (by decide) ⟨(by rw [X11_bellows_r]), (by rw [X11_bellows_m])⟩
def X11_coal_r (g : mG) (m : mM) (r : Nat)  : Int32 := X11_tells_r g m r 3 
def X11_coal_m (g : mG) (m : mM) (r : Nat)  : mM := (X11_tells_m g m r 3 )
theorem kK_X11_coal (g : mG) (m : mM) (r : Nat)  : gK (X11_coal_m g m r ) = gK m := by
  unfold X11_coal_m
  repeat' split
  all_goals simp only [mm, kK_X11_tells]
theorem kN_X11_coal (g : mG) (m : mM) (r : Nat)  : gN (X11_coal_m g m r ) = gN m := by
  unfold X11_coal_m
  repeat' split
  all_goals simp only [mm, kN_X11_tells]
theorem kI_X11_coal (g : mG) (m : mM) (r : Nat)  (k a9 : Nat) (h0 : k ≠ 384) : gI (X11_coal_m g m r ) k a9 = gI m k a9 := by
  unfold X11_coal_m
  repeat' split
  all_goals simp [mm, kI_X11_tells, h0]
theorem kJ_X11_coal (g : mG) (m : mM) (r : Nat)  : gJ (X11_coal_m g m r ) = gJ m := by
  unfold X11_coal_m
  repeat' split
  all_goals simp only [mm, kJ_X11_tells]
theorem kR_X11_coal (g : mG) (m : mM) (r : Nat)  : gR (X11_coal_m g m r ) = gR m := by
  unfold X11_coal_m
  repeat' split
  all_goals simp only [mm, kR_X11_tells]
theorem kA_X11_coal (g : mG) (m : mM) (r : Nat)  : gA (X11_coal_m g m r ) = gA m := by
  unfold X11_coal_m
  repeat' split
  all_goals simp only [mm, kA_X11_tells]
theorem kQ_X11_coal (g : mG) (m : mM) (r : Nat)  : gQ (X11_coal_m g m r ) = gQ m := by
  unfold X11_coal_m
  repeat' split
  all_goals simp only [mm, kQ_X11_tells]
theorem kL_X11_coal (g : mG) (m : mM) (r : Nat)  : gL (X11_coal_m g m r ) = gL m := by
  unfold X11_coal_m
  repeat' split
  all_goals simp only [mm, kL_X11_tells]
theorem kD_X11_coal (g : mG) (m : mM) (r : Nat)  : gD (X11_coal_m g m r ) = gD m := by
  unfold X11_coal_m
  repeat' split
  all_goals simp only [mm, kD_X11_tells]
set_option maxHeartbeats 4000000 in
set_option maxRecDepth 100000 in
theorem c_X11_coal {l : Launch} {g : mG} (hO : mO l g) (m : mM) (r : Nat)  (hs : SR m r) : mT l g yX11_coal (.code yX11_coal cX11_coal 1 (Option.some FieldType.int)) 2 41 0 0 [.ref r] m (fun u m' => u = some (.int (X11_coal_r g m r )) ∧ m' = X11_coal_m g m r ) nX := by
  refine mT_of hO (by decide) (Nat.le_of_ble_eq_true rfl) (fun x hX hZ => ?_)
  show mV g x m 0 0 0 [(0, .ref r)] []
  refine v_aload_n (pc := 0) hX dX11_coal_0 rfl ?_
  refine v_iconst (v := 3) (pc := 1) hX dX11_coal_1 (by decide) ?_
  refine v_callV (z := yX11_tells) (pc := 2) hX dX11_coal_2 (c_X11_tells hO m r 3  hs (by decide)) hs.k rfl wd_1744 wd_1746 wp_42 wd_16 wd_1747 ⟨by decide, by decide, (by decide +kernel : (parseMethodDescriptor yX11_tells.desc).map (fun d => d.parameters.length) = some 1)⟩ rfl (Nat.le_of_ble_eq_true rfl) ⟨⟨by decide, by decide⟩, by decide, by decide⟩ (fun E m9 h9 => h9.elim) (fun r9 m9 h9 => ?_)
  obtain ⟨rfl, h8⟩ := h9
  replace h8 := h8.symm
  subst h8
  show mV g x _ _ _ _ _ [.int (X11_tells_r g m r 3 )]
  exact v_iret (pc := 5) hX hZ dX11_coal_5 (by decide) (by decide) ⟨(by rw [X11_coal_r]), (by rw [X11_coal_m])⟩
def X11_pieceCount_r (g : mG) (m : mM) (r : Nat)  : Int32 := X11_tells_r g m r 5 
def X11_pieceCount_m (g : mG) (m : mM) (r : Nat)  : mM := (X11_tells_m g m r 5 )
theorem kK_X11_pieceCount (g : mG) (m : mM) (r : Nat)  : gK (X11_pieceCount_m g m r ) = gK m := by
  unfold X11_pieceCount_m
  repeat' split
  all_goals simp only [mm, kK_X11_tells]
theorem kN_X11_pieceCount (g : mG) (m : mM) (r : Nat)  : gN (X11_pieceCount_m g m r ) = gN m := by
  unfold X11_pieceCount_m
  repeat' split
  all_goals simp only [mm, kN_X11_tells]
theorem kI_X11_pieceCount (g : mG) (m : mM) (r : Nat)  (k a9 : Nat) (h0 : k ≠ 384) : gI (X11_pieceCount_m g m r ) k a9 = gI m k a9 := by
  unfold X11_pieceCount_m
  repeat' split
  all_goals simp [mm, kI_X11_tells, h0]
theorem kJ_X11_pieceCount (g : mG) (m : mM) (r : Nat)  : gJ (X11_pieceCount_m g m r ) = gJ m := by
  unfold X11_pieceCount_m
  repeat' split
  all_goals simp only [mm, kJ_X11_tells]
theorem kR_X11_pieceCount (g : mG) (m : mM) (r : Nat)  : gR (X11_pieceCount_m g m r ) = gR m := by
  unfold X11_pieceCount_m
  repeat' split
  all_goals simp only [mm, kR_X11_tells]
theorem kA_X11_pieceCount (g : mG) (m : mM) (r : Nat)  : gA (X11_pieceCount_m g m r ) = gA m := by
  unfold X11_pieceCount_m
  repeat' split
  all_goals simp only [mm, kA_X11_tells]
theorem kQ_X11_pieceCount (g : mG) (m : mM) (r : Nat)  : gQ (X11_pieceCount_m g m r ) = gQ m := by
  unfold X11_pieceCount_m
  repeat' split
  all_goals simp only [mm, kQ_X11_tells]
theorem kL_X11_pieceCount (g : mG) (m : mM) (r : Nat)  : gL (X11_pieceCount_m g m r ) = gL m := by
  unfold X11_pieceCount_m
  repeat' split
  all_goals simp only [mm, kL_X11_tells]
theorem kD_X11_pieceCount (g : mG) (m : mM) (r : Nat)  : gD (X11_pieceCount_m g m r ) = gD m := by
  unfold X11_pieceCount_m
  repeat' split
  all_goals simp only [mm, kD_X11_tells]
set_option maxHeartbeats 4000000 in
set_option maxRecDepth 100000 in
theorem c_X11_pieceCount {l : Launch} {g : mG} (hO : mO l g) (m : mM) (r : Nat)  (hs : SR m r) : mT l g yX11_pieceCount (.code yX11_pieceCount cX11_pieceCount 1 (Option.some FieldType.int)) 2 41 0 0 [.ref r] m (fun u m' => u = some (.int (X11_pieceCount_r g m r )) ∧ m' = X11_pieceCount_m g m r ) nX := by
  refine mT_of hO (by decide) (Nat.le_of_ble_eq_true rfl) (fun x hX hZ => ?_)
  show mV g x m 0 0 0 [(0, .ref r)] []
  refine v_aload_n (pc := 0) hX dX11_pieceCount_0 rfl ?_
  refine v_iconst (v := 5) (pc := 1) hX dX11_pieceCount_1 (by decide) ?_
  refine v_callV (z := yX11_tells) (pc := 2) hX dX11_pieceCount_2 (c_X11_tells hO m r 5  hs (by decide)) hs.k rfl wd_1744 wd_1746 wp_42 wd_16 wd_1747 ⟨by decide, by decide, (by decide +kernel : (parseMethodDescriptor yX11_tells.desc).map (fun d => d.parameters.length) = some 1)⟩ rfl (Nat.le_of_ble_eq_true rfl) ⟨⟨by decide, by decide⟩, by decide, by decide⟩ (fun E m9 h9 => h9.elim) (fun r9 m9 h9 => ?_)
  obtain ⟨rfl, h8⟩ := h9
  replace h8 := h8.symm
  subst h8
  show mV g x _ _ _ _ _ [.int (X11_tells_r g m r 5 )]
  exact v_iret (pc := 5) hX hZ dX11_pieceCount_5 (by decide) (by decide) ⟨(by rw [X11_pieceCount_r]), (by rw [X11_pieceCount_m])⟩
def X11_hammerCount_r (g : mG) (m : mM) (r : Nat)  : Int32 := X11_tells_r g m r 6 
def X11_hammerCount_m (g : mG) (m : mM) (r : Nat)  : mM := (X11_tells_m g m r 6 )
theorem kK_X11_hammerCount (g : mG) (m : mM) (r : Nat)  : gK (X11_hammerCount_m g m r ) = gK m := by
  unfold X11_hammerCount_m
  repeat' split
  all_goals simp only [mm, kK_X11_tells]
theorem kN_X11_hammerCount (g : mG) (m : mM) (r : Nat)  : gN (X11_hammerCount_m g m r ) = gN m := by
  unfold X11_hammerCount_m
  repeat' split
  all_goals simp only [mm, kN_X11_tells]
theorem kI_X11_hammerCount (g : mG) (m : mM) (r : Nat)  (k a9 : Nat) (h0 : k ≠ 384) : gI (X11_hammerCount_m g m r ) k a9 = gI m k a9 := by
  unfold X11_hammerCount_m
  repeat' split
  all_goals simp [mm, kI_X11_tells, h0]
theorem kJ_X11_hammerCount (g : mG) (m : mM) (r : Nat)  : gJ (X11_hammerCount_m g m r ) = gJ m := by
  unfold X11_hammerCount_m
  repeat' split
  all_goals simp only [mm, kJ_X11_tells]
theorem kR_X11_hammerCount (g : mG) (m : mM) (r : Nat)  : gR (X11_hammerCount_m g m r ) = gR m := by
  unfold X11_hammerCount_m
  repeat' split
  all_goals simp only [mm, kR_X11_tells]
theorem kA_X11_hammerCount (g : mG) (m : mM) (r : Nat)  : gA (X11_hammerCount_m g m r ) = gA m := by
  unfold X11_hammerCount_m
  repeat' split
  all_goals simp only [mm, kA_X11_tells]
theorem kQ_X11_hammerCount (g : mG) (m : mM) (r : Nat)  : gQ (X11_hammerCount_m g m r ) = gQ m := by
  unfold X11_hammerCount_m
  repeat' split
  all_goals simp only [mm, kQ_X11_tells]
theorem kL_X11_hammerCount (g : mG) (m : mM) (r : Nat)  : gL (X11_hammerCount_m g m r ) = gL m := by
  unfold X11_hammerCount_m
  repeat' split
  all_goals simp only [mm, kL_X11_tells]
theorem kD_X11_hammerCount (g : mG) (m : mM) (r : Nat)  : gD (X11_hammerCount_m g m r ) = gD m := by
  unfold X11_hammerCount_m
  repeat' split
  all_goals simp only [mm, kD_X11_tells]
set_option maxHeartbeats 4000000 in
set_option maxRecDepth 100000 in
theorem c_X11_hammerCount {l : Launch} {g : mG} (hO : mO l g) (m : mM) (r : Nat)  (hs : SR m r) : mT l g yX11_hammerCount (.code yX11_hammerCount cX11_hammerCount 1 (Option.some FieldType.int)) 2 41 0 0 [.ref r] m (fun u m' => u = some (.int (X11_hammerCount_r g m r )) ∧ m' = X11_hammerCount_m g m r ) nX := by
  refine mT_of hO (by decide) (Nat.le_of_ble_eq_true rfl) (fun x hX hZ => ?_)
  show mV g x m 0 0 0 [(0, .ref r)] []
  refine v_aload_n (pc := 0) hX dX11_hammerCount_0 rfl ?_
  refine v_bipush (v := 6) (pc := 1) hX dX11_hammerCount_1 (by decide) ?_
  refine v_callV (z := yX11_tells) (pc := 3) hX dX11_hammerCount_3 (c_X11_tells hO m r 6  hs (by decide)) hs.k rfl wd_1744 wd_1746 wp_42 wd_16 wd_1747 ⟨by decide, by decide, (by decide +kernel : (parseMethodDescriptor yX11_tells.desc).map (fun d => d.parameters.length) = some 1)⟩ rfl (Nat.le_of_ble_eq_true rfl) ⟨⟨by decide, by decide⟩, by decide, by decide⟩ (fun E m9 h9 => h9.elim) (fun r9 m9 h9 => ?_)
  obtain ⟨rfl, h8⟩ := h9
  replace h8 := h8.symm
  subst h8
  show mV g x _ _ _ _ _ [.int (X11_tells_r g m r 6 )]
  exact v_iret (pc := 6) hX hZ dX11_hammerCount_6 (by decide) (by decide) ⟨(by rw [X11_hammerCount_r]), (by rw [X11_hammerCount_m])⟩
def X11_strokeTotal_r (g : mG) (m : mM) (r : Nat)  : Int32 := X11_tells_r g m r 7 
def X11_strokeTotal_m (g : mG) (m : mM) (r : Nat)  : mM := (X11_tells_m g m r 7 )
theorem kK_X11_strokeTotal (g : mG) (m : mM) (r : Nat)  : gK (X11_strokeTotal_m g m r ) = gK m := by
  unfold X11_strokeTotal_m
  repeat' split
  all_goals simp only [mm, kK_X11_tells]
theorem kN_X11_strokeTotal (g : mG) (m : mM) (r : Nat)  : gN (X11_strokeTotal_m g m r ) = gN m := by
  unfold X11_strokeTotal_m
  repeat' split
  all_goals simp only [mm, kN_X11_tells]
theorem kI_X11_strokeTotal (g : mG) (m : mM) (r : Nat)  (k a9 : Nat) (h0 : k ≠ 384) : gI (X11_strokeTotal_m g m r ) k a9 = gI m k a9 := by
  unfold X11_strokeTotal_m
  repeat' split
  all_goals simp [mm, kI_X11_tells, h0]
theorem kJ_X11_strokeTotal (g : mG) (m : mM) (r : Nat)  : gJ (X11_strokeTotal_m g m r ) = gJ m := by
  unfold X11_strokeTotal_m
  repeat' split
  all_goals simp only [mm, kJ_X11_tells]
theorem kR_X11_strokeTotal (g : mG) (m : mM) (r : Nat)  : gR (X11_strokeTotal_m g m r ) = gR m := by
  unfold X11_strokeTotal_m
  repeat' split
  all_goals simp only [mm, kR_X11_tells]
theorem kA_X11_strokeTotal (g : mG) (m : mM) (r : Nat)  : gA (X11_strokeTotal_m g m r ) = gA m := by
  unfold X11_strokeTotal_m
  repeat' split
  all_goals simp only [mm, kA_X11_tells]
theorem kQ_X11_strokeTotal (g : mG) (m : mM) (r : Nat)  : gQ (X11_strokeTotal_m g m r ) = gQ m := by
  unfold X11_strokeTotal_m
  repeat' split
  all_goals simp only [mm, kQ_X11_tells]
theorem kL_X11_strokeTotal (g : mG) (m : mM) (r : Nat)  : gL (X11_strokeTotal_m g m r ) = gL m := by
  unfold X11_strokeTotal_m
  repeat' split
  all_goals simp only [mm, kL_X11_tells]
theorem kD_X11_strokeTotal (g : mG) (m : mM) (r : Nat)  : gD (X11_strokeTotal_m g m r ) = gD m := by
  unfold X11_strokeTotal_m
  repeat' split
  all_goals simp only [mm, kD_X11_tells]
set_option maxHeartbeats 4000000 in
set_option maxRecDepth 100000 in
theorem c_X11_strokeTotal {l : Launch} {g : mG} (hO : mO l g) (m : mM) (r : Nat)  (hs : SR m r) : mT l g yX11_strokeTotal (.code yX11_strokeTotal cX11_strokeTotal 1 (Option.some FieldType.int)) 2 41 0 0 [.ref r] m (fun u m' => u = some (.int (X11_strokeTotal_r g m r )) ∧ m' = X11_strokeTotal_m g m r ) nX := by
  refine mT_of hO (by decide) (Nat.le_of_ble_eq_true rfl) (fun x hX hZ => ?_)
  show mV g x m 0 0 0 [(0, .ref r)] []
  refine v_aload_n (pc := 0) hX dX11_strokeTotal_0 rfl ?_
  refine v_bipush (v := 7) (pc := 1) hX dX11_strokeTotal_1 (by decide) ?_
  refine v_callV (z := yX11_tells) (pc := 3) hX dX11_strokeTotal_3 (c_X11_tells hO m r 7  hs (by decide)) hs.k rfl wd_1744 wd_1746 wp_42 wd_16 wd_1747 ⟨by decide, by decide, (by decide +kernel : (parseMethodDescriptor yX11_tells.desc).map (fun d => d.parameters.length) = some 1)⟩ rfl (Nat.le_of_ble_eq_true rfl) ⟨⟨by decide, by decide⟩, by decide, by decide⟩ (fun E m9 h9 => h9.elim) (fun r9 m9 h9 => ?_)
  obtain ⟨rfl, h8⟩ := h9
  replace h8 := h8.symm
  subst h8
  show mV g x _ _ _ _ _ [.int (X11_tells_r g m r 7 )]
  exact v_iret (pc := 6) hX hZ dX11_strokeTotal_6 (by decide) (by decide) ⟨(by rw [X11_strokeTotal_r]), (by rw [X11_strokeTotal_m])⟩
def X11_birdTotal_r (g : mG) (m : mM) (r : Nat)  : Int32 := X11_tells_r g m r 8 
def X11_birdTotal_m (g : mG) (m : mM) (r : Nat)  : mM := (X11_tells_m g m r 8 )
theorem kK_X11_birdTotal (g : mG) (m : mM) (r : Nat)  : gK (X11_birdTotal_m g m r ) = gK m := by
  unfold X11_birdTotal_m
  repeat' split
  all_goals simp only [mm, kK_X11_tells]
theorem kN_X11_birdTotal (g : mG) (m : mM) (r : Nat)  : gN (X11_birdTotal_m g m r ) = gN m := by
  unfold X11_birdTotal_m
  repeat' split
  all_goals simp only [mm, kN_X11_tells]
theorem kI_X11_birdTotal (g : mG) (m : mM) (r : Nat)  (k a9 : Nat) (h0 : k ≠ 384) : gI (X11_birdTotal_m g m r ) k a9 = gI m k a9 := by
  unfold X11_birdTotal_m
  repeat' split
  all_goals simp [mm, kI_X11_tells, h0]
theorem kJ_X11_birdTotal (g : mG) (m : mM) (r : Nat)  : gJ (X11_birdTotal_m g m r ) = gJ m := by
  unfold X11_birdTotal_m
  repeat' split
  all_goals simp only [mm, kJ_X11_tells]
theorem kR_X11_birdTotal (g : mG) (m : mM) (r : Nat)  : gR (X11_birdTotal_m g m r ) = gR m := by
  unfold X11_birdTotal_m
  repeat' split
  all_goals simp only [mm, kR_X11_tells]
theorem kA_X11_birdTotal (g : mG) (m : mM) (r : Nat)  : gA (X11_birdTotal_m g m r ) = gA m := by
  unfold X11_birdTotal_m
  repeat' split
  all_goals simp only [mm, kA_X11_tells]
theorem kQ_X11_birdTotal (g : mG) (m : mM) (r : Nat)  : gQ (X11_birdTotal_m g m r ) = gQ m := by
  unfold X11_birdTotal_m
  repeat' split
  all_goals simp only [mm, kQ_X11_tells]
theorem kL_X11_birdTotal (g : mG) (m : mM) (r : Nat)  : gL (X11_birdTotal_m g m r ) = gL m := by
  unfold X11_birdTotal_m
  repeat' split
  all_goals simp only [mm, kL_X11_tells]
theorem kD_X11_birdTotal (g : mG) (m : mM) (r : Nat)  : gD (X11_birdTotal_m g m r ) = gD m := by
  unfold X11_birdTotal_m
  repeat' split
  all_goals simp only [mm, kD_X11_tells]
set_option maxHeartbeats 4000000 in
set_option maxRecDepth 100000 in
theorem c_X11_birdTotal {l : Launch} {g : mG} (hO : mO l g) (m : mM) (r : Nat)  (hs : SR m r) : mT l g yX11_birdTotal (.code yX11_birdTotal cX11_birdTotal 1 (Option.some FieldType.int)) 2 41 0 0 [.ref r] m (fun u m' => u = some (.int (X11_birdTotal_r g m r )) ∧ m' = X11_birdTotal_m g m r ) nX := by
  refine mT_of hO (by decide) (Nat.le_of_ble_eq_true rfl) (fun x hX hZ => ?_)
  show mV g x m 0 0 0 [(0, .ref r)] []
  refine v_aload_n (pc := 0) hX dX11_birdTotal_0 rfl ?_
  refine v_bipush (v := 8) (pc := 1) hX dX11_birdTotal_1 (by decide) ?_
  refine v_callV (z := yX11_tells) (pc := 3) hX dX11_birdTotal_3 (c_X11_tells hO m r 8  hs (by decide)) hs.k rfl wd_1744 wd_1746 wp_42 wd_16 wd_1747 ⟨by decide, by decide, (by decide +kernel : (parseMethodDescriptor yX11_tells.desc).map (fun d => d.parameters.length) = some 1)⟩ rfl (Nat.le_of_ble_eq_true rfl) ⟨⟨by decide, by decide⟩, by decide, by decide⟩ (fun E m9 h9 => h9.elim) (fun r9 m9 h9 => ?_)
  obtain ⟨rfl, h8⟩ := h9
  replace h8 := h8.symm
  subst h8
  show mV g x _ _ _ _ _ [.int (X11_tells_r g m r 8 )]
  exact v_iret (pc := 6) hX hZ dX11_birdTotal_6 (by decide) (by decide) ⟨(by rw [X11_birdTotal_r]), (by rw [X11_birdTotal_m])⟩
def X11_burntTotal_r (g : mG) (m : mM) (r : Nat)  : Int64 := (X11_tells_r g m r 9 ).toInt64
def X11_burntTotal_m (g : mG) (m : mM) (r : Nat)  : mM := (X11_tells_m g m r 9 )
theorem kK_X11_burntTotal (g : mG) (m : mM) (r : Nat)  : gK (X11_burntTotal_m g m r ) = gK m := by
  unfold X11_burntTotal_m
  repeat' split
  all_goals simp only [mm, kK_X11_tells]
theorem kN_X11_burntTotal (g : mG) (m : mM) (r : Nat)  : gN (X11_burntTotal_m g m r ) = gN m := by
  unfold X11_burntTotal_m
  repeat' split
  all_goals simp only [mm, kN_X11_tells]
theorem kI_X11_burntTotal (g : mG) (m : mM) (r : Nat)  (k a9 : Nat) (h0 : k ≠ 384) : gI (X11_burntTotal_m g m r ) k a9 = gI m k a9 := by
  unfold X11_burntTotal_m
  repeat' split
  all_goals simp [mm, kI_X11_tells, h0]
theorem kJ_X11_burntTotal (g : mG) (m : mM) (r : Nat)  : gJ (X11_burntTotal_m g m r ) = gJ m := by
  unfold X11_burntTotal_m
  repeat' split
  all_goals simp only [mm, kJ_X11_tells]
theorem kR_X11_burntTotal (g : mG) (m : mM) (r : Nat)  : gR (X11_burntTotal_m g m r ) = gR m := by
  unfold X11_burntTotal_m
  repeat' split
  all_goals simp only [mm, kR_X11_tells]
theorem kA_X11_burntTotal (g : mG) (m : mM) (r : Nat)  : gA (X11_burntTotal_m g m r ) = gA m := by
  unfold X11_burntTotal_m
  repeat' split
  all_goals simp only [mm, kA_X11_tells]
theorem kQ_X11_burntTotal (g : mG) (m : mM) (r : Nat)  : gQ (X11_burntTotal_m g m r ) = gQ m := by
  unfold X11_burntTotal_m
  repeat' split
  all_goals simp only [mm, kQ_X11_tells]
theorem kL_X11_burntTotal (g : mG) (m : mM) (r : Nat)  : gL (X11_burntTotal_m g m r ) = gL m := by
  unfold X11_burntTotal_m
  repeat' split
  all_goals simp only [mm, kL_X11_tells]
theorem kD_X11_burntTotal (g : mG) (m : mM) (r : Nat)  : gD (X11_burntTotal_m g m r ) = gD m := by
  unfold X11_burntTotal_m
  repeat' split
  all_goals simp only [mm, kD_X11_tells]
set_option maxHeartbeats 4000000 in
set_option maxRecDepth 100000 in
theorem c_X11_burntTotal {l : Launch} {g : mG} (hO : mO l g) (m : mM) (r : Nat)  (hs : SR m r) : mT l g yX11_burntTotal (.code yX11_burntTotal cX11_burntTotal 1 (Option.some FieldType.long)) 2 41 0 0 [.ref r] m (fun u m' => u = some (.long (X11_burntTotal_r g m r )) ∧ m' = X11_burntTotal_m g m r ) nX := by
  refine mT_of hO (by decide) (Nat.le_of_ble_eq_true rfl) (fun x hX hZ => ?_)
  show mV g x m 0 0 0 [(0, .ref r)] []
  refine v_aload_n (pc := 0) hX dX11_burntTotal_0 rfl ?_
  refine v_bipush (v := 9) (pc := 1) hX dX11_burntTotal_1 (by decide) ?_
  refine v_callV (z := yX11_tells) (pc := 3) hX dX11_burntTotal_3 (c_X11_tells hO m r 9  hs (by decide)) hs.k rfl wd_1744 wd_1746 wp_42 wd_16 wd_1747 ⟨by decide, by decide, (by decide +kernel : (parseMethodDescriptor yX11_tells.desc).map (fun d => d.parameters.length) = some 1)⟩ rfl (Nat.le_of_ble_eq_true rfl) ⟨⟨by decide, by decide⟩, by decide, by decide⟩ (fun E m9 h9 => h9.elim) (fun r9 m9 h9 => ?_)
  obtain ⟨rfl, h8⟩ := h9
  replace h8 := h8.symm
  subst h8
  show mV g x _ _ _ _ _ [.int (X11_tells_r g m r 9 )]
  refine v_i2l (pc := 6) hX dX11_burntTotal_6 ?_
  exact v_lret (pc := 7) hX hZ dX11_burntTotal_7 (by decide) (by decide) ⟨(by rw [X11_burntTotal_r]), (by rw [X11_burntTotal_m])⟩
def X11_coalMinutes_r (g : mG) (m : mM) (r : Nat)  : Int32 := if (gA m (r + 1) 2) = 0 then 0 else ((gA m (r + 1) 3) / (gA m (r + 1) 2))
def X11_coalMinutes_m (g : mG) (m : mM) (r : Nat)  : mM := if (gA m (r + 1) 2) = 0 then ((sI m 384 r 1)) else ((sI m 384 r 0))
theorem kK_X11_coalMinutes (g : mG) (m : mM) (r : Nat)  : gK (X11_coalMinutes_m g m r ) = gK m := by
  unfold X11_coalMinutes_m
  repeat' split
  all_goals simp only [mm]
theorem kN_X11_coalMinutes (g : mG) (m : mM) (r : Nat)  : gN (X11_coalMinutes_m g m r ) = gN m := by
  unfold X11_coalMinutes_m
  repeat' split
  all_goals simp only [mm]
theorem kI_X11_coalMinutes (g : mG) (m : mM) (r : Nat)  (k a9 : Nat) (h0 : k ≠ 384) : gI (X11_coalMinutes_m g m r ) k a9 = gI m k a9 := by
  unfold X11_coalMinutes_m
  repeat' split
  all_goals simp [mm, h0]
theorem kJ_X11_coalMinutes (g : mG) (m : mM) (r : Nat)  : gJ (X11_coalMinutes_m g m r ) = gJ m := by
  unfold X11_coalMinutes_m
  repeat' split
  all_goals simp only [mm]
theorem kR_X11_coalMinutes (g : mG) (m : mM) (r : Nat)  : gR (X11_coalMinutes_m g m r ) = gR m := by
  unfold X11_coalMinutes_m
  repeat' split
  all_goals simp only [mm]
theorem kA_X11_coalMinutes (g : mG) (m : mM) (r : Nat)  : gA (X11_coalMinutes_m g m r ) = gA m := by
  unfold X11_coalMinutes_m
  repeat' split
  all_goals simp only [mm]
theorem kQ_X11_coalMinutes (g : mG) (m : mM) (r : Nat)  : gQ (X11_coalMinutes_m g m r ) = gQ m := by
  unfold X11_coalMinutes_m
  repeat' split
  all_goals simp only [mm]
theorem kL_X11_coalMinutes (g : mG) (m : mM) (r : Nat)  : gL (X11_coalMinutes_m g m r ) = gL m := by
  unfold X11_coalMinutes_m
  repeat' split
  all_goals simp only [mm]
theorem kD_X11_coalMinutes (g : mG) (m : mM) (r : Nat)  : gD (X11_coalMinutes_m g m r ) = gD m := by
  unfold X11_coalMinutes_m
  repeat' split
  all_goals simp only [mm]
set_option maxHeartbeats 4000000 in
set_option maxRecDepth 100000 in
theorem c_X11_coalMinutes {l : Launch} {g : mG} (hO : mO l g) (m : mM) (r : Nat)  (hs : SR m r) : mT l g yX11_coalMinutes (.code yX11_coalMinutes cX11_coalMinutes 1 (Option.some FieldType.int)) 1 20 0 0 [.ref r] m (fun u m' => u = some (.int (X11_coalMinutes_r g m r )) ∧ m' = X11_coalMinutes_m g m r ) nX := by
  refine mT_of hO (by decide) (Nat.le_of_ble_eq_true rfl) (fun x hX hZ => ?_)
  show mV g x m 0 0 0 [(0, .ref r)] []
  refine v_aload_n (pc := 0) hX dX11_coalMinutes_0 rfl ?_
  refine v_aload_n (pc := 1) hX dX11_coalMinutes_1 rfl ?_
  refine v_get (v := .ref (r + 1)) (pc := 2) hX dX11_coalMinutes_2 hs.k (ci := 12) (r := vwC12) rfl 5 (by decide) wd_1511 (fvA rfl hs.r1) ?_
  refine v_iconst (v := 2) (pc := 5) hX dX11_coalMinutes_5 (by decide) ?_
  refine v_iald (j := 2) (v := (gA m (r + 1) 2)) (pc := 6) hX dX11_coalMinutes_6 hs.k1 rfl (by decide) (by decide) rfl ?_
  refine v_if_ne (tgt := 14) (pc := 7) hX dX11_coalMinutes_7 (by decide) (fun c1 => ?_) (fun c1 => ?_)
  ·
    refine v_iconst (v := 0) (pc := 14) hX dX11_coalMinutes_14 (by decide) ?_
    refine v_put (m1 := (sI m 384 r 0)) (pc := 15) hX dX11_coalMinutes_15 hs.k (ci := 12) (r := vwC12) rfl 0 (by decide) wd_1506 rfl rfl rfl rfl ?_
    refine v_aload_n (pc := 18) hX dX11_coalMinutes_18 rfl ?_
    refine v_get (v := .int 0) (pc := 19) hX dX11_coalMinutes_19 (by simp only [mm]; exact hs.k) (ci := 12) (r := vwC12) rfl 0 (by decide) wd_1506 (by show Value.int _ = Value.int _; simp [mm]) ?_
    refine v_if_ne (tgt := 41) (pc := 22) hX dX11_coalMinutes_22 (by decide) (fun c2 => ?_) (fun c2 => ?_)
    · exact absurd (by decide) c2
    ·
      refine v_aload_n (pc := 25) hX dX11_coalMinutes_25 rfl ?_
      refine v_get (v := .ref (r + 1)) (pc := 26) hX dX11_coalMinutes_26 (by simp only [mm]; exact hs.k) (ci := 12) (r := vwC12) rfl 5 (by decide) wd_1511 (fvA rfl (by simp [mm, hs.r1])) ?_
      refine v_iconst (v := 3) (pc := 29) hX dX11_coalMinutes_29 (by decide) ?_
      refine v_iald (j := 3) (v := (gA m (r + 1) 3)) (pc := 30) hX dX11_coalMinutes_30 (by simp only [mm]; exact hs.k1) rfl (by decide) (by decide) rfl ?_
      refine v_aload_n (pc := 31) hX dX11_coalMinutes_31 rfl ?_
      refine v_get (v := .ref (r + 1)) (pc := 32) hX dX11_coalMinutes_32 (by simp only [mm]; exact hs.k) (ci := 12) (r := vwC12) rfl 5 (by decide) wd_1511 (fvA rfl (by simp [mm, hs.r1])) ?_
      refine v_iconst (v := 2) (pc := 35) hX dX11_coalMinutes_35 (by decide) ?_
      refine v_iald (j := 2) (v := (gA m (r + 1) 2)) (pc := 36) hX dX11_coalMinutes_36 (by simp only [mm]; exact hs.k1) rfl (by decide) (by decide) rfl ?_
      refine v_idiv (pc := 37) hX dX11_coalMinutes_37 (by assumption) ?_
      refine v_goto (tgt := 42) (pc := 38) hX dX11_coalMinutes_38 (by decide) ?_
      exact v_iret (pc := 42) hX hZ dX11_coalMinutes_42 (by decide) (by decide) ⟨(by rw [X11_coalMinutes_r, if_neg c1]), (by rw [X11_coalMinutes_m, if_neg c1])⟩
  ·
    refine v_iconst (v := 1) (pc := 10) hX dX11_coalMinutes_10 (by decide) ?_
    refine v_goto (tgt := 15) (pc := 11) hX dX11_coalMinutes_11 (by decide) ?_
    refine v_put (m1 := (sI m 384 r 1)) (pc := 15) hX dX11_coalMinutes_15 hs.k (ci := 12) (r := vwC12) rfl 0 (by decide) wd_1506 rfl rfl rfl rfl ?_
    refine v_aload_n (pc := 18) hX dX11_coalMinutes_18 rfl ?_
    refine v_get (v := .int 1) (pc := 19) hX dX11_coalMinutes_19 (by simp only [mm]; exact hs.k) (ci := 12) (r := vwC12) rfl 0 (by decide) wd_1506 (by show Value.int _ = Value.int _; simp [mm]) ?_
    refine v_if_ne (tgt := 41) (pc := 22) hX dX11_coalMinutes_22 (by decide) (fun c3 => ?_) (fun c3 => ?_)
    ·
      refine v_iconst (v := 0) (pc := 41) hX dX11_coalMinutes_41 (by decide) ?_
      exact v_iret (pc := 42) hX hZ dX11_coalMinutes_42 (by decide) (by decide) ⟨(by rw [X11_coalMinutes_r, if_pos c1]), (by rw [X11_coalMinutes_m, if_pos c1])⟩
    · exact absurd c3 (by decide)
def X11_piecesInFurnace_r (g : mG) (m : mM) (r : Nat) (N : Nat) : Int32 := X11_inside_r g ((sI m 384 r 0)) r N
def X11_piecesInFurnace_m (g : mG) (m : mM) (r : Nat) (N : Nat) : mM := (sI m 384 r 0)
theorem kK_X11_piecesInFurnace (g : mG) (m : mM) (r : Nat) (N : Nat) : gK (X11_piecesInFurnace_m g m r N) = gK m := by
  unfold X11_piecesInFurnace_m
  repeat' split
  all_goals simp only [mm]
theorem kN_X11_piecesInFurnace (g : mG) (m : mM) (r : Nat) (N : Nat) : gN (X11_piecesInFurnace_m g m r N) = gN m := by
  unfold X11_piecesInFurnace_m
  repeat' split
  all_goals simp only [mm]
theorem kI_X11_piecesInFurnace (g : mG) (m : mM) (r : Nat) (N : Nat) (k a9 : Nat) (h0 : k ≠ 384) : gI (X11_piecesInFurnace_m g m r N) k a9 = gI m k a9 := by
  unfold X11_piecesInFurnace_m
  repeat' split
  all_goals simp [mm, h0]
theorem kJ_X11_piecesInFurnace (g : mG) (m : mM) (r : Nat) (N : Nat) : gJ (X11_piecesInFurnace_m g m r N) = gJ m := by
  unfold X11_piecesInFurnace_m
  repeat' split
  all_goals simp only [mm]
theorem kR_X11_piecesInFurnace (g : mG) (m : mM) (r : Nat) (N : Nat) : gR (X11_piecesInFurnace_m g m r N) = gR m := by
  unfold X11_piecesInFurnace_m
  repeat' split
  all_goals simp only [mm]
theorem kA_X11_piecesInFurnace (g : mG) (m : mM) (r : Nat) (N : Nat) : gA (X11_piecesInFurnace_m g m r N) = gA m := by
  unfold X11_piecesInFurnace_m
  repeat' split
  all_goals simp only [mm]
theorem kQ_X11_piecesInFurnace (g : mG) (m : mM) (r : Nat) (N : Nat) : gQ (X11_piecesInFurnace_m g m r N) = gQ m := by
  unfold X11_piecesInFurnace_m
  repeat' split
  all_goals simp only [mm]
theorem kL_X11_piecesInFurnace (g : mG) (m : mM) (r : Nat) (N : Nat) : gL (X11_piecesInFurnace_m g m r N) = gL m := by
  unfold X11_piecesInFurnace_m
  repeat' split
  all_goals simp only [mm]
theorem kD_X11_piecesInFurnace (g : mG) (m : mM) (r : Nat) (N : Nat) : gD (X11_piecesInFurnace_m g m r N) = gD m := by
  unfold X11_piecesInFurnace_m
  repeat' split
  all_goals simp only [mm]
set_option maxHeartbeats 4000000 in
set_option maxRecDepth 100000 in
theorem c_X11_piecesInFurnace {l : Launch} {g : mG} (hO : mO l g) (m : mM) (r : Nat) (N : Nat) (hs : SR m r) (hN : gA m (r + 1) 5 = nI N) (hN8 : N ≤ 8) : mT l g yX11_piecesInFurnace (.code yX11_piecesInFurnace cX11_piecesInFurnace 1 (Option.some FieldType.int)) 3 63 0 0 [.ref r] m (fun u m' => u = some (.int (X11_piecesInFurnace_r g m r N)) ∧ m' = X11_piecesInFurnace_m g m r N) nX := by
  refine mT_of hO (by decide) (Nat.le_of_ble_eq_true rfl) (fun x hX hZ => ?_)
  show mV g x m 0 0 0 [(0, .ref r)] []
  refine v_aload_n (pc := 0) hX dX11_piecesInFurnace_0 rfl ?_
  refine v_iconst (v := 0) (pc := 1) hX dX11_piecesInFurnace_1 (by decide) ?_
  refine v_put (m1 := (sI m 384 r 0)) (pc := 2) hX dX11_piecesInFurnace_2 hs.k (ci := 12) (r := vwC12) rfl 0 (by decide) wd_1506 rfl rfl rfl rfl ?_
  refine v_aload_n (pc := 5) hX dX11_piecesInFurnace_5 rfl ?_
  refine v_callV (z := yX11_inside) (pc := 6) hX dX11_piecesInFurnace_6 (c_X11_inside hO ((sI m 384 r 0)) r N (hs.to (by simp only [mm]) (by simp only [mm])) (rfl.trans hN) hN8) (by simp only [mm]; exact hs.k) rfl wd_1660 wd_1662 wp_28 wd_16 wd_1663 ⟨by decide, by decide, (by decide +kernel : (parseMethodDescriptor yX11_inside.desc).map (fun d => d.parameters.length) = some 0)⟩ rfl (Nat.le_of_ble_eq_true rfl) ⟨⟨by decide, by decide⟩, by decide, by decide⟩ (fun E m9 h9 => h9.elim) (fun r9 m9 h9 => ?_)
  obtain ⟨rfl, h8⟩ := h9
  replace h8 := h8.symm
  subst h8
  show mV g x _ _ _ _ _ [.int (X11_inside_r g ((sI m 384 r 0)) r N)]
  exact v_iret (pc := 9) hX hZ dX11_piecesInFurnace_9 (by decide) (by decide) ⟨(by rw [X11_piecesInFurnace_r]), (by rw [X11_piecesInFurnace_m])⟩
def X11_exists_r (g : mG) (m : mM) (r : Nat) (a : Int32) (N : Nat) : Int32 := if (X11_find_r g m r a N) < 0 then 0 else 1
def X11_exists_m (g : mG) (m : mM) (r : Nat) (a : Int32) (N : Nat) : mM := if (X11_find_r g m r a N) < 0 then ((sI m 384 r 0)) else ((sI m 384 r 0))
theorem kK_X11_exists (g : mG) (m : mM) (r : Nat) (a : Int32) (N : Nat) : gK (X11_exists_m g m r a N) = gK m := by
  unfold X11_exists_m
  repeat' split
  all_goals simp only [mm]
theorem kN_X11_exists (g : mG) (m : mM) (r : Nat) (a : Int32) (N : Nat) : gN (X11_exists_m g m r a N) = gN m := by
  unfold X11_exists_m
  repeat' split
  all_goals simp only [mm]
theorem kI_X11_exists (g : mG) (m : mM) (r : Nat) (a : Int32) (N : Nat) (k a9 : Nat) (h0 : k ≠ 384) : gI (X11_exists_m g m r a N) k a9 = gI m k a9 := by
  unfold X11_exists_m
  repeat' split
  all_goals simp [mm, h0]
theorem kJ_X11_exists (g : mG) (m : mM) (r : Nat) (a : Int32) (N : Nat) : gJ (X11_exists_m g m r a N) = gJ m := by
  unfold X11_exists_m
  repeat' split
  all_goals simp only [mm]
theorem kR_X11_exists (g : mG) (m : mM) (r : Nat) (a : Int32) (N : Nat) : gR (X11_exists_m g m r a N) = gR m := by
  unfold X11_exists_m
  repeat' split
  all_goals simp only [mm]
theorem kA_X11_exists (g : mG) (m : mM) (r : Nat) (a : Int32) (N : Nat) : gA (X11_exists_m g m r a N) = gA m := by
  unfold X11_exists_m
  repeat' split
  all_goals simp only [mm]
theorem kQ_X11_exists (g : mG) (m : mM) (r : Nat) (a : Int32) (N : Nat) : gQ (X11_exists_m g m r a N) = gQ m := by
  unfold X11_exists_m
  repeat' split
  all_goals simp only [mm]
theorem kL_X11_exists (g : mG) (m : mM) (r : Nat) (a : Int32) (N : Nat) : gL (X11_exists_m g m r a N) = gL m := by
  unfold X11_exists_m
  repeat' split
  all_goals simp only [mm]
theorem kD_X11_exists (g : mG) (m : mM) (r : Nat) (a : Int32) (N : Nat) : gD (X11_exists_m g m r a N) = gD m := by
  unfold X11_exists_m
  repeat' split
  all_goals simp only [mm]
set_option maxHeartbeats 4000000 in
set_option maxRecDepth 100000 in
theorem c_X11_exists {l : Launch} {g : mG} (hO : mO l g) (m : mM) (r : Nat) (a : Int32) (N : Nat) (hs : SR m r) (hN : gA m (r + 1) 5 = nI N) (hN8 : N ≤ 8) : mT l g yX11_exists (.code yX11_exists cX11_exists 2 (Option.some FieldType.boolean)) 3 63 0 0 [.ref r, .int a] m (fun u m' => u = some (.int (X11_exists_r g m r a N)) ∧ m' = X11_exists_m g m r a N) nX := by
  refine mT_of hO (by decide) (Nat.le_of_ble_eq_true rfl) (fun x hX hZ => ?_)
  show mV g x m 0 0 0 [(0, .ref r), (1, .int a)] []
  refine v_aload_n (pc := 0) hX dX11_exists_0 rfl ?_
  refine v_iconst (v := 0) (pc := 1) hX dX11_exists_1 (by decide) ?_
  refine v_put (m1 := (sI m 384 r 0)) (pc := 2) hX dX11_exists_2 hs.k (ci := 12) (r := vwC12) rfl 0 (by decide) wd_1506 rfl rfl rfl rfl ?_
  refine v_aload_n (pc := 5) hX dX11_exists_5 rfl ?_
  refine v_iload_n (pc := 6) hX dX11_exists_6 rfl ?_
  refine v_callV (z := yX11_find) (pc := 7) hX dX11_exists_7 (c_X11_find hO ((sI m 384 r 0)) r a N (hs.to (by simp only [mm]) (by simp only [mm])) (rfl.trans hN) hN8) (by simp only [mm]; exact hs.k) rfl wd_1652 wd_1654 wp_26 wd_16 wd_1655 ⟨by decide, by decide, (by decide +kernel : (parseMethodDescriptor yX11_find.desc).map (fun d => d.parameters.length) = some 1)⟩ rfl (Nat.le_of_ble_eq_true rfl) ⟨⟨by decide, by decide⟩, by decide, by decide⟩ (fun E m9 h9 => h9.elim) (fun r9 m9 h9 => ?_)
  obtain ⟨rfl, h8⟩ := h9
  replace h8 := h8.symm
  subst h8
  rw [fd_cg (m := m) (m1 := (sI m 384 r 0)) rfl]
  show mV g x _ _ _ _ _ [.int (X11_find_r g m r a N)]
  refine v_if_lt (tgt := 17) (pc := 10) hX dX11_exists_10 (by decide) (fun c1 => ?_) (fun c1 => ?_)
  ·
    refine v_iconst (v := 0) (pc := 17) hX dX11_exists_17 (by decide) ?_
    exact v_zret (pc := 18) hX hZ dX11_exists_18 rfl (by decide) (by decide) ⟨(by rw [X11_exists_r, if_pos c1]), (by rw [X11_exists_m, if_pos c1])⟩
  ·
    refine v_iconst (v := 1) (pc := 13) hX dX11_exists_13 (by decide) ?_
    refine v_goto (tgt := 18) (pc := 14) hX dX11_exists_14 (by decide) ?_
    exact v_zret (pc := 18) hX hZ dX11_exists_18 rfl (by decide) (by decide) ⟨(by rw [X11_exists_r, if_neg c1]), (by rw [X11_exists_m, if_neg c1])⟩
theorem isN_ok {a : Int32} {N : Nat} (h : ¬ isI a 0 (nI N - 1) = 0) (hN8 : N ≤ 8) : okI a 7 ∧ a.toNatClampNeg < N := by
  have h1 := isI_0 h
  obtain ⟨j, hj, rfl⟩ := nI_of h1.1
  rcases Nat.eq_zero_or_pos N with q | q
  · subst q
    have h2 : nI j ≤ (-1 : Int32) := h1.2
    rw [Int32.le_iff_toInt_le, nI_toInt hj, show (-1 : Int32).toInt = -1 by decide] at h2
    omega
  · have h2 : nI j ≤ nI N - nI 1 := h1.2
    rw [sub_nI q] at h2
    have h3 := (nI_leI hj (show N - 1 < 2 ^ 31 by omega)).mp h2
    rw [nI_clamp hj]
    exact ⟨okI_nI (by omega) (by decide), by omega⟩
def X11_pieceAt_r (g : mG) (m : mM) (r : Nat) (a : Int32) (N : Nat) : Int32 := if (isI a 0 ((nI N) - 1)) = 0 then 0 else (gA m (r + 1) (8 * a.toNatClampNeg + 13))
def X11_pieceAt_m (g : mG) (m : mM) (r : Nat) (a : Int32) (N : Nat) : mM := if (isI a 0 ((nI N) - 1)) = 0 then ((sI m 384 r 1)) else ((sI m 384 r 0))
theorem kK_X11_pieceAt (g : mG) (m : mM) (r : Nat) (a : Int32) (N : Nat) : gK (X11_pieceAt_m g m r a N) = gK m := by
  unfold X11_pieceAt_m
  repeat' split
  all_goals simp only [mm]
theorem kN_X11_pieceAt (g : mG) (m : mM) (r : Nat) (a : Int32) (N : Nat) : gN (X11_pieceAt_m g m r a N) = gN m := by
  unfold X11_pieceAt_m
  repeat' split
  all_goals simp only [mm]
theorem kI_X11_pieceAt (g : mG) (m : mM) (r : Nat) (a : Int32) (N : Nat) (k a9 : Nat) (h0 : k ≠ 384) : gI (X11_pieceAt_m g m r a N) k a9 = gI m k a9 := by
  unfold X11_pieceAt_m
  repeat' split
  all_goals simp [mm, h0]
theorem kJ_X11_pieceAt (g : mG) (m : mM) (r : Nat) (a : Int32) (N : Nat) : gJ (X11_pieceAt_m g m r a N) = gJ m := by
  unfold X11_pieceAt_m
  repeat' split
  all_goals simp only [mm]
theorem kR_X11_pieceAt (g : mG) (m : mM) (r : Nat) (a : Int32) (N : Nat) : gR (X11_pieceAt_m g m r a N) = gR m := by
  unfold X11_pieceAt_m
  repeat' split
  all_goals simp only [mm]
theorem kA_X11_pieceAt (g : mG) (m : mM) (r : Nat) (a : Int32) (N : Nat) : gA (X11_pieceAt_m g m r a N) = gA m := by
  unfold X11_pieceAt_m
  repeat' split
  all_goals simp only [mm]
theorem kQ_X11_pieceAt (g : mG) (m : mM) (r : Nat) (a : Int32) (N : Nat) : gQ (X11_pieceAt_m g m r a N) = gQ m := by
  unfold X11_pieceAt_m
  repeat' split
  all_goals simp only [mm]
theorem kL_X11_pieceAt (g : mG) (m : mM) (r : Nat) (a : Int32) (N : Nat) : gL (X11_pieceAt_m g m r a N) = gL m := by
  unfold X11_pieceAt_m
  repeat' split
  all_goals simp only [mm]
theorem kD_X11_pieceAt (g : mG) (m : mM) (r : Nat) (a : Int32) (N : Nat) : gD (X11_pieceAt_m g m r a N) = gD m := by
  unfold X11_pieceAt_m
  repeat' split
  all_goals simp only [mm]
set_option maxHeartbeats 4000000 in
set_option maxRecDepth 100000 in
theorem c_X11_pieceAt {l : Launch} {g : mG} (hO : mO l g) (m : mM) (r : Nat) (a : Int32) (N : Nat) (hs : SR m r) (hN : gA m (r + 1) 5 = nI N) (hN8 : N ≤ 8) : mT l g yX11_pieceAt (.code yX11_pieceAt cX11_pieceAt 2 (Option.some FieldType.int)) 2 42 0 0 [.ref r, .int a] m (fun u m' => u = some (.int (X11_pieceAt_r g m r a N)) ∧ m' = X11_pieceAt_m g m r a N) nX := by
  refine mT_of hO (by decide) (Nat.le_of_ble_eq_true rfl) (fun x hX hZ => ?_)
  show mV g x m 0 0 0 [(0, .ref r), (1, .int a)] []
  refine v_aload_n (pc := 0) hX dX11_pieceAt_0 rfl ?_
  refine v_iload_n (pc := 1) hX dX11_pieceAt_1 rfl ?_
  refine v_iconst (v := 0) (pc := 2) hX dX11_pieceAt_2 (by decide) ?_
  refine v_aload_n (pc := 3) hX dX11_pieceAt_3 rfl ?_
  refine v_get (v := .ref (r + 1)) (pc := 4) hX dX11_pieceAt_4 hs.k (ci := 12) (r := vwC12) rfl 5 (by decide) wd_1511 (fvA rfl hs.r1) ?_
  refine v_iconst (v := 5) (pc := 7) hX dX11_pieceAt_7 (by decide) ?_
  refine v_iald (j := 5) (v := (nI N)) (pc := 8) hX dX11_pieceAt_8 hs.k1 rfl (by decide) (by decide) ((rfl).trans hN) ?_
  refine v_iconst (v := 1) (pc := 9) hX dX11_pieceAt_9 (by decide) ?_
  refine v_isub (pc := 10) hX dX11_pieceAt_10 ?_
  refine v_callS (z := yX11_isIn) (pc := 11) hX dX11_pieceAt_11 (c_isI hO m a 0 ((nI N) - 1)) wd_1592 wd_1593 wd_16 wd_1594 ⟨by decide, by decide, (by decide +kernel : (parseMethodDescriptor yX11_isIn.desc).map (fun d => d.parameters.length) = some 3)⟩ rfl (Nat.le_of_ble_eq_true rfl) ⟨⟨by decide, by decide⟩, by decide, by decide⟩ (fun E m9 h9 => h9.elim) (fun r9 m9 h9 => ?_)
  obtain ⟨rfl, h8⟩ := h9
  replace h8 := h8.symm
  subst h8
  show mV g x _ _ _ _ _ [.int (isI a 0 ((nI N) - 1)), .ref r]
  refine v_if_eq (tgt := 21) (pc := 14) hX dX11_pieceAt_14 (by decide) (fun c1 => ?_) (fun c1 => ?_)
  ·
    refine v_iconst (v := 1) (pc := 21) hX dX11_pieceAt_21 (by decide) ?_
    refine v_put (m1 := (sI m 384 r 1)) (pc := 22) hX dX11_pieceAt_22 hs.k (ci := 12) (r := vwC12) rfl 0 (by decide) wd_1506 rfl rfl rfl rfl ?_
    refine v_aload_n (pc := 25) hX dX11_pieceAt_25 rfl ?_
    refine v_get (v := .int 1) (pc := 26) hX dX11_pieceAt_26 (by simp only [mm]; exact hs.k) (ci := 12) (r := vwC12) rfl 0 (by decide) wd_1506 (by show Value.int _ = Value.int _; simp [mm]) ?_
    refine v_if_ne (tgt := 45) (pc := 29) hX dX11_pieceAt_29 (by decide) (fun c2 => ?_) (fun c2 => ?_)
    ·
      refine v_iconst (v := 0) (pc := 45) hX dX11_pieceAt_45 (by decide) ?_
      exact v_iret (pc := 46) hX hZ dX11_pieceAt_46 (by decide) (by decide) ⟨(by rw [X11_pieceAt_r, if_pos c1]), (by rw [X11_pieceAt_m, if_pos c1])⟩
    · exact absurd c2 (by decide)
  ·
    refine v_iconst (v := 0) (pc := 17) hX dX11_pieceAt_17 (by decide) ?_
    refine v_goto (tgt := 22) (pc := 18) hX dX11_pieceAt_18 (by decide) ?_
    refine v_put (m1 := (sI m 384 r 0)) (pc := 22) hX dX11_pieceAt_22 hs.k (ci := 12) (r := vwC12) rfl 0 (by decide) wd_1506 rfl rfl rfl rfl ?_
    refine v_aload_n (pc := 25) hX dX11_pieceAt_25 rfl ?_
    refine v_get (v := .int 0) (pc := 26) hX dX11_pieceAt_26 (by simp only [mm]; exact hs.k) (ci := 12) (r := vwC12) rfl 0 (by decide) wd_1506 (by show Value.int _ = Value.int _; simp [mm]) ?_
    refine v_if_ne (tgt := 45) (pc := 29) hX dX11_pieceAt_29 (by decide) (fun c3 => ?_) (fun c3 => ?_)
    · exact absurd (by decide) c3
    ·
      refine v_aload_n (pc := 32) hX dX11_pieceAt_32 rfl ?_
      refine v_get (v := .ref (r + 1)) (pc := 33) hX dX11_pieceAt_33 (by simp only [mm]; exact hs.k) (ci := 12) (r := vwC12) rfl 5 (by decide) wd_1511 (fvA rfl (by simp [mm, hs.r1])) ?_
      refine v_iload_n (pc := 36) hX dX11_pieceAt_36 rfl ?_
      refine v_iconst (v := 0) (pc := 37) hX dX11_pieceAt_37 (by decide) ?_
      have hpo := isN_ok (a := a) (N := N) (by assumption) hN8
      have hpo2 := hpo.1.2
      refine v_callS (z := yX11_of) (pc := 38) hX dX11_pieceAt_38 (c_of2 hO ((sI m 384 r 0)) a a.toNatClampNeg 0 hpo.1.1) wd_1626 wd_1627 wd_16 wd_1628 ⟨by decide, by decide, (by decide +kernel : (parseMethodDescriptor yX11_of.desc).map (fun d => d.parameters.length) = some 2)⟩ rfl (Nat.le_of_ble_eq_true rfl) ⟨⟨by decide, by decide⟩, by decide, by decide⟩ (fun E m9 h9 => h9.elim) (fun r9 m9 h9 => ?_)
      obtain ⟨rfl, h8⟩ := h9
      replace h8 := h8.symm
      subst h8
      show mV g x _ _ _ _ _ [.int (nI (8 * a.toNatClampNeg + 13)), .ref (r + 1)]
      refine v_iald (j := 8 * a.toNatClampNeg + 13) (v := (gA m (r + 1) (8 * a.toNatClampNeg + 13))) (pc := 41) hX dX11_pieceAt_41 (by simp only [mm]; exact hs.k1) rfl (by omega) (by decide) rfl ?_
      refine v_goto (tgt := 46) (pc := 42) hX dX11_pieceAt_42 (by decide) ?_
      exact v_iret (pc := 46) hX hZ dX11_pieceAt_46 (by decide) (by decide) ⟨(by rw [X11_pieceAt_r, if_neg c1]), (by rw [X11_pieceAt_m, if_neg c1])⟩
