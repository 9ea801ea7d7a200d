theorem fd_cg {g : mG} {m m1 : mM} {r N : Nat} {a : Int32} (h : gA m1 (r + 1) = gA m (r + 1)) : X11_find_r g m1 r a N = X11_find_r g m r a N := by
  have key : ∀ (n j : Nat), X11_find_l1 g m1 r a N n j = X11_find_l1 g m r a N n j := by
    intro n
    induction n with
    | zero => intro j; rw [X11_find_l1, X11_find_l1]
    | succ n ih => intro j; rw [X11_find_l1, X11_find_l1, h, ih]
  exact key N 0
def X11_addCoal_r (g : mG) (m : mM) (r : Nat) (a : Int32) (C : Nat) : Int32 := X11_ends_r g ((X11_adds_m g ((X11_begins_m g m r )) r a )) r (X11_adds_r g ((X11_begins_m g m r )) r a ) C
def X11_addCoal_m (g : mG) (m : mM) (r : Nat) (a : Int32) (C : Nat) : mM := (X11_ends_m g ((X11_adds_m g ((X11_begins_m g m r )) r a )) r (X11_adds_r g ((X11_begins_m g m r )) r a ) C)
theorem kK_X11_addCoal (g : mG) (m : mM) (r : Nat) (a : Int32) (C : Nat) : gK (X11_addCoal_m g m r a C) = gK m := by
  unfold X11_addCoal_m
  repeat' split
  all_goals simp only [mm, kK_X11_adds, kK_X11_begins, kK_X11_ends]
theorem kN_X11_addCoal (g : mG) (m : mM) (r : Nat) (a : Int32) (C : Nat) : gN (X11_addCoal_m g m r a C) = gN m := by
  unfold X11_addCoal_m
  repeat' split
  all_goals simp only [mm, kN_X11_adds, kN_X11_begins, kN_X11_ends]
theorem kI_X11_addCoal (g : mG) (m : mM) (r : Nat) (a : Int32) (C : Nat) (k a9 : Nat) (h0 : k ≠ 384) (h1 : k ≠ 385) : gI (X11_addCoal_m g m r a C) k a9 = gI m k a9 := by
  unfold X11_addCoal_m
  repeat' split
  all_goals simp [mm, kI_X11_adds, kI_X11_begins, kI_X11_ends, h0, h1]
theorem kJ_X11_addCoal (g : mG) (m : mM) (r : Nat) (a : Int32) (C : Nat) : gJ (X11_addCoal_m g m r a C) = gJ m := by
  unfold X11_addCoal_m
  repeat' split
  all_goals simp only [mm, kJ_X11_adds, kJ_X11_begins, kJ_X11_ends]
theorem kR_X11_addCoal (g : mG) (m : mM) (r : Nat) (a : Int32) (C : Nat) : gR (X11_addCoal_m g m r a C) = gR m := by
  unfold X11_addCoal_m
  repeat' split
  all_goals simp only [mm, kR_X11_adds, kR_X11_begins, kR_X11_ends]
theorem kQ_X11_addCoal (g : mG) (m : mM) (r : Nat) (a : Int32) (C : Nat) : gQ (X11_addCoal_m g m r a C) = gQ m := by
  unfold X11_addCoal_m
  repeat' split
  all_goals simp only [mm, kQ_X11_adds, kQ_X11_begins, kQ_X11_ends]
theorem kL_X11_addCoal (g : mG) (m : mM) (r : Nat) (a : Int32) (C : Nat) : gL (X11_addCoal_m g m r a C) = gL m := by
  unfold X11_addCoal_m
  repeat' split
  all_goals simp only [mm, kL_X11_adds, kL_X11_begins, kL_X11_ends]
theorem kD_X11_addCoal (g : mG) (m : mM) (r : Nat) (a : Int32) (C : Nat) : gD (X11_addCoal_m g m r a C) = gD m := by
  unfold X11_addCoal_m
  repeat' split
  all_goals simp only [mm, kD_X11_adds, kD_X11_begins, kD_X11_ends]
theorem kA_X11_addCoal (g : mG) (m : mM) (r : Nat) (a : Int32) (C : Nat) (c9 i9 : Nat) (h0 : c9 ≠ r + 1) (h1 : c9 ≠ r + 2) (h2 : c9 ≠ r + 4) : gA (X11_addCoal_m g m r a C) c9 i9 = gA m c9 i9 := by
  unfold X11_addCoal_m
  repeat' split
  all_goals simp [mm, kA_X11_adds, kA_X11_begins, kA_X11_ends, h0, h1, h2]
set_option maxHeartbeats 4000000 in
set_option maxRecDepth 100000 in
theorem c_X11_addCoal {l : Launch} {g : mG} (hO : mO l g) (m : mM) (r : Nat) (a : Int32) (C : Nat) (hs : SR m r) (hC : gI m 385 r = nI C) (hC8 : C ≤ 8) : mT l g yX11_addCoal (.code yX11_addCoal cX11_addCoal 2 (Option.some FieldType.int)) 3 64 0 0 [.ref r, .int a] m (fun u m' => u = some (.int (X11_addCoal_r g m r a C)) ∧ m' = X11_addCoal_m g m r a C) nX := by
  refine mT_of hO (by decide) (Nat.le_of_ble_eq_true rfl) (fun x hX hZ => ?_)
  show mV g x m 0 0 0 [(0, .ref r), (1, .int a)] []
  refine v_aload_n (pc := 0) hX dX11_addCoal_0 rfl ?_
  refine v_callV (z := yX11_begins) (pc := 1) hX dX11_addCoal_1 (c_X11_begins hO m r  hs) hs.k rfl wd_1581 wd_1583 wp_17 wd_16 wd_1584 ⟨by decide, by decide, (by decide +kernel : (parseMethodDescriptor yX11_begins.desc).map (fun d => d.parameters.length) = some 0)⟩ rfl (Nat.le_of_ble_eq_true rfl) ⟨⟨by decide, by decide⟩, by decide, by decide⟩ (fun E m9 h9 => h9.elim) (fun r9 m9 h9 => ?_)
  obtain ⟨rfl, h8⟩ := h9
  replace h8 := h8.symm
  subst h8
  show mV g x _ _ _ _ _ []
  refine v_aload_n (pc := 4) hX dX11_addCoal_4 rfl ?_
  refine v_aload_n (pc := 5) hX dX11_addCoal_5 rfl ?_
  refine v_iload_n (pc := 6) hX dX11_addCoal_6 rfl ?_
  refine v_callV (z := yX11_adds) (pc := 7) hX dX11_addCoal_7 (c_X11_adds hO ((X11_begins_m g m r )) r a  (hs.to (by simp only [mm, kK_X11_begins]) (by simp only [mm, kR_X11_begins]))) (by simp only [mm, kK_X11_begins]; exact hs.k) rfl wd_1588 wd_1590 wp_18 wd_16 wd_1591 ⟨by decide, by decide, (by decide +kernel : (parseMethodDescriptor yX11_adds.desc).map (fun d => d.parameters.length) = some 1)⟩ rfl (Nat.le_of_ble_eq_true rfl) ⟨⟨by decide, by decide⟩, by decide, by decide⟩ (fun E m9 h9 => h9.elim) (fun r9 m9 h9 => ?_)
  obtain ⟨rfl, h8⟩ := h9
  replace h8 := h8.symm
  subst h8
  show mV g x _ _ _ _ _ [.int (X11_adds_r g ((X11_begins_m g m r )) r a ), .ref r]
  refine v_callV (z := yX11_ends) (pc := 10) hX dX11_addCoal_10 (c_X11_ends hO ((X11_adds_m g ((X11_begins_m g m r )) r a )) r (X11_adds_r g ((X11_begins_m g m r )) r a ) C (hs.to (by simp only [mm, kK_X11_adds, kK_X11_begins]) (by simp only [mm, kR_X11_adds, kR_X11_begins])) (by simp [mm, kI_X11_adds, kI_X11_begins, hC]) hC8) (by simp only [mm, kK_X11_adds, kK_X11_begins]; exact hs.k) rfl wd_1599 wd_1601 wp_20 wd_16 wd_1602 ⟨by decide, by decide, (by decide +kernel : (parseMethodDescriptor yX11_ends.desc).map (fun d => d.parameters.length) = some 1)⟩ rfl (Nat.le_of_ble_eq_true rfl) ⟨⟨by decide, by decide⟩, by decide, by decide⟩ (fun E m9 h9 => h9.elim) (fun r9 m9 h9 => ?_)
  obtain ⟨rfl, h8⟩ := h9
  replace h8 := h8.symm
  subst h8
  show mV g x _ _ _ _ _ [.int (X11_ends_r g ((X11_adds_m g ((X11_begins_m g m r )) r a )) r (X11_adds_r g ((X11_begins_m g m r )) r a ) C)]
  exact v_iret (pc := 13) hX hZ dX11_addCoal_13 (by decide) (by decide) ⟨(by rw [X11_addCoal_r]), (by rw [X11_addCoal_m])⟩
def X11_setBellows_r (g : mG) (m : mM) (r : Nat) (a : Int32) (C : Nat) : Int32 := X11_ends_r g ((X11_blows_m g ((X11_begins_m g m r )) r a )) r (X11_blows_r g ((X11_begins_m g m r )) r a ) C
def X11_setBellows_m (g : mG) (m : mM) (r : Nat) (a : Int32) (C : Nat) : mM := (X11_ends_m g ((X11_blows_m g ((X11_begins_m g m r )) r a )) r (X11_blows_r g ((X11_begins_m g m r )) r a ) C)
theorem kK_X11_setBellows (g : mG) (m : mM) (r : Nat) (a : Int32) (C : Nat) : gK (X11_setBellows_m g m r a C) = gK m := by
  unfold X11_setBellows_m
  repeat' split
  all_goals simp only [mm, kK_X11_begins, kK_X11_blows, kK_X11_ends]
theorem kN_X11_setBellows (g : mG) (m : mM) (r : Nat) (a : Int32) (C : Nat) : gN (X11_setBellows_m g m r a C) = gN m := by
  unfold X11_setBellows_m
  repeat' split
  all_goals simp only [mm, kN_X11_begins, kN_X11_blows, kN_X11_ends]
theorem kI_X11_setBellows (g : mG) (m : mM) (r : Nat) (a : Int32) (C : Nat) (k a9 : Nat) (h0 : k ≠ 384) (h1 : k ≠ 385) : gI (X11_setBellows_m g m r a C) k a9 = gI m k a9 := by
  unfold X11_setBellows_m
  repeat' split
  all_goals simp [mm, kI_X11_begins, kI_X11_blows, kI_X11_ends, h0, h1]
theorem kJ_X11_setBellows (g : mG) (m : mM) (r : Nat) (a : Int32) (C : Nat) : gJ (X11_setBellows_m g m r a C) = gJ m := by
  unfold X11_setBellows_m
  repeat' split
  all_goals simp only [mm, kJ_X11_begins, kJ_X11_blows, kJ_X11_ends]
theorem kR_X11_setBellows (g : mG) (m : mM) (r : Nat) (a : Int32) (C : Nat) : gR (X11_setBellows_m g m r a C) = gR m := by
  unfold X11_setBellows_m
  repeat' split
  all_goals simp only [mm, kR_X11_begins, kR_X11_blows, kR_X11_ends]
theorem kQ_X11_setBellows (g : mG) (m : mM) (r : Nat) (a : Int32) (C : Nat) : gQ (X11_setBellows_m g m r a C) = gQ m := by
  unfold X11_setBellows_m
  repeat' split
  all_goals simp only [mm, kQ_X11_begins, kQ_X11_blows, kQ_X11_ends]
theorem kL_X11_setBellows (g : mG) (m : mM) (r : Nat) (a : Int32) (C : Nat) : gL (X11_setBellows_m g m r a C) = gL m := by
  unfold X11_setBellows_m
  repeat' split
  all_goals simp only [mm, kL_X11_begins, kL_X11_blows, kL_X11_ends]
theorem kD_X11_setBellows (g : mG) (m : mM) (r : Nat) (a : Int32) (C : Nat) : gD (X11_setBellows_m g m r a C) = gD m := by
  unfold X11_setBellows_m
  repeat' split
  all_goals simp only [mm, kD_X11_begins, kD_X11_blows, kD_X11_ends]
theorem kA_X11_setBellows (g : mG) (m : mM) (r : Nat) (a : Int32) (C : Nat) (c9 i9 : Nat) (h0 : c9 ≠ r + 1) (h1 : c9 ≠ r + 2) (h2 : c9 ≠ r + 4) : gA (X11_setBellows_m g m r a C) c9 i9 = gA m c9 i9 := by
  unfold X11_setBellows_m
  repeat' split
  all_goals simp [mm, kA_X11_begins, kA_X11_blows, kA_X11_ends, h0, h1, h2]
set_option maxHeartbeats 4000000 in
set_option maxRecDepth 100000 in
theorem c_X11_setBellows {l : Launch} {g : mG} (hO : mO l g) (m : mM) (r : Nat) (a : Int32) (C : Nat) (hs : SR m r) (hC : gI m 385 r = nI C) (hC8 : C ≤ 8) : mT l g yX11_setBellows (.code yX11_setBellows cX11_setBellows 2 (Option.some FieldType.int)) 3 64 0 0 [.ref r, .int a] m (fun u m' => u = some (.int (X11_setBellows_r g m r a C)) ∧ m' = X11_setBellows_m g m r a C) nX := by
  refine mT_of hO (by decide) (Nat.le_of_ble_eq_true rfl) (fun x hX hZ => ?_)
  show mV g x m 0 0 0 [(0, .ref r), (1, .int a)] []
  refine v_aload_n (pc := 0) hX dX11_setBellows_0 rfl ?_
  refine v_callV (z := yX11_begins) (pc := 1) hX dX11_setBellows_1 (c_X11_begins hO m r  hs) hs.k rfl wd_1581 wd_1583 wp_17 wd_16 wd_1584 ⟨by decide, by decide, (by decide +kernel : (parseMethodDescriptor yX11_begins.desc).map (fun d => d.parameters.length) = some 0)⟩ rfl (Nat.le_of_ble_eq_true rfl) ⟨⟨by decide, by decide⟩, by decide, by decide⟩ (fun E m9 h9 => h9.elim) (fun r9 m9 h9 => ?_)
  obtain ⟨rfl, h8⟩ := h9
  replace h8 := h8.symm
  subst h8
  show mV g x _ _ _ _ _ []
  refine v_aload_n (pc := 4) hX dX11_setBellows_4 rfl ?_
  refine v_aload_n (pc := 5) hX dX11_setBellows_5 rfl ?_
  refine v_iload_n (pc := 6) hX dX11_setBellows_6 rfl ?_
  refine v_callV (z := yX11_blows) (pc := 7) hX dX11_setBellows_7 (c_X11_blows hO ((X11_begins_m g m r )) r a  (hs.to (by simp only [mm, kK_X11_begins]) (by simp only [mm, kR_X11_begins]))) (by simp only [mm, kK_X11_begins]; exact hs.k) rfl wd_1607 wd_1609 wp_21 wd_16 wd_1610 ⟨by decide, by decide, (by decide +kernel : (parseMethodDescriptor yX11_blows.desc).map (fun d => d.parameters.length) = some 1)⟩ rfl (Nat.le_of_ble_eq_true rfl) ⟨⟨by decide, by decide⟩, by decide, by decide⟩ (fun E m9 h9 => h9.elim) (fun r9 m9 h9 => ?_)
  obtain ⟨rfl, h8⟩ := h9
  replace h8 := h8.symm
  subst h8
  show mV g x _ _ _ _ _ [.int (X11_blows_r g ((X11_begins_m g m r )) r a ), .ref r]
  refine v_callV (z := yX11_ends) (pc := 10) hX dX11_setBellows_10 (c_X11_ends hO ((X11_blows_m g ((X11_begins_m g m r )) r a )) r (X11_blows_r g ((X11_begins_m g m r )) r a ) C (hs.to (by simp only [mm, kK_X11_begins, kK_X11_blows]) (by simp only [mm, kR_X11_begins, kR_X11_blows])) (by simp [mm, kI_X11_begins, kI_X11_blows, hC]) hC8) (by simp only [mm, kK_X11_begins, kK_X11_blows]; exact hs.k) rfl wd_1599 wd_1601 wp_20 wd_16 wd_1602 ⟨by decide, by decide, (by decide +kernel : (parseMethodDescriptor yX11_ends.desc).map (fun d => d.parameters.length) = some 1)⟩ rfl (Nat.le_of_ble_eq_true rfl) ⟨⟨by decide, by decide⟩, by decide, by decide⟩ (fun E m9 h9 => h9.elim) (fun r9 m9 h9 => ?_)
  obtain ⟨rfl, h8⟩ := h9
  replace h8 := h8.symm
  subst h8
  show mV g x _ _ _ _ _ [.int (X11_ends_r g ((X11_blows_m g ((X11_begins_m g m r )) r a )) r (X11_blows_r g ((X11_begins_m g m r )) r a ) C)]
  exact v_iret (pc := 13) hX hZ dX11_setBellows_13 (by decide) (by decide) ⟨(by rw [X11_setBellows_r]), (by rw [X11_setBellows_m])⟩
def X11_advance_r (g : mG) (m : mM) (r : Nat) (a : Int32) (N : Nat) (C : Nat) : Int32 := X11_ends_r g ((X11_passes_m g ((X11_begins_m g m r )) r a N)) r (X11_passes_r g ((X11_begins_m g m r )) r a N) C
def X11_advance_m (g : mG) (m : mM) (r : Nat) (a : Int32) (N : Nat) (C : Nat) : mM := (X11_ends_m g ((X11_passes_m g ((X11_begins_m g m r )) r a N)) r (X11_passes_r g ((X11_begins_m g m r )) r a N) C)
theorem kK_X11_advance (g : mG) (m : mM) (r : Nat) (a : Int32) (N : Nat) (C : Nat) : gK (X11_advance_m g m r a N C) = gK m := by
  unfold X11_advance_m
  repeat' split
  all_goals simp only [mm, kK_X11_begins, kK_X11_ends, kK_X11_passes]
theorem kN_X11_advance (g : mG) (m : mM) (r : Nat) (a : Int32) (N : Nat) (C : Nat) : gN (X11_advance_m g m r a N C) = gN m := by
  unfold X11_advance_m
  repeat' split
  all_goals simp only [mm, kN_X11_begins, kN_X11_ends, kN_X11_passes]
theorem kI_X11_advance (g : mG) (m : mM) (r : Nat) (a : Int32) (N : Nat) (C : Nat) (k a9 : Nat) (h0 : k ≠ 384) (h1 : k ≠ 385) : gI (X11_advance_m g m r a N C) k a9 = gI m k a9 := by
  unfold X11_advance_m
  repeat' split
  all_goals simp [mm, kI_X11_begins, kI_X11_ends, kI_X11_passes, h0, h1]
theorem kJ_X11_advance (g : mG) (m : mM) (r : Nat) (a : Int32) (N : Nat) (C : Nat) : gJ (X11_advance_m g m r a N C) = gJ m := by
  unfold X11_advance_m
  repeat' split
  all_goals simp only [mm, kJ_X11_begins, kJ_X11_ends, kJ_X11_passes]
theorem kR_X11_advance (g : mG) (m : mM) (r : Nat) (a : Int32) (N : Nat) (C : Nat) : gR (X11_advance_m g m r a N C) = gR m := by
  unfold X11_advance_m
  repeat' split
  all_goals simp only [mm, kR_X11_begins, kR_X11_ends, kR_X11_passes]
theorem kQ_X11_advance (g : mG) (m : mM) (r : Nat) (a : Int32) (N : Nat) (C : Nat) : gQ (X11_advance_m g m r a N C) = gQ m := by
  unfold X11_advance_m
  repeat' split
  all_goals simp only [mm, kQ_X11_begins, kQ_X11_ends, kQ_X11_passes]
theorem kL_X11_advance (g : mG) (m : mM) (r : Nat) (a : Int32) (N : Nat) (C : Nat) : gL (X11_advance_m g m r a N C) = gL m := by
  unfold X11_advance_m
  repeat' split
  all_goals simp only [mm, kL_X11_begins, kL_X11_ends, kL_X11_passes]
theorem kD_X11_advance (g : mG) (m : mM) (r : Nat) (a : Int32) (N : Nat) (C : Nat) : gD (X11_advance_m g m r a N C) = gD m := by
  unfold X11_advance_m
  repeat' split
  all_goals simp only [mm, kD_X11_begins, kD_X11_ends, kD_X11_passes]
theorem kA_X11_advance (g : mG) (m : mM) (r : Nat) (a : Int32) (N : Nat) (C : Nat) (c9 i9 : Nat) (h0 : c9 ≠ r + 1) (h1 : c9 ≠ r + 2) (h2 : c9 ≠ r + 4) : gA (X11_advance_m g m r a N C) c9 i9 = gA m c9 i9 := by
  unfold X11_advance_m
  repeat' split
  all_goals simp [mm, kA_X11_begins, kA_X11_ends, kA_X11_passes, h0, h1, h2]
set_option maxHeartbeats 4000000 in
set_option maxRecDepth 100000 in
theorem c_X11_advance {l : Launch} {g : mG} (hO : mO l g) (m : mM) (r : Nat) (a : Int32) (N : Nat) (C : Nat) (hs : SR m r) (hN : gA m (r + 1) 5 = nI N) (hN8 : N ≤ 8) (hC : gI m 385 r = nI C) (hC8 : C ≤ 8) : mT l g yX11_advance (.code yX11_advance cX11_advance 2 (Option.some FieldType.int)) 4 86 0 0 [.ref r, .int a] m (fun u m' => u = some (.int (X11_advance_r g m r a N C)) ∧ m' = X11_advance_m g m r a N C) nX := by
  refine mT_of hO (by decide) (Nat.le_of_ble_eq_true rfl) (fun x hX hZ => ?_)
  show mV g x m 0 0 0 [(0, .ref r), (1, .int a)] []
  refine v_aload_n (pc := 0) hX dX11_advance_0 rfl ?_
  refine v_callV (z := yX11_begins) (pc := 1) hX dX11_advance_1 (c_X11_begins hO m r  hs) hs.k rfl wd_1581 wd_1583 wp_17 wd_16 wd_1584 ⟨by decide, by decide, (by decide +kernel : (parseMethodDescriptor yX11_begins.desc).map (fun d => d.parameters.length) = some 0)⟩ rfl (Nat.le_of_ble_eq_true rfl) ⟨⟨by decide, by decide⟩, by decide, by decide⟩ (fun E m9 h9 => h9.elim) (fun r9 m9 h9 => ?_)
  obtain ⟨rfl, h8⟩ := h9
  replace h8 := h8.symm
  subst h8
  show mV g x _ _ _ _ _ []
  refine v_aload_n (pc := 4) hX dX11_advance_4 rfl ?_
  refine v_aload_n (pc := 5) hX dX11_advance_5 rfl ?_
  refine v_iload_n (pc := 6) hX dX11_advance_6 rfl ?_
  refine v_callV (z := yX11_passes) (pc := 7) hX dX11_advance_7 (c_X11_passes hO ((X11_begins_m g m r )) r a N (hs.to (by simp only [mm, kK_X11_begins]) (by simp only [mm, kR_X11_begins])) (((kA_X11_begins g m r (r + 1) (5) (by omega)).trans rfl).trans hN) hN8) (by simp only [mm, kK_X11_begins]; exact hs.k) rfl wd_1615 wd_1617 wp_22 wd_16 wd_1618 ⟨by decide, by decide, (by decide +kernel : (parseMethodDescriptor yX11_passes.desc).map (fun d => d.parameters.length) = some 1)⟩ rfl (Nat.le_of_ble_eq_true rfl) ⟨⟨by decide, by decide⟩, by decide, by decide⟩ (fun E m9 h9 => h9.elim) (fun r9 m9 h9 => ?_)
  obtain ⟨rfl, h8⟩ := h9
  replace h8 := h8.symm
  subst h8
  show mV g x _ _ _ _ _ [.int (X11_passes_r g ((X11_begins_m g m r )) r a N), .ref r]
  refine v_callV (z := yX11_ends) (pc := 10) hX dX11_advance_10 (c_X11_ends hO ((X11_passes_m g ((X11_begins_m g m r )) r a N)) r (X11_passes_r g ((X11_begins_m g m r )) r a N) C (hs.to (by simp only [mm, kK_X11_begins, kK_X11_passes]) (by simp only [mm, kR_X11_begins, kR_X11_passes])) (by simp [mm, kI_X11_begins, kI_X11_passes, hC]) hC8) (by simp only [mm, kK_X11_begins, kK_X11_passes]; exact hs.k) rfl wd_1599 wd_1601 wp_20 wd_16 wd_1602 ⟨by decide, by decide, (by decide +kernel : (parseMethodDescriptor yX11_ends.desc).map (fun d => d.parameters.length) = some 1)⟩ rfl (Nat.le_of_ble_eq_true rfl) ⟨⟨by decide, by decide⟩, by decide, by decide⟩ (fun E m9 h9 => h9.elim) (fun r9 m9 h9 => ?_)
  obtain ⟨rfl, h8⟩ := h9
  replace h8 := h8.symm
  subst h8
  show mV g x _ _ _ _ _ [.int (X11_ends_r g ((X11_passes_m g ((X11_begins_m g m r )) r a N)) r (X11_passes_r g ((X11_begins_m g m r )) r a N) C)]
  exact v_iret (pc := 13) hX hZ dX11_advance_13 (by decide) (by decide) ⟨(by rw [X11_advance_r]), (by rw [X11_advance_m])⟩
def X11_addPiece_r (g : mG) (m : mM) (r : Nat) (a : Int32) (N : Nat) (C : Nat) : Int32 := X11_ends_r g ((X11_makes_m g ((X11_begins_m g m r )) r a N)) r (X11_makes_r g ((X11_begins_m g m r )) r a N) C
def X11_addPiece_m (g : mG) (m : mM) (r : Nat) (a : Int32) (N : Nat) (C : Nat) : mM := (X11_ends_m g ((X11_makes_m g ((X11_begins_m g m r )) r a N)) r (X11_makes_r g ((X11_begins_m g m r )) r a N) C)
theorem kK_X11_addPiece (g : mG) (m : mM) (r : Nat) (a : Int32) (N : Nat) (C : Nat) : gK (X11_addPiece_m g m r a N C) = gK m := by
  unfold X11_addPiece_m
  repeat' split
  all_goals simp only [mm, kK_X11_begins, kK_X11_ends, kK_X11_makes]
theorem kN_X11_addPiece (g : mG) (m : mM) (r : Nat) (a : Int32) (N : Nat) (C : Nat) : gN (X11_addPiece_m g m r a N C) = gN m := by
  unfold X11_addPiece_m
  repeat' split
  all_goals simp only [mm, kN_X11_begins, kN_X11_ends, kN_X11_makes]
theorem kI_X11_addPiece (g : mG) (m : mM) (r : Nat) (a : Int32) (N : Nat) (C : Nat) (k a9 : Nat) (h0 : k ≠ 384) (h1 : k ≠ 385) : gI (X11_addPiece_m g m r a N C) k a9 = gI m k a9 := by
  unfold X11_addPiece_m
  repeat' split
  all_goals simp [mm, kI_X11_begins, kI_X11_ends, kI_X11_makes, h0, h1]
theorem kJ_X11_addPiece (g : mG) (m : mM) (r : Nat) (a : Int32) (N : Nat) (C : Nat) : gJ (X11_addPiece_m g m r a N C) = gJ m := by
  unfold X11_addPiece_m
  repeat' split
  all_goals simp only [mm, kJ_X11_begins, kJ_X11_ends, kJ_X11_makes]
theorem kR_X11_addPiece (g : mG) (m : mM) (r : Nat) (a : Int32) (N : Nat) (C : Nat) : gR (X11_addPiece_m g m r a N C) = gR m := by
  unfold X11_addPiece_m
  repeat' split
  all_goals simp only [mm, kR_X11_begins, kR_X11_ends, kR_X11_makes]
theorem kQ_X11_addPiece (g : mG) (m : mM) (r : Nat) (a : Int32) (N : Nat) (C : Nat) : gQ (X11_addPiece_m g m r a N C) = gQ m := by
  unfold X11_addPiece_m
  repeat' split
  all_goals simp only [mm, kQ_X11_begins, kQ_X11_ends, kQ_X11_makes]
theorem kL_X11_addPiece (g : mG) (m : mM) (r : Nat) (a : Int32) (N : Nat) (C : Nat) : gL (X11_addPiece_m g m r a N C) = gL m := by
  unfold X11_addPiece_m
  repeat' split
  all_goals simp only [mm, kL_X11_begins, kL_X11_ends, kL_X11_makes]
theorem kD_X11_addPiece (g : mG) (m : mM) (r : Nat) (a : Int32) (N : Nat) (C : Nat) : gD (X11_addPiece_m g m r a N C) = gD m := by
  unfold X11_addPiece_m
  repeat' split
  all_goals simp only [mm, kD_X11_begins, kD_X11_ends, kD_X11_makes]
theorem kA_X11_addPiece (g : mG) (m : mM) (r : Nat) (a : Int32) (N : Nat) (C : Nat) (c9 i9 : Nat) (h0 : c9 ≠ r + 1) (h1 : c9 ≠ r + 2) (h2 : c9 ≠ r + 4) : gA (X11_addPiece_m g m r a N C) c9 i9 = gA m c9 i9 := by
  unfold X11_addPiece_m
  repeat' split
  all_goals simp [mm, kA_X11_begins, kA_X11_ends, kA_X11_makes, h0, h1, h2]
set_option maxHeartbeats 4000000 in
set_option maxRecDepth 100000 in
theorem c_X11_addPiece {l : Launch} {g : mG} (hO : mO l g) (m : mM) (r : Nat) (a : Int32) (N : Nat) (C : Nat) (hs : SR m r) (hN : gA m (r + 1) 5 = nI N) (hN8 : N ≤ 8) (hC : gI m 385 r = nI C) (hC8 : C ≤ 8) : mT l g yX11_addPiece (.code yX11_addPiece cX11_addPiece 2 (Option.some FieldType.int)) 3 64 0 0 [.ref r, .int a] m (fun u m' => u = some (.int (X11_addPiece_r g m r a N C)) ∧ m' = X11_addPiece_m g m r a N C) nX := by
  refine mT_of hO (by decide) (Nat.le_of_ble_eq_true rfl) (fun x hX hZ => ?_)
  show mV g x m 0 0 0 [(0, .ref r), (1, .int a)] []
  refine v_aload_n (pc := 0) hX dX11_addPiece_0 rfl ?_
  refine v_callV (z := yX11_begins) (pc := 1) hX dX11_addPiece_1 (c_X11_begins hO m r  hs) hs.k rfl wd_1581 wd_1583 wp_17 wd_16 wd_1584 ⟨by decide, by decide, (by decide +kernel : (parseMethodDescriptor yX11_begins.desc).map (fun d => d.parameters.length) = some 0)⟩ rfl (Nat.le_of_ble_eq_true rfl) ⟨⟨by decide, by decide⟩, by decide, by decide⟩ (fun E m9 h9 => h9.elim) (fun r9 m9 h9 => ?_)
  obtain ⟨rfl, h8⟩ := h9
  replace h8 := h8.symm
  subst h8
  show mV g x _ _ _ _ _ []
  refine v_aload_n (pc := 4) hX dX11_addPiece_4 rfl ?_
  refine v_aload_n (pc := 5) hX dX11_addPiece_5 rfl ?_
  refine v_iload_n (pc := 6) hX dX11_addPiece_6 rfl ?_
  refine v_callV (z := yX11_makes) (pc := 7) hX dX11_addPiece_7 (c_X11_makes hO ((X11_begins_m g m r )) r a N (hs.to (by simp only [mm, kK_X11_begins]) (by simp only [mm, kR_X11_begins])) (((kA_X11_begins g m r (r + 1) (5) (by omega)).trans rfl).trans hN) hN8) (by simp only [mm, kK_X11_begins]; exact hs.k) rfl wd_1636 wd_1638 wp_24 wd_16 wd_1639 ⟨by decide, by decide, (by decide +kernel : (parseMethodDescriptor yX11_makes.desc).map (fun d => d.parameters.length) = some 1)⟩ rfl (Nat.le_of_ble_eq_true rfl) ⟨⟨by decide, by decide⟩, by decide, by decide⟩ (fun E m9 h9 => h9.elim) (fun r9 m9 h9 => ?_)
  obtain ⟨rfl, h8⟩ := h9
  replace h8 := h8.symm
  subst h8
  show mV g x _ _ _ _ _ [.int (X11_makes_r g ((X11_begins_m g m r )) r a N), .ref r]
  refine v_callV (z := yX11_ends) (pc := 10) hX dX11_addPiece_10 (c_X11_ends hO ((X11_makes_m g ((X11_begins_m g m r )) r a N)) r (X11_makes_r g ((X11_begins_m g m r )) r a N) C (hs.to (by simp only [mm, kK_X11_begins, kK_X11_makes]) (by simp only [mm, kR_X11_begins, kR_X11_makes])) (by simp [mm, kI_X11_begins, kI_X11_makes, hC]) hC8) (by simp only [mm, kK_X11_begins, kK_X11_makes]; exact hs.k) rfl wd_1599 wd_1601 wp_20 wd_16 wd_1602 ⟨by decide, by decide, (by decide +kernel : (parseMethodDescriptor yX11_ends.desc).map (fun d => d.parameters.length) = some 1)⟩ rfl (Nat.le_of_ble_eq_true rfl) ⟨⟨by decide, by decide⟩, by decide, by decide⟩ (fun E m9 h9 => h9.elim) (fun r9 m9 h9 => ?_)
  obtain ⟨rfl, h8⟩ := h9
  replace h8 := h8.symm
  subst h8
  show mV g x _ _ _ _ _ [.int (X11_ends_r g ((X11_makes_m g ((X11_begins_m g m r )) r a N)) r (X11_makes_r g ((X11_begins_m g m r )) r a N) C)]
  exact v_iret (pc := 13) hX hZ dX11_addPiece_13 (by decide) (by decide) ⟨(by rw [X11_addPiece_r]), (by rw [X11_addPiece_m])⟩
def X11_addHammer_r (g : mG) (m : mM) (r : Nat) (a : Int32) (H : Nat) (C : Nat) : Int32 := X11_ends_r g ((X11_equips_m g ((X11_begins_m g m r )) r a H)) r (X11_equips_r g ((X11_begins_m g m r )) r a H) C
def X11_addHammer_m (g : mG) (m : mM) (r : Nat) (a : Int32) (H : Nat) (C : Nat) : mM := (X11_ends_m g ((X11_equips_m g ((X11_begins_m g m r )) r a H)) r (X11_equips_r g ((X11_begins_m g m r )) r a H) C)
theorem kK_X11_addHammer (g : mG) (m : mM) (r : Nat) (a : Int32) (H : Nat) (C : Nat) : gK (X11_addHammer_m g m r a H C) = gK m := by
  unfold X11_addHammer_m
  repeat' split
  all_goals simp only [mm, kK_X11_begins, kK_X11_ends, kK_X11_equips]
theorem kN_X11_addHammer (g : mG) (m : mM) (r : Nat) (a : Int32) (H : Nat) (C : Nat) : gN (X11_addHammer_m g m r a H C) = gN m := by
  unfold X11_addHammer_m
  repeat' split
  all_goals simp only [mm, kN_X11_begins, kN_X11_ends, kN_X11_equips]
theorem kI_X11_addHammer (g : mG) (m : mM) (r : Nat) (a : Int32) (H : Nat) (C : Nat) (k a9 : Nat) (h0 : k ≠ 384) (h1 : k ≠ 385) : gI (X11_addHammer_m g m r a H C) k a9 = gI m k a9 := by
  unfold X11_addHammer_m
  repeat' split
  all_goals simp [mm, kI_X11_begins, kI_X11_ends, kI_X11_equips, h0, h1]
theorem kJ_X11_addHammer (g : mG) (m : mM) (r : Nat) (a : Int32) (H : Nat) (C : Nat) : gJ (X11_addHammer_m g m r a H C) = gJ m := by
  unfold X11_addHammer_m
  repeat' split
  all_goals simp only [mm, kJ_X11_begins, kJ_X11_ends, kJ_X11_equips]
theorem kR_X11_addHammer (g : mG) (m : mM) (r : Nat) (a : Int32) (H : Nat) (C : Nat) : gR (X11_addHammer_m g m r a H C) = gR m := by
  unfold X11_addHammer_m
  repeat' split
  all_goals simp only [mm, kR_X11_begins, kR_X11_ends, kR_X11_equips]
theorem kQ_X11_addHammer (g : mG) (m : mM) (r : Nat) (a : Int32) (H : Nat) (C : Nat) : gQ (X11_addHammer_m g m r a H C) = gQ m := by
  unfold X11_addHammer_m
  repeat' split
  all_goals simp only [mm, kQ_X11_begins, kQ_X11_ends, kQ_X11_equips]
theorem kL_X11_addHammer (g : mG) (m : mM) (r : Nat) (a : Int32) (H : Nat) (C : Nat) : gL (X11_addHammer_m g m r a H C) = gL m := by
  unfold X11_addHammer_m
  repeat' split
  all_goals simp only [mm, kL_X11_begins, kL_X11_ends, kL_X11_equips]
theorem kD_X11_addHammer (g : mG) (m : mM) (r : Nat) (a : Int32) (H : Nat) (C : Nat) : gD (X11_addHammer_m g m r a H C) = gD m := by
  unfold X11_addHammer_m
  repeat' split
  all_goals simp only [mm, kD_X11_begins, kD_X11_ends, kD_X11_equips]
theorem kA_X11_addHammer (g : mG) (m : mM) (r : Nat) (a : Int32) (H : Nat) (C : Nat) (c9 i9 : Nat) (h0 : c9 ≠ r + 1) (h1 : c9 ≠ r + 2) (h2 : c9 ≠ r + 4) : gA (X11_addHammer_m g m r a H C) c9 i9 = gA m c9 i9 := by
  unfold X11_addHammer_m
  repeat' split
  all_goals simp [mm, kA_X11_begins, kA_X11_ends, kA_X11_equips, h0, h1, h2]
set_option maxHeartbeats 4000000 in
set_option maxRecDepth 100000 in
theorem c_X11_addHammer {l : Launch} {g : mG} (hO : mO l g) (m : mM) (r : Nat) (a : Int32) (H : Nat) (C : Nat) (hs : SR m r) (hH : gA m (r + 1) 6 = nI H) (hH4 : H ≤ 4) (hC : gI m 385 r = nI C) (hC8 : C ≤ 8) : mT l g yX11_addHammer (.code yX11_addHammer cX11_addHammer 2 (Option.some FieldType.int)) 3 64 0 0 [.ref r, .int a] m (fun u m' => u = some (.int (X11_addHammer_r g m r a H C)) ∧ m' = X11_addHammer_m g m r a H C) nX := by
  refine mT_of hO (by decide) (Nat.le_of_ble_eq_true rfl) (fun x hX hZ => ?_)
  show mV g x m 0 0 0 [(0, .ref r), (1, .int a)] []
  refine v_aload_n (pc := 0) hX dX11_addHammer_0 rfl ?_
  refine v_callV (z := yX11_begins) (pc := 1) hX dX11_addHammer_1 (c_X11_begins hO m r  hs) hs.k rfl wd_1581 wd_1583 wp_17 wd_16 wd_1584 ⟨by decide, by decide, (by decide +kernel : (parseMethodDescriptor yX11_begins.desc).map (fun d => d.parameters.length) = some 0)⟩ rfl (Nat.le_of_ble_eq_true rfl) ⟨⟨by decide, by decide⟩, by decide, by decide⟩ (fun E m9 h9 => h9.elim) (fun r9 m9 h9 => ?_)
  obtain ⟨rfl, h8⟩ := h9
  replace h8 := h8.symm
  subst h8
  show mV g x _ _ _ _ _ []
  refine v_aload_n (pc := 4) hX dX11_addHammer_4 rfl ?_
  refine v_aload_n (pc := 5) hX dX11_addHammer_5 rfl ?_
  refine v_iload_n (pc := 6) hX dX11_addHammer_6 rfl ?_
  refine v_callV (z := yX11_equips) (pc := 7) hX dX11_addHammer_7 (c_X11_equips hO ((X11_begins_m g m r )) r a H (hs.to (by simp only [mm, kK_X11_begins]) (by simp only [mm, kR_X11_begins])) (((kA_X11_begins g m r (r + 1) (6) (by omega)).trans rfl).trans hH) hH4) (by simp only [mm, kK_X11_begins]; exact hs.k) rfl wd_1644 wd_1646 wp_25 wd_16 wd_1647 ⟨by decide, by decide, (by decide +kernel : (parseMethodDescriptor yX11_equips.desc).map (fun d => d.parameters.length) = some 1)⟩ rfl (Nat.le_of_ble_eq_true rfl) ⟨⟨by decide, by decide⟩, by decide, by decide⟩ (fun E m9 h9 => h9.elim) (fun r9 m9 h9 => ?_)
  obtain ⟨rfl, h8⟩ := h9
  replace h8 := h8.symm
  subst h8
  show mV g x _ _ _ _ _ [.int (X11_equips_r g ((X11_begins_m g m r )) r a H), .ref r]
  refine v_callV (z := yX11_ends) (pc := 10) hX dX11_addHammer_10 (c_X11_ends hO ((X11_equips_m g ((X11_begins_m g m r )) r a H)) r (X11_equips_r g ((X11_begins_m g m r )) r a H) C (hs.to (by simp only [mm, kK_X11_begins, kK_X11_equips]) (by simp only [mm, kR_X11_begins, kR_X11_equips])) (by simp [mm, kI_X11_begins, kI_X11_equips, hC]) hC8) (by simp only [mm, kK_X11_begins, kK_X11_equips]; exact hs.k) rfl wd_1599 wd_1601 wp_20 wd_16 wd_1602 ⟨by decide, by decide, (by decide +kernel : (parseMethodDescriptor yX11_ends.desc).map (fun d => d.parameters.length) = some 1)⟩ rfl (Nat.le_of_ble_eq_true rfl) ⟨⟨by decide, by decide⟩, by decide, by decide⟩ (fun E m9 h9 => h9.elim) (fun r9 m9 h9 => ?_)
  obtain ⟨rfl, h8⟩ := h9
  replace h8 := h8.symm
  subst h8
  show mV g x _ _ _ _ _ [.int (X11_ends_r g ((X11_equips_m g ((X11_begins_m g m r )) r a H)) r (X11_equips_r g ((X11_begins_m g m r )) r a H) C)]
  exact v_iret (pc := 13) hX hZ dX11_addHammer_13 (by decide) (by decide) ⟨(by rw [X11_addHammer_r]), (by rw [X11_addHammer_m])⟩
def X11_putIn_r (g : mG) (m : mM) (r : Nat) (a : Int32) (N : Nat) (C : Nat) : Int32 := X11_ends_r g ((X11_puts_m g ((X11_begins_m g m r )) r (X11_find_r g m r a N) N)) r (X11_puts_r g ((X11_begins_m g m r )) r (X11_find_r g m r a N) N) C
def X11_putIn_m (g : mG) (m : mM) (r : Nat) (a : Int32) (N : Nat) (C : Nat) : mM := (X11_ends_m g ((X11_puts_m g ((X11_begins_m g m r )) r (X11_find_r g m r a N) N)) r (X11_puts_r g ((X11_begins_m g m r )) r (X11_find_r g m r a N) N) C)
theorem kK_X11_putIn (g : mG) (m : mM) (r : Nat) (a : Int32) (N : Nat) (C : Nat) : gK (X11_putIn_m g m r a N C) = gK m := by
  unfold X11_putIn_m
  repeat' split
  all_goals simp only [mm, kK_X11_begins, kK_X11_ends, kK_X11_puts]
theorem kN_X11_putIn (g : mG) (m : mM) (r : Nat) (a : Int32) (N : Nat) (C : Nat) : gN (X11_putIn_m g m r a N C) = gN m := by
  unfold X11_putIn_m
  repeat' split
  all_goals simp only [mm, kN_X11_begins, kN_X11_ends, kN_X11_puts]
theorem kI_X11_putIn (g : mG) (m : mM) (r : Nat) (a : Int32) (N : Nat) (C : Nat) (k a9 : Nat) (h0 : k ≠ 384) (h1 : k ≠ 385) : gI (X11_putIn_m g m r a N C) k a9 = gI m k a9 := by
  unfold X11_putIn_m
  repeat' split
  all_goals simp [mm, kI_X11_begins, kI_X11_ends, kI_X11_puts, h0, h1]
theorem kJ_X11_putIn (g : mG) (m : mM) (r : Nat) (a : Int32) (N : Nat) (C : Nat) : gJ (X11_putIn_m g m r a N C) = gJ m := by
  unfold X11_putIn_m
  repeat' split
  all_goals simp only [mm, kJ_X11_begins, kJ_X11_ends, kJ_X11_puts]
theorem kR_X11_putIn (g : mG) (m : mM) (r : Nat) (a : Int32) (N : Nat) (C : Nat) : gR (X11_putIn_m g m r a N C) = gR m := by
  unfold X11_putIn_m
  repeat' split
  all_goals simp only [mm, kR_X11_begins, kR_X11_ends, kR_X11_puts]
theorem kQ_X11_putIn (g : mG) (m : mM) (r : Nat) (a : Int32) (N : Nat) (C : Nat) : gQ (X11_putIn_m g m r a N C) = gQ m := by
  unfold X11_putIn_m
  repeat' split
  all_goals simp only [mm, kQ_X11_begins, kQ_X11_ends, kQ_X11_puts]
theorem kL_X11_putIn (g : mG) (m : mM) (r : Nat) (a : Int32) (N : Nat) (C : Nat) : gL (X11_putIn_m g m r a N C) = gL m := by
  unfold X11_putIn_m
  repeat' split
  all_goals simp only [mm, kL_X11_begins, kL_X11_ends, kL_X11_puts]
theorem kD_X11_putIn (g : mG) (m : mM) (r : Nat) (a : Int32) (N : Nat) (C : Nat) : gD (X11_putIn_m g m r a N C) = gD m := by
  unfold X11_putIn_m
  repeat' split
  all_goals simp only [mm, kD_X11_begins, kD_X11_ends, kD_X11_puts]
theorem kA_X11_putIn (g : mG) (m : mM) (r : Nat) (a : Int32) (N : Nat) (C : Nat) (c9 i9 : Nat) (h0 : c9 ≠ r + 1) (h1 : c9 ≠ r + 2) (h2 : c9 ≠ r + 4) : gA (X11_putIn_m g m r a N C) c9 i9 = gA m c9 i9 := by
  unfold X11_putIn_m
  repeat' split
  all_goals simp [mm, kA_X11_begins, kA_X11_ends, kA_X11_puts, h0, h1, h2]
set_option maxHeartbeats 4000000 in
set_option maxRecDepth 100000 in
theorem c_X11_putIn {l : Launch} {g : mG} (hO : mO l g) (m : mM) (r : Nat) (a : Int32) (N : Nat) (C : Nat) (hs : SR m r) (hN : gA m (r + 1) 5 = nI N) (hN8 : N ≤ 8) (hC : gI m 385 r = nI C) (hC8 : C ≤ 8) : mT l g yX11_putIn (.code yX11_putIn cX11_putIn 2 (Option.some FieldType.int)) 4 84 0 0 [.ref r, .int a] m (fun u m' => u = some (.int (X11_putIn_r g m r a N C)) ∧ m' = X11_putIn_m g m r a N C) nX := by
  refine mT_of hO (by decide) (Nat.le_of_ble_eq_true rfl) (fun x hX hZ => ?_)
  show mV g x m 0 0 0 [(0, .ref r), (1, .int a)] []
  refine v_aload_n (pc := 0) hX dX11_putIn_0 rfl ?_
  refine v_callV (z := yX11_begins) (pc := 1) hX dX11_putIn_1 (c_X11_begins hO m r  hs) hs.k rfl wd_1581 wd_1583 wp_17 wd_16 wd_1584 ⟨by decide, by decide, (by decide +kernel : (parseMethodDescriptor yX11_begins.desc).map (fun d => d.parameters.length) = some 0)⟩ rfl (Nat.le_of_ble_eq_true rfl) ⟨⟨by decide, by decide⟩, by decide, by decide⟩ (fun E m9 h9 => h9.elim) (fun r9 m9 h9 => ?_)
  obtain ⟨rfl, h8⟩ := h9
  replace h8 := h8.symm
  subst h8
  show mV g x _ _ _ _ _ []
  refine v_aload_n (pc := 4) hX dX11_putIn_4 rfl ?_
  refine v_aload_n (pc := 5) hX dX11_putIn_5 rfl ?_
  refine v_aload_n (pc := 6) hX dX11_putIn_6 rfl ?_
  refine v_iload_n (pc := 7) hX dX11_putIn_7 rfl ?_
  refine v_callV (z := yX11_find) (pc := 8) hX dX11_putIn_8 (c_X11_find hO ((X11_begins_m g m r )) r a N (hs.to (by simp only [mm, kK_X11_begins]) (by simp only [mm, kR_X11_begins])) (((kA_X11_begins g m r (r + 1) (5) (by omega)).trans rfl).trans hN) hN8) (by simp only [mm, kK_X11_begins]; exact hs.k) rfl wd_1652 wd_1654 wp_26 wd_16 wd_1655 ⟨by decide, by decide, (by decide +kernel : (parseMethodDescriptor yX11_find.desc).map (fun d => d.parameters.length) = some 1)⟩ rfl (Nat.le_of_ble_eq_true rfl) ⟨⟨by decide, by decide⟩, by decide, by decide⟩ (fun E m9 h9 => h9.elim) (fun r9 m9 h9 => ?_)
  obtain ⟨rfl, h8⟩ := h9
  replace h8 := h8.symm
  subst h8
  rw [fd_cg (m := m) (m1 := (X11_begins_m g m r )) ((funext fun i => kA_X11_begins g m r (r + 1) i (by omega)).trans rfl)]
  show mV g x _ _ _ _ _ [.int (X11_find_r g m r a N), .ref r, .ref r]
  refine v_callV (z := yX11_puts) (pc := 11) hX dX11_putIn_11 (c_X11_puts hO ((X11_begins_m g m r )) r (X11_find_r g m r a N) N (hs.to (by simp only [mm, kK_X11_begins]) (by simp only [mm, kR_X11_begins])) (((kA_X11_begins g m r (r + 1) (5) (by omega)).trans rfl).trans hN) hN8 (fun h => (fd_ge hN8 h).1)) (by simp only [mm, kK_X11_begins]; exact hs.k) rfl wd_1656 wd_1658 wp_27 wd_16 wd_1659 ⟨by decide, by decide, (by decide +kernel : (parseMethodDescriptor yX11_puts.desc).map (fun d => d.parameters.length) = some 1)⟩ rfl (Nat.le_of_ble_eq_true rfl) ⟨⟨by decide, by decide⟩, by decide, by decide⟩ (fun E m9 h9 => h9.elim) (fun r9 m9 h9 => ?_)
  obtain ⟨rfl, h8⟩ := h9
  replace h8 := h8.symm
  subst h8
  show mV g x _ _ _ _ _ [.int (X11_puts_r g ((X11_begins_m g m r )) r (X11_find_r g m r a N) N), .ref r]
  refine v_callV (z := yX11_ends) (pc := 14) hX dX11_putIn_14 (c_X11_ends hO ((X11_puts_m g ((X11_begins_m g m r )) r (X11_find_r g m r a N) N)) r (X11_puts_r g ((X11_begins_m g m r )) r (X11_find_r g m r a N) N) C (hs.to (by simp only [mm, kK_X11_begins, kK_X11_puts]) (by simp only [mm, kR_X11_begins, kR_X11_puts])) (by simp [mm, kI_X11_begins, kI_X11_puts, hC]) hC8) (by simp only [mm, kK_X11_begins, kK_X11_puts]; exact hs.k) rfl wd_1599 wd_1601 wp_20 wd_16 wd_1602 ⟨by decide, by decide, (by decide +kernel : (parseMethodDescriptor yX11_ends.desc).map (fun d => d.parameters.length) = some 1)⟩ rfl (Nat.le_of_ble_eq_true rfl) ⟨⟨by decide, by decide⟩, by decide, by decide⟩ (fun E m9 h9 => h9.elim) (fun r9 m9 h9 => ?_)
  obtain ⟨rfl, h8⟩ := h9
  replace h8 := h8.symm
  subst h8
  show mV g x _ _ _ _ _ [.int (X11_ends_r g ((X11_puts_m g ((X11_begins_m g m r )) r (X11_find_r g m r a N) N)) r (X11_puts_r g ((X11_begins_m g m r )) r (X11_find_r g m r a N) N) C)]
  exact v_iret (pc := 17) hX hZ dX11_putIn_17 (by decide) (by decide) ⟨(by rw [X11_putIn_r]), (by rw [X11_putIn_m])⟩
def X11_takeOut_r (g : mG) (m : mM) (r : Nat) (a : Int32) (N : Nat) (C : Nat) : Int32 := X11_ends_r g ((X11_takes_m g ((X11_begins_m g m r )) r (X11_find_r g m r a N) )) r (X11_takes_r g ((X11_begins_m g m r )) r (X11_find_r g m r a N) ) C
def X11_takeOut_m (g : mG) (m : mM) (r : Nat) (a : Int32) (N : Nat) (C : Nat) : mM := (X11_ends_m g ((X11_takes_m g ((X11_begins_m g m r )) r (X11_find_r g m r a N) )) r (X11_takes_r g ((X11_begins_m g m r )) r (X11_find_r g m r a N) ) C)
theorem kK_X11_takeOut (g : mG) (m : mM) (r : Nat) (a : Int32) (N : Nat) (C : Nat) : gK (X11_takeOut_m g m r a N C) = gK m := by
  unfold X11_takeOut_m
  repeat' split
  all_goals simp only [mm, kK_X11_begins, kK_X11_ends, kK_X11_takes]
theorem kN_X11_takeOut (g : mG) (m : mM) (r : Nat) (a : Int32) (N : Nat) (C : Nat) : gN (X11_takeOut_m g m r a N C) = gN m := by
  unfold X11_takeOut_m
  repeat' split
  all_goals simp only [mm, kN_X11_begins, kN_X11_ends, kN_X11_takes]
theorem kI_X11_takeOut (g : mG) (m : mM) (r : Nat) (a : Int32) (N : Nat) (C : Nat) (k a9 : Nat) (h0 : k ≠ 384) (h1 : k ≠ 385) : gI (X11_takeOut_m g m r a N C) k a9 = gI m k a9 := by
  unfold X11_takeOut_m
  repeat' split
  all_goals simp [mm, kI_X11_begins, kI_X11_ends, kI_X11_takes, h0, h1]
theorem kJ_X11_takeOut (g : mG) (m : mM) (r : Nat) (a : Int32) (N : Nat) (C : Nat) : gJ (X11_takeOut_m g m r a N C) = gJ m := by
  unfold X11_takeOut_m
  repeat' split
  all_goals simp only [mm, kJ_X11_begins, kJ_X11_ends, kJ_X11_takes]
theorem kR_X11_takeOut (g : mG) (m : mM) (r : Nat) (a : Int32) (N : Nat) (C : Nat) : gR (X11_takeOut_m g m r a N C) = gR m := by
  unfold X11_takeOut_m
  repeat' split
  all_goals simp only [mm, kR_X11_begins, kR_X11_ends, kR_X11_takes]
theorem kQ_X11_takeOut (g : mG) (m : mM) (r : Nat) (a : Int32) (N : Nat) (C : Nat) : gQ (X11_takeOut_m g m r a N C) = gQ m := by
  unfold X11_takeOut_m
  repeat' split
  all_goals simp only [mm, kQ_X11_begins, kQ_X11_ends, kQ_X11_takes]
theorem kL_X11_takeOut (g : mG) (m : mM) (r : Nat) (a : Int32) (N : Nat) (C : Nat) : gL (X11_takeOut_m g m r a N C) = gL m := by
  unfold X11_takeOut_m
  repeat' split
  all_goals simp only [mm, kL_X11_begins, kL_X11_ends, kL_X11_takes]
theorem kD_X11_takeOut (g : mG) (m : mM) (r : Nat) (a : Int32) (N : Nat) (C : Nat) : gD (X11_takeOut_m g m r a N C) = gD m := by
  unfold X11_takeOut_m
  repeat' split
  all_goals simp only [mm, kD_X11_begins, kD_X11_ends, kD_X11_takes]
theorem kA_X11_takeOut (g : mG) (m : mM) (r : Nat) (a : Int32) (N : Nat) (C : Nat) (c9 i9 : Nat) (h0 : c9 ≠ r + 1) (h1 : c9 ≠ r + 2) (h2 : c9 ≠ r + 4) : gA (X11_takeOut_m g m r a N C) c9 i9 = gA m c9 i9 := by
  unfold X11_takeOut_m
  repeat' split
  all_goals simp [mm, kA_X11_begins, kA_X11_ends, kA_X11_takes, h0, h1, h2]
set_option maxHeartbeats 4000000 in
set_option maxRecDepth 100000 in
theorem c_X11_takeOut {l : Launch} {g : mG} (hO : mO l g) (m : mM) (r : Nat) (a : Int32) (N : Nat) (C : Nat) (hs : SR m r) (hN : gA m (r + 1) 5 = nI N) (hN8 : N ≤ 8) (hC : gI m 385 r = nI C) (hC8 : C ≤ 8) : mT l g yX11_takeOut (.code yX11_takeOut cX11_takeOut 2 (Option.some FieldType.int)) 3 64 0 0 [.ref r, .int a] m (fun u m' => u = some (.int (X11_takeOut_r g m r a N C)) ∧ m' = X11_takeOut_m g m r a N C) nX := by
  refine mT_of hO (by decide) (Nat.le_of_ble_eq_true rfl) (fun x hX hZ => ?_)
  show mV g x m 0 0 0 [(0, .ref r), (1, .int a)] []
  refine v_aload_n (pc := 0) hX dX11_takeOut_0 rfl ?_
  refine v_callV (z := yX11_begins) (pc := 1) hX dX11_takeOut_1 (c_X11_begins hO m r  hs) hs.k rfl wd_1581 wd_1583 wp_17 wd_16 wd_1584 ⟨by decide, by decide, (by decide +kernel : (parseMethodDescriptor yX11_begins.desc).map (fun d => d.parameters.length) = some 0)⟩ rfl (Nat.le_of_ble_eq_true rfl) ⟨⟨by decide, by decide⟩, by decide, by decide⟩ (fun E m9 h9 => h9.elim) (fun r9 m9 h9 => ?_)
  obtain ⟨rfl, h8⟩ := h9
  replace h8 := h8.symm
  subst h8
  show mV g x _ _ _ _ _ []
  refine v_aload_n (pc := 4) hX dX11_takeOut_4 rfl ?_
  refine v_aload_n (pc := 5) hX dX11_takeOut_5 rfl ?_
  refine v_aload_n (pc := 6) hX dX11_takeOut_6 rfl ?_
  refine v_iload_n (pc := 7) hX dX11_takeOut_7 rfl ?_
  refine v_callV (z := yX11_find) (pc := 8) hX dX11_takeOut_8 (c_X11_find hO ((X11_begins_m g m r )) r a N (hs.to (by simp only [mm, kK_X11_begins]) (by simp only [mm, kR_X11_begins])) (((kA_X11_begins g m r (r + 1) (5) (by omega)).trans rfl).trans hN) hN8) (by simp only [mm, kK_X11_begins]; exact hs.k) rfl wd_1652 wd_1654 wp_26 wd_16 wd_1655 ⟨by decide, by decide, (by decide +kernel : (parseMethodDescriptor yX11_find.desc).map (fun d => d.parameters.length) = some 1)⟩ rfl (Nat.le_of_ble_eq_true rfl) ⟨⟨by decide, by decide⟩, by decide, by decide⟩ (fun E m9 h9 => h9.elim) (fun r9 m9 h9 => ?_)
  obtain ⟨rfl, h8⟩ := h9
  replace h8 := h8.symm
  subst h8
  rw [fd_cg (m := m) (m1 := (X11_begins_m g m r )) ((funext fun i => kA_X11_begins g m r (r + 1) i (by omega)).trans rfl)]
  show mV g x _ _ _ _ _ [.int (X11_find_r g m r a N), .ref r, .ref r]
  refine v_callV (z := yX11_takes) (pc := 11) hX dX11_takeOut_11 (c_X11_takes hO ((X11_begins_m g m r )) r (X11_find_r g m r a N)  (hs.to (by simp only [mm, kK_X11_begins]) (by simp only [mm, kR_X11_begins])) (fun h => (fd_ge hN8 h).1)) (by simp only [mm, kK_X11_begins]; exact hs.k) rfl wd_1668 wd_1670 wp_29 wd_16 wd_1671 ⟨by decide, by decide, (by decide +kernel : (parseMethodDescriptor yX11_takes.desc).map (fun d => d.parameters.length) = some 1)⟩ rfl (Nat.le_of_ble_eq_true rfl) ⟨⟨by decide, by decide⟩, by decide, by decide⟩ (fun E m9 h9 => h9.elim) (fun r9 m9 h9 => ?_)
  obtain ⟨rfl, h8⟩ := h9
  replace h8 := h8.symm
  subst h8
  show mV g x _ _ _ _ _ [.int (X11_takes_r g ((X11_begins_m g m r )) r (X11_find_r g m r a N) ), .ref r]
  refine v_callV (z := yX11_ends) (pc := 14) hX dX11_takeOut_14 (c_X11_ends hO ((X11_takes_m g ((X11_begins_m g m r )) r (X11_find_r g m r a N) )) r (X11_takes_r g ((X11_begins_m g m r )) r (X11_find_r g m r a N) ) C (hs.to (by simp only [mm, kK_X11_begins, kK_X11_takes]) (by simp only [mm, kR_X11_begins, kR_X11_takes])) (by simp [mm, kI_X11_begins, kI_X11_takes, hC]) hC8) (by simp only [mm, kK_X11_begins, kK_X11_takes]; exact hs.k) rfl wd_1599 wd_1601 wp_20 wd_16 wd_1602 ⟨by decide, by decide, (by decide +kernel : (parseMethodDescriptor yX11_ends.desc).map (fun d => d.parameters.length) = some 1)⟩ rfl (Nat.le_of_ble_eq_true rfl) ⟨⟨by decide, by decide⟩, by decide, by decide⟩ (fun E m9 h9 => h9.elim) (fun r9 m9 h9 => ?_)
  obtain ⟨rfl, h8⟩ := h9
  replace h8 := h8.symm
  subst h8
  show mV g x _ _ _ _ _ [.int (X11_ends_r g ((X11_takes_m g ((X11_begins_m g m r )) r (X11_find_r g m r a N) )) r (X11_takes_r g ((X11_begins_m g m r )) r (X11_find_r g m r a N) ) C)]
  exact v_iret (pc := 17) hX hZ dX11_takeOut_17 (by decide) (by decide) ⟨(by rw [X11_takeOut_r]), (by rw [X11_takeOut_m])⟩
def X11_quench_r (g : mG) (m : mM) (r : Nat) (a : Int32) (N : Nat) (C : Nat) : Int32 := X11_ends_r g ((X11_quenches_m g ((X11_begins_m g m r )) r (X11_find_r g m r a N) )) r (X11_quenches_r g ((X11_begins_m g m r )) r (X11_find_r g m r a N) ) C
def X11_quench_m (g : mG) (m : mM) (r : Nat) (a : Int32) (N : Nat) (C : Nat) : mM := (X11_ends_m g ((X11_quenches_m g ((X11_begins_m g m r )) r (X11_find_r g m r a N) )) r (X11_quenches_r g ((X11_begins_m g m r )) r (X11_find_r g m r a N) ) C)
theorem kK_X11_quench (g : mG) (m : mM) (r : Nat) (a : Int32) (N : Nat) (C : Nat) : gK (X11_quench_m g m r a N C) = gK m := by
  unfold X11_quench_m
  repeat' split
  all_goals simp only [mm, kK_X11_begins, kK_X11_ends, kK_X11_quenches]
theorem kN_X11_quench (g : mG) (m : mM) (r : Nat) (a : Int32) (N : Nat) (C : Nat) : gN (X11_quench_m g m r a N C) = gN m := by
  unfold X11_quench_m
  repeat' split
  all_goals simp only [mm, kN_X11_begins, kN_X11_ends, kN_X11_quenches]
theorem kI_X11_quench (g : mG) (m : mM) (r : Nat) (a : Int32) (N : Nat) (C : Nat) (k a9 : Nat) (h0 : k ≠ 384) (h1 : k ≠ 385) : gI (X11_quench_m g m r a N C) k a9 = gI m k a9 := by
  unfold X11_quench_m
  repeat' split
  all_goals simp [mm, kI_X11_begins, kI_X11_ends, kI_X11_quenches, h0, h1]
theorem kJ_X11_quench (g : mG) (m : mM) (r : Nat) (a : Int32) (N : Nat) (C : Nat) : gJ (X11_quench_m g m r a N C) = gJ m := by
  unfold X11_quench_m
  repeat' split
  all_goals simp only [mm, kJ_X11_begins, kJ_X11_ends, kJ_X11_quenches]
theorem kR_X11_quench (g : mG) (m : mM) (r : Nat) (a : Int32) (N : Nat) (C : Nat) : gR (X11_quench_m g m r a N C) = gR m := by
  unfold X11_quench_m
  repeat' split
  all_goals simp only [mm, kR_X11_begins, kR_X11_ends, kR_X11_quenches]
theorem kQ_X11_quench (g : mG) (m : mM) (r : Nat) (a : Int32) (N : Nat) (C : Nat) : gQ (X11_quench_m g m r a N C) = gQ m := by
  unfold X11_quench_m
  repeat' split
  all_goals simp only [mm, kQ_X11_begins, kQ_X11_ends, kQ_X11_quenches]
theorem kL_X11_quench (g : mG) (m : mM) (r : Nat) (a : Int32) (N : Nat) (C : Nat) : gL (X11_quench_m g m r a N C) = gL m := by
  unfold X11_quench_m
  repeat' split
  all_goals simp only [mm, kL_X11_begins, kL_X11_ends, kL_X11_quenches]
theorem kD_X11_quench (g : mG) (m : mM) (r : Nat) (a : Int32) (N : Nat) (C : Nat) : gD (X11_quench_m g m r a N C) = gD m := by
  unfold X11_quench_m
  repeat' split
  all_goals simp only [mm, kD_X11_begins, kD_X11_ends, kD_X11_quenches]
theorem kA_X11_quench (g : mG) (m : mM) (r : Nat) (a : Int32) (N : Nat) (C : Nat) (c9 i9 : Nat) (h0 : c9 ≠ r + 1) (h1 : c9 ≠ r + 2) (h2 : c9 ≠ r + 4) : gA (X11_quench_m g m r a N C) c9 i9 = gA m c9 i9 := by
  unfold X11_quench_m
  repeat' split
  all_goals simp [mm, kA_X11_begins, kA_X11_ends, kA_X11_quenches, h0, h1, h2]
set_option maxHeartbeats 4000000 in
set_option maxRecDepth 100000 in
theorem c_X11_quench {l : Launch} {g : mG} (hO : mO l g) (m : mM) (r : Nat) (a : Int32) (N : Nat) (C : Nat) (hs : SR m r) (hN : gA m (r + 1) 5 = nI N) (hN8 : N ≤ 8) (hC : gI m 385 r = nI C) (hC8 : C ≤ 8) : mT l g yX11_quench (.code yX11_quench cX11_quench 2 (Option.some FieldType.int)) 4 85 0 0 [.ref r, .int a] m (fun u m' => u = some (.int (X11_quench_r g m r a N C)) ∧ m' = X11_quench_m g m r a N C) nX := by
  refine mT_of hO (by decide) (Nat.le_of_ble_eq_true rfl) (fun x hX hZ => ?_)
  show mV g x m 0 0 0 [(0, .ref r), (1, .int a)] []
  refine v_aload_n (pc := 0) hX dX11_quench_0 rfl ?_
  refine v_callV (z := yX11_begins) (pc := 1) hX dX11_quench_1 (c_X11_begins hO m r  hs) hs.k rfl wd_1581 wd_1583 wp_17 wd_16 wd_1584 ⟨by decide, by decide, (by decide +kernel : (parseMethodDescriptor yX11_begins.desc).map (fun d => d.parameters.length) = some 0)⟩ rfl (Nat.le_of_ble_eq_true rfl) ⟨⟨by decide, by decide⟩, by decide, by decide⟩ (fun E m9 h9 => h9.elim) (fun r9 m9 h9 => ?_)
  obtain ⟨rfl, h8⟩ := h9
  replace h8 := h8.symm
  subst h8
  show mV g x _ _ _ _ _ []
  refine v_aload_n (pc := 4) hX dX11_quench_4 rfl ?_
  refine v_aload_n (pc := 5) hX dX11_quench_5 rfl ?_
  refine v_aload_n (pc := 6) hX dX11_quench_6 rfl ?_
  refine v_iload_n (pc := 7) hX dX11_quench_7 rfl ?_
  refine v_callV (z := yX11_find) (pc := 8) hX dX11_quench_8 (c_X11_find hO ((X11_begins_m g m r )) r a N (hs.to (by simp only [mm, kK_X11_begins]) (by simp only [mm, kR_X11_begins])) (((kA_X11_begins g m r (r + 1) (5) (by omega)).trans rfl).trans hN) hN8) (by simp only [mm, kK_X11_begins]; exact hs.k) rfl wd_1652 wd_1654 wp_26 wd_16 wd_1655 ⟨by decide, by decide, (by decide +kernel : (parseMethodDescriptor yX11_find.desc).map (fun d => d.parameters.length) = some 1)⟩ rfl (Nat.le_of_ble_eq_true rfl) ⟨⟨by decide, by decide⟩, by decide, by decide⟩ (fun E m9 h9 => h9.elim) (fun r9 m9 h9 => ?_)
  obtain ⟨rfl, h8⟩ := h9
  replace h8 := h8.symm
  subst h8
  rw [fd_cg (m := m) (m1 := (X11_begins_m g m r )) ((funext fun i => kA_X11_begins g m r (r + 1) i (by omega)).trans rfl)]
  show mV g x _ _ _ _ _ [.int (X11_find_r g m r a N), .ref r, .ref r]
  refine v_callV (z := yX11_quenches) (pc := 11) hX dX11_quench_11 (c_X11_quenches hO ((X11_begins_m g m r )) r (X11_find_r g m r a N)  (hs.to (by simp only [mm, kK_X11_begins]) (by simp only [mm, kR_X11_begins])) (fun h => (fd_ge hN8 h).1)) (by simp only [mm, kK_X11_begins]; exact hs.k) rfl wd_1704 wd_1706 wp_36 wd_16 wd_1707 ⟨by decide, by decide, (by decide +kernel : (parseMethodDescriptor yX11_quenches.desc).map (fun d => d.parameters.length) = some 1)⟩ rfl (Nat.le_of_ble_eq_true rfl) ⟨⟨by decide, by decide⟩, by decide, by decide⟩ (fun E m9 h9 => h9.elim) (fun r9 m9 h9 => ?_)
  obtain ⟨rfl, h8⟩ := h9
  replace h8 := h8.symm
  subst h8
  show mV g x _ _ _ _ _ [.int (X11_quenches_r g ((X11_begins_m g m r )) r (X11_find_r g m r a N) ), .ref r]
  refine v_callV (z := yX11_ends) (pc := 14) hX dX11_quench_14 (c_X11_ends hO ((X11_quenches_m g ((X11_begins_m g m r )) r (X11_find_r g m r a N) )) r (X11_quenches_r g ((X11_begins_m g m r )) r (X11_find_r g m r a N) ) C (hs.to (by simp only [mm, kK_X11_begins, kK_X11_quenches]) (by simp only [mm, kR_X11_begins, kR_X11_quenches])) (by simp [mm, kI_X11_begins, kI_X11_quenches, hC]) hC8) (by simp only [mm, kK_X11_begins, kK_X11_quenches]; exact hs.k) rfl wd_1599 wd_1601 wp_20 wd_16 wd_1602 ⟨by decide, by decide, (by decide +kernel : (parseMethodDescriptor yX11_ends.desc).map (fun d => d.parameters.length) = some 1)⟩ rfl (Nat.le_of_ble_eq_true rfl) ⟨⟨by decide, by decide⟩, by decide, by decide⟩ (fun E m9 h9 => h9.elim) (fun r9 m9 h9 => ?_)
  obtain ⟨rfl, h8⟩ := h9
  replace h8 := h8.symm
  subst h8
  show mV g x _ _ _ _ _ [.int (X11_ends_r g ((X11_quenches_m g ((X11_begins_m g m r )) r (X11_find_r g m r a N) )) r (X11_quenches_r g ((X11_begins_m g m r )) r (X11_find_r g m r a N) ) C)]
  exact v_iret (pc := 17) hX hZ dX11_quench_17 (by decide) (by decide) ⟨(by rw [X11_quench_r]), (by rw [X11_quench_m])⟩
def X11_test_r (g : mG) (m : mM) (r : Nat) (a : Int32) (N : Nat) (C : Nat) : Int32 := if (X11_ends_r g ((X11_tests_m g ((X11_begins_m g m r )) r (X11_find_r g m r a N) )) r (X11_tests_r g ((X11_begins_m g m r )) r (X11_find_r g m r a N) ) C) = 1 then 1 else 0
def X11_test_m (g : mG) (m : mM) (r : Nat) (a : Int32) (N : Nat) (C : Nat) : mM := if (X11_ends_r g ((X11_tests_m g ((X11_begins_m g m r )) r (X11_find_r g m r a N) )) r (X11_tests_r g ((X11_begins_m g m r )) r (X11_find_r g m r a N) ) C) = 1 then ((X11_ends_m g ((X11_tests_m g ((X11_begins_m g m r )) r (X11_find_r g m r a N) )) r (X11_tests_r g ((X11_begins_m g m r )) r (X11_find_r g m r a N) ) C)) else ((X11_ends_m g ((X11_tests_m g ((X11_begins_m g m r )) r (X11_find_r g m r a N) )) r (X11_tests_r g ((X11_begins_m g m r )) r (X11_find_r g m r a N) ) C))
theorem kK_X11_test (g : mG) (m : mM) (r : Nat) (a : Int32) (N : Nat) (C : Nat) : gK (X11_test_m g m r a N C) = gK m := by
  unfold X11_test_m
  repeat' split
  all_goals simp only [mm, kK_X11_begins, kK_X11_ends, kK_X11_tests]
theorem kN_X11_test (g : mG) (m : mM) (r : Nat) (a : Int32) (N : Nat) (C : Nat) : gN (X11_test_m g m r a N C) = gN m := by
  unfold X11_test_m
  repeat' split
  all_goals simp only [mm, kN_X11_begins, kN_X11_ends, kN_X11_tests]
theorem kI_X11_test (g : mG) (m : mM) (r : Nat) (a : Int32) (N : Nat) (C : Nat) (k a9 : Nat) (h0 : k ≠ 384) (h1 : k ≠ 385) : gI (X11_test_m g m r a N C) k a9 = gI m k a9 := by
  unfold X11_test_m
  repeat' split
  all_goals simp [mm, kI_X11_begins, kI_X11_ends, kI_X11_tests, h0, h1]
theorem kJ_X11_test (g : mG) (m : mM) (r : Nat) (a : Int32) (N : Nat) (C : Nat) : gJ (X11_test_m g m r a N C) = gJ m := by
  unfold X11_test_m
  repeat' split
  all_goals simp only [mm, kJ_X11_begins, kJ_X11_ends, kJ_X11_tests]
theorem kR_X11_test (g : mG) (m : mM) (r : Nat) (a : Int32) (N : Nat) (C : Nat) : gR (X11_test_m g m r a N C) = gR m := by
  unfold X11_test_m
  repeat' split
  all_goals simp only [mm, kR_X11_begins, kR_X11_ends, kR_X11_tests]
theorem kQ_X11_test (g : mG) (m : mM) (r : Nat) (a : Int32) (N : Nat) (C : Nat) : gQ (X11_test_m g m r a N C) = gQ m := by
  unfold X11_test_m
  repeat' split
  all_goals simp only [mm, kQ_X11_begins, kQ_X11_ends, kQ_X11_tests]
theorem kL_X11_test (g : mG) (m : mM) (r : Nat) (a : Int32) (N : Nat) (C : Nat) : gL (X11_test_m g m r a N C) = gL m := by
  unfold X11_test_m
  repeat' split
  all_goals simp only [mm, kL_X11_begins, kL_X11_ends, kL_X11_tests]
theorem kD_X11_test (g : mG) (m : mM) (r : Nat) (a : Int32) (N : Nat) (C : Nat) : gD (X11_test_m g m r a N C) = gD m := by
  unfold X11_test_m
  repeat' split
  all_goals simp only [mm, kD_X11_begins, kD_X11_ends, kD_X11_tests]
theorem kA_X11_test (g : mG) (m : mM) (r : Nat) (a : Int32) (N : Nat) (C : Nat) (c9 i9 : Nat) (h0 : c9 ≠ r + 1) (h1 : c9 ≠ r + 2) (h2 : c9 ≠ r + 4) : gA (X11_test_m g m r a N C) c9 i9 = gA m c9 i9 := by
  unfold X11_test_m
  repeat' split
  all_goals simp [mm, kA_X11_begins, kA_X11_ends, kA_X11_tests, h0, h1, h2]
set_option maxHeartbeats 4000000 in
set_option maxRecDepth 100000 in
theorem c_X11_test {l : Launch} {g : mG} (hO : mO l g) (m : mM) (r : Nat) (a : Int32) (N : Nat) (C : Nat) (hs : SR m r) (hN : gA m (r + 1) 5 = nI N) (hN8 : N ≤ 8) (hC : gI m 385 r = nI C) (hC8 : C ≤ 8) : mT l g yX11_test (.code yX11_test cX11_test 2 (Option.some FieldType.boolean)) 3 64 0 0 [.ref r, .int a] m (fun u m' => u = some (.int (X11_test_r g m r a N C)) ∧ m' = X11_test_m g m r a N C) nX := by
  refine mT_of hO (by decide) (Nat.le_of_ble_eq_true rfl) (fun x hX hZ => ?_)
  show mV g x m 0 0 0 [(0, .ref r), (1, .int a)] []
  refine v_aload_n (pc := 0) hX dX11_test_0 rfl ?_
  refine v_callV (z := yX11_begins) (pc := 1) hX dX11_test_1 (c_X11_begins hO m r  hs) hs.k rfl wd_1581 wd_1583 wp_17 wd_16 wd_1584 ⟨by decide, by decide, (by decide +kernel : (parseMethodDescriptor yX11_begins.desc).map (fun d => d.parameters.length) = some 0)⟩ rfl (Nat.le_of_ble_eq_true rfl) ⟨⟨by decide, by decide⟩, by decide, by decide⟩ (fun E m9 h9 => h9.elim) (fun r9 m9 h9 => ?_)
  obtain ⟨rfl, h8⟩ := h9
  replace h8 := h8.symm
  subst h8
  show mV g x _ _ _ _ _ []
  refine v_aload_n (pc := 4) hX dX11_test_4 rfl ?_
  refine v_aload_n (pc := 5) hX dX11_test_5 rfl ?_
  refine v_aload_n (pc := 6) hX dX11_test_6 rfl ?_
  refine v_iload_n (pc := 7) hX dX11_test_7 rfl ?_
  refine v_callV (z := yX11_find) (pc := 8) hX dX11_test_8 (c_X11_find hO ((X11_begins_m g m r )) r a N (hs.to (by simp only [mm, kK_X11_begins]) (by simp only [mm, kR_X11_begins])) (((kA_X11_begins g m r (r + 1) (5) (by omega)).trans rfl).trans hN) hN8) (by simp only [mm, kK_X11_begins]; exact hs.k) rfl wd_1652 wd_1654 wp_26 wd_16 wd_1655 ⟨by decide, by decide, (by decide +kernel : (parseMethodDescriptor yX11_find.desc).map (fun d => d.parameters.length) = some 1)⟩ rfl (Nat.le_of_ble_eq_true rfl) ⟨⟨by decide, by decide⟩, by decide, by decide⟩ (fun E m9 h9 => h9.elim) (fun r9 m9 h9 => ?_)
  obtain ⟨rfl, h8⟩ := h9
  replace h8 := h8.symm
  subst h8
  rw [fd_cg (m := m) (m1 := (X11_begins_m g m r )) ((funext fun i => kA_X11_begins g m r (r + 1) i (by omega)).trans rfl)]
  show mV g x _ _ _ _ _ [.int (X11_find_r g m r a N), .ref r, .ref r]
  refine v_callV (z := yX11_tests) (pc := 11) hX dX11_test_11 (c_X11_tests hO ((X11_begins_m g m r )) r (X11_find_r g m r a N)  (hs.to (by simp only [mm, kK_X11_begins]) (by simp only [mm, kR_X11_begins])) (fun h => (fd_ge hN8 h).1)) (by simp only [mm, kK_X11_begins]; exact hs.k) rfl wd_1712 wd_1714 wp_37 wd_16 wd_1715 ⟨by decide, by decide, (by decide +kernel : (parseMethodDescriptor yX11_tests.desc).map (fun d => d.parameters.length) = some 1)⟩ rfl (Nat.le_of_ble_eq_true rfl) ⟨⟨by decide, by decide⟩, by decide, by decide⟩ (fun E m9 h9 => h9.elim) (fun r9 m9 h9 => ?_)
  obtain ⟨rfl, h8⟩ := h9
  replace h8 := h8.symm
  subst h8
  show mV g x _ _ _ _ _ [.int (X11_tests_r g ((X11_begins_m g m r )) r (X11_find_r g m r a N) ), .ref r]
  refine v_callV (z := yX11_ends) (pc := 14) hX dX11_test_14 (c_X11_ends hO ((X11_tests_m g ((X11_begins_m g m r )) r (X11_find_r g m r a N) )) r (X11_tests_r g ((X11_begins_m g m r )) r (X11_find_r g m r a N) ) C (hs.to (by simp only [mm, kK_X11_begins, kK_X11_tests]) (by simp only [mm, kR_X11_begins, kR_X11_tests])) (by simp [mm, kI_X11_begins, kI_X11_tests, hC]) hC8) (by simp only [mm, kK_X11_begins, kK_X11_tests]; exact hs.k) rfl wd_1599 wd_1601 wp_20 wd_16 wd_1602 ⟨by decide, by decide, (by decide +kernel : (parseMethodDescriptor yX11_ends.desc).map (fun d => d.parameters.length) = some 1)⟩ rfl (Nat.le_of_ble_eq_true rfl) ⟨⟨by decide, by decide⟩, by decide, by decide⟩ (fun E m9 h9 => h9.elim) (fun r9 m9 h9 => ?_)
  obtain ⟨rfl, h8⟩ := h9
  replace h8 := h8.symm
  subst h8
  show mV g x _ _ _ _ _ [.int (X11_ends_r g ((X11_tests_m g ((X11_begins_m g m r )) r (X11_find_r g m r a N) )) r (X11_tests_r g ((X11_begins_m g m r )) r (X11_find_r g m r a N) ) C)]
  refine v_iconst (v := 1) (pc := 17) hX dX11_test_17 (by decide) ?_
  refine v_icmp_ne (tgt := 25) (pc := 18) hX dX11_test_18 (by decide) (fun c1 => ?_) (fun c1 => ?_)
  ·
    refine v_iconst (v := 0) (pc := 25) hX dX11_test_25 (by decide) ?_
    exact v_zret (pc := 26) hX hZ dX11_test_26 rfl (by decide) (by decide) ⟨(by rw [X11_test_r, if_neg c1]), (by rw [X11_test_m, if_neg c1])⟩
  ·
    refine v_iconst (v := 1) (pc := 21) hX dX11_test_21 (by decide) ?_
    refine v_goto (tgt := 26) (pc := 22) hX dX11_test_22 (by decide) ?_
    exact v_zret (pc := 26) hX hZ dX11_test_26 rfl (by decide) (by decide) ⟨(by rw [X11_test_r, if_pos c1]), (by rw [X11_test_m, if_pos c1])⟩
def X11_scrap_r (g : mG) (m : mM) (r : Nat) (a : Int32) (N : Nat) (C : Nat) : Int32 := X11_ends_r g ((X11_drops_m g ((X11_begins_m g m r )) r (X11_find_r g m r a N) )) r (X11_drops_r g ((X11_begins_m g m r )) r (X11_find_r g m r a N) ) C
def X11_scrap_m (g : mG) (m : mM) (r : Nat) (a : Int32) (N : Nat) (C : Nat) : mM := (X11_ends_m g ((X11_drops_m g ((X11_begins_m g m r )) r (X11_find_r g m r a N) )) r (X11_drops_r g ((X11_begins_m g m r )) r (X11_find_r g m r a N) ) C)
theorem kK_X11_scrap (g : mG) (m : mM) (r : Nat) (a : Int32) (N : Nat) (C : Nat) : gK (X11_scrap_m g m r a N C) = gK m := by
  unfold X11_scrap_m
  repeat' split
  all_goals simp only [mm, kK_X11_begins, kK_X11_drops, kK_X11_ends]
theorem kN_X11_scrap (g : mG) (m : mM) (r : Nat) (a : Int32) (N : Nat) (C : Nat) : gN (X11_scrap_m g m r a N C) = gN m := by
  unfold X11_scrap_m
  repeat' split
  all_goals simp only [mm, kN_X11_begins, kN_X11_drops, kN_X11_ends]
theorem kI_X11_scrap (g : mG) (m : mM) (r : Nat) (a : Int32) (N : Nat) (C : Nat) (k a9 : Nat) (h0 : k ≠ 384) (h1 : k ≠ 385) : gI (X11_scrap_m g m r a N C) k a9 = gI m k a9 := by
  unfold X11_scrap_m
  repeat' split
  all_goals simp [mm, kI_X11_begins, kI_X11_drops, kI_X11_ends, h0, h1]
theorem kJ_X11_scrap (g : mG) (m : mM) (r : Nat) (a : Int32) (N : Nat) (C : Nat) : gJ (X11_scrap_m g m r a N C) = gJ m := by
  unfold X11_scrap_m
  repeat' split
  all_goals simp only [mm, kJ_X11_begins, kJ_X11_drops, kJ_X11_ends]
theorem kR_X11_scrap (g : mG) (m : mM) (r : Nat) (a : Int32) (N : Nat) (C : Nat) : gR (X11_scrap_m g m r a N C) = gR m := by
  unfold X11_scrap_m
  repeat' split
  all_goals simp only [mm, kR_X11_begins, kR_X11_drops, kR_X11_ends]
theorem kQ_X11_scrap (g : mG) (m : mM) (r : Nat) (a : Int32) (N : Nat) (C : Nat) : gQ (X11_scrap_m g m r a N C) = gQ m := by
  unfold X11_scrap_m
  repeat' split
  all_goals simp only [mm, kQ_X11_begins, kQ_X11_drops, kQ_X11_ends]
theorem kL_X11_scrap (g : mG) (m : mM) (r : Nat) (a : Int32) (N : Nat) (C : Nat) : gL (X11_scrap_m g m r a N C) = gL m := by
  unfold X11_scrap_m
  repeat' split
  all_goals simp only [mm, kL_X11_begins, kL_X11_drops, kL_X11_ends]
theorem kD_X11_scrap (g : mG) (m : mM) (r : Nat) (a : Int32) (N : Nat) (C : Nat) : gD (X11_scrap_m g m r a N C) = gD m := by
  unfold X11_scrap_m
  repeat' split
  all_goals simp only [mm, kD_X11_begins, kD_X11_drops, kD_X11_ends]
theorem kA_X11_scrap (g : mG) (m : mM) (r : Nat) (a : Int32) (N : Nat) (C : Nat) (c9 i9 : Nat) (h0 : c9 ≠ r + 1) (h1 : c9 ≠ r + 2) (h2 : c9 ≠ r + 4) : gA (X11_scrap_m g m r a N C) c9 i9 = gA m c9 i9 := by
  unfold X11_scrap_m
  repeat' split
  all_goals simp [mm, kA_X11_begins, kA_X11_drops, kA_X11_ends, h0, h1, h2]
set_option maxHeartbeats 4000000 in
set_option maxRecDepth 100000 in
theorem c_X11_scrap {l : Launch} {g : mG} (hO : mO l g) (m : mM) (r : Nat) (a : Int32) (N : Nat) (C : Nat) (hs : SR m r) (hN : gA m (r + 1) 5 = nI N) (hN8 : N ≤ 8) (hC : gI m 385 r = nI C) (hC8 : C ≤ 8) : mT l g yX11_scrap (.code yX11_scrap cX11_scrap 2 (Option.some FieldType.int)) 4 84 0 0 [.ref r, .int a] m (fun u m' => u = some (.int (X11_scrap_r g m r a N C)) ∧ m' = X11_scrap_m g m r a N C) nX := by
  refine mT_of hO (by decide) (Nat.le_of_ble_eq_true rfl) (fun x hX hZ => ?_)
  show mV g x m 0 0 0 [(0, .ref r), (1, .int a)] []
  refine v_aload_n (pc := 0) hX dX11_scrap_0 rfl ?_
  refine v_callV (z := yX11_begins) (pc := 1) hX dX11_scrap_1 (c_X11_begins hO m r  hs) hs.k rfl wd_1581 wd_1583 wp_17 wd_16 wd_1584 ⟨by decide, by decide, (by decide +kernel : (parseMethodDescriptor yX11_begins.desc).map (fun d => d.parameters.length) = some 0)⟩ rfl (Nat.le_of_ble_eq_true rfl) ⟨⟨by decide, by decide⟩, by decide, by decide⟩ (fun E m9 h9 => h9.elim) (fun r9 m9 h9 => ?_)
  obtain ⟨rfl, h8⟩ := h9
  replace h8 := h8.symm
  subst h8
  show mV g x _ _ _ _ _ []
  refine v_aload_n (pc := 4) hX dX11_scrap_4 rfl ?_
  refine v_aload_n (pc := 5) hX dX11_scrap_5 rfl ?_
  refine v_aload_n (pc := 6) hX dX11_scrap_6 rfl ?_
  refine v_iload_n (pc := 7) hX dX11_scrap_7 rfl ?_
  refine v_callV (z := yX11_find) (pc := 8) hX dX11_scrap_8 (c_X11_find hO ((X11_begins_m g m r )) r a N (hs.to (by simp only [mm, kK_X11_begins]) (by simp only [mm, kR_X11_begins])) (((kA_X11_begins g m r (r + 1) (5) (by omega)).trans rfl).trans hN) hN8) (by simp only [mm, kK_X11_begins]; exact hs.k) rfl wd_1652 wd_1654 wp_26 wd_16 wd_1655 ⟨by decide, by decide, (by decide +kernel : (parseMethodDescriptor yX11_find.desc).map (fun d => d.parameters.length) = some 1)⟩ rfl (Nat.le_of_ble_eq_true rfl) ⟨⟨by decide, by decide⟩, by decide, by decide⟩ (fun E m9 h9 => h9.elim) (fun r9 m9 h9 => ?_)
  obtain ⟨rfl, h8⟩ := h9
  replace h8 := h8.symm
  subst h8
  rw [fd_cg (m := m) (m1 := (X11_begins_m g m r )) ((funext fun i => kA_X11_begins g m r (r + 1) i (by omega)).trans rfl)]
  show mV g x _ _ _ _ _ [.int (X11_find_r g m r a N), .ref r, .ref r]
  refine v_callV (z := yX11_drops) (pc := 11) hX dX11_scrap_11 (c_X11_drops hO ((X11_begins_m g m r )) r (X11_find_r g m r a N)  (hs.to (by simp only [mm, kK_X11_begins]) (by simp only [mm, kR_X11_begins])) (fun h => (fd_ge hN8 h).1)) (by simp only [mm, kK_X11_begins]; exact hs.k) rfl wd_1736 wd_1738 wp_41 wd_16 wd_1739 ⟨by decide, by decide, (by decide +kernel : (parseMethodDescriptor yX11_drops.desc).map (fun d => d.parameters.length) = some 1)⟩ rfl (Nat.le_of_ble_eq_true rfl) ⟨⟨by decide, by decide⟩, by decide, by decide⟩ (fun E m9 h9 => h9.elim) (fun r9 m9 h9 => ?_)
  obtain ⟨rfl, h8⟩ := h9
  replace h8 := h8.symm
  subst h8
  show mV g x _ _ _ _ _ [.int (X11_drops_r g ((X11_begins_m g m r )) r (X11_find_r g m r a N) ), .ref r]
  refine v_callV (z := yX11_ends) (pc := 14) hX dX11_scrap_14 (c_X11_ends hO ((X11_drops_m g ((X11_begins_m g m r )) r (X11_find_r g m r a N) )) r (X11_drops_r g ((X11_begins_m g m r )) r (X11_find_r g m r a N) ) C (hs.to (by simp only [mm, kK_X11_begins, kK_X11_drops]) (by simp only [mm, kR_X11_begins, kR_X11_drops])) (by simp [mm, kI_X11_begins, kI_X11_drops, hC]) hC8) (by simp only [mm, kK_X11_begins, kK_X11_drops]; exact hs.k) rfl wd_1599 wd_1601 wp_20 wd_16 wd_1602 ⟨by decide, by decide, (by decide +kernel : (parseMethodDescriptor yX11_ends.desc).map (fun d => d.parameters.length) = some 1)⟩ rfl (Nat.le_of_ble_eq_true rfl) ⟨⟨by decide, by decide⟩, by decide, by decide⟩ (fun E m9 h9 => h9.elim) (fun r9 m9 h9 => ?_)
  obtain ⟨rfl, h8⟩ := h9
  replace h8 := h8.symm
  subst h8
  show mV g x _ _ _ _ _ [.int (X11_ends_r g ((X11_drops_m g ((X11_begins_m g m r )) r (X11_find_r g m r a N) )) r (X11_drops_r g ((X11_begins_m g m r )) r (X11_find_r g m r a N) ) C)]
  exact v_iret (pc := 17) hX hZ dX11_scrap_17 (by decide) (by decide) ⟨(by rw [X11_scrap_r]), (by rw [X11_scrap_m])⟩
def X11_hammer_r (g : mG) (m : mM) (r : Nat) (a : Int32) (b : Int32) (N : Nat) (H : Nat) (C : Nat) : Int32 := X11_ends_r g ((X11_strikes_m g ((X11_begins_m g m r )) r (X11_find_r g m r a N) b H)) r (X11_strikes_r g ((X11_begins_m g m r )) r (X11_find_r g m r a N) b H) C
def X11_hammer_m (g : mG) (m : mM) (r : Nat) (a : Int32) (b : Int32) (N : Nat) (H : Nat) (C : Nat) : mM := (X11_ends_m g ((X11_strikes_m g ((X11_begins_m g m r )) r (X11_find_r g m r a N) b H)) r (X11_strikes_r g ((X11_begins_m g m r )) r (X11_find_r g m r a N) b H) C)
theorem kK_X11_hammer (g : mG) (m : mM) (r : Nat) (a : Int32) (b : Int32) (N : Nat) (H : Nat) (C : Nat) : gK (X11_hammer_m g m r a b N H C) = gK m := by
  unfold X11_hammer_m
  repeat' split
  all_goals simp only [mm, kK_X11_begins, kK_X11_ends, kK_X11_strikes]
theorem kN_X11_hammer (g : mG) (m : mM) (r : Nat) (a : Int32) (b : Int32) (N : Nat) (H : Nat) (C : Nat) : gN (X11_hammer_m g m r a b N H C) = gN m := by
  unfold X11_hammer_m
  repeat' split
  all_goals simp only [mm, kN_X11_begins, kN_X11_ends, kN_X11_strikes]
theorem kI_X11_hammer (g : mG) (m : mM) (r : Nat) (a : Int32) (b : Int32) (N : Nat) (H : Nat) (C : Nat) (k a9 : Nat) (h0 : k ≠ 384) (h1 : k ≠ 385) : gI (X11_hammer_m g m r a b N H C) k a9 = gI m k a9 := by
  unfold X11_hammer_m
  repeat' split
  all_goals simp [mm, kI_X11_begins, kI_X11_ends, kI_X11_strikes, h0, h1]
theorem kJ_X11_hammer (g : mG) (m : mM) (r : Nat) (a : Int32) (b : Int32) (N : Nat) (H : Nat) (C : Nat) : gJ (X11_hammer_m g m r a b N H C) = gJ m := by
  unfold X11_hammer_m
  repeat' split
  all_goals simp only [mm, kJ_X11_begins, kJ_X11_ends, kJ_X11_strikes]
theorem kR_X11_hammer (g : mG) (m : mM) (r : Nat) (a : Int32) (b : Int32) (N : Nat) (H : Nat) (C : Nat) : gR (X11_hammer_m g m r a b N H C) = gR m := by
  unfold X11_hammer_m
  repeat' split
  all_goals simp only [mm, kR_X11_begins, kR_X11_ends, kR_X11_strikes]
theorem kQ_X11_hammer (g : mG) (m : mM) (r : Nat) (a : Int32) (b : Int32) (N : Nat) (H : Nat) (C : Nat) : gQ (X11_hammer_m g m r a b N H C) = gQ m := by
  unfold X11_hammer_m
  repeat' split
  all_goals simp only [mm, kQ_X11_begins, kQ_X11_ends, kQ_X11_strikes]
theorem kL_X11_hammer (g : mG) (m : mM) (r : Nat) (a : Int32) (b : Int32) (N : Nat) (H : Nat) (C : Nat) : gL (X11_hammer_m g m r a b N H C) = gL m := by
  unfold X11_hammer_m
  repeat' split
  all_goals simp only [mm, kL_X11_begins, kL_X11_ends, kL_X11_strikes]
theorem kD_X11_hammer (g : mG) (m : mM) (r : Nat) (a : Int32) (b : Int32) (N : Nat) (H : Nat) (C : Nat) : gD (X11_hammer_m g m r a b N H C) = gD m := by
  unfold X11_hammer_m
  repeat' split
  all_goals simp only [mm, kD_X11_begins, kD_X11_ends, kD_X11_strikes]
theorem kA_X11_hammer (g : mG) (m : mM) (r : Nat) (a : Int32) (b : Int32) (N : Nat) (H : Nat) (C : Nat) (c9 i9 : Nat) (h0 : c9 ≠ r + 1) (h1 : c9 ≠ r + 2) (h2 : c9 ≠ r + 4) : gA (X11_hammer_m g m r a b N H C) c9 i9 = gA m c9 i9 := by
  unfold X11_hammer_m
  repeat' split
  all_goals simp [mm, kA_X11_begins, kA_X11_ends, kA_X11_strikes, h0, h1, h2]
set_option maxHeartbeats 4000000 in
set_option maxRecDepth 100000 in
theorem c_X11_hammer {l : Launch} {g : mG} (hO : mO l g) (m : mM) (r : Nat) (a : Int32) (b : Int32) (N : Nat) (H : Nat) (C : Nat) (hs : SR m r) (hN : gA m (r + 1) 5 = nI N) (hN8 : N ≤ 8) (hH : gA m (r + 1) 6 = nI H) (hH4 : H ≤ 4) (hC : gI m 385 r = nI C) (hC8 : C ≤ 8) : mT l g yX11_hammer (.code yX11_hammer cX11_hammer 3 (Option.some FieldType.int)) 4 88 0 0 [.ref r, .int a, .int b] m (fun u m' => u = some (.int (X11_hammer_r g m r a b N H C)) ∧ m' = X11_hammer_m g m r a b N H C) nX := by
  refine mT_of hO (by decide) (Nat.le_of_ble_eq_true rfl) (fun x hX hZ => ?_)
  show mV g x m 0 0 0 [(0, .ref r), (1, .int a), (2, .int b)] []
  refine v_aload_n (pc := 0) hX dX11_hammer_0 rfl ?_
  refine v_callV (z := yX11_begins) (pc := 1) hX dX11_hammer_1 (c_X11_begins hO m r  hs) hs.k rfl wd_1581 wd_1583 wp_17 wd_16 wd_1584 ⟨by decide, by decide, (by decide +kernel : (parseMethodDescriptor yX11_begins.desc).map (fun d => d.parameters.length) = some 0)⟩ rfl (Nat.le_of_ble_eq_true rfl) ⟨⟨by decide, by decide⟩, by decide, by decide⟩ (fun E m9 h9 => h9.elim) (fun r9 m9 h9 => ?_)
  obtain ⟨rfl, h8⟩ := h9
  replace h8 := h8.symm
  subst h8
  show mV g x _ _ _ _ _ []
  refine v_aload_n (pc := 4) hX dX11_hammer_4 rfl ?_
  refine v_aload_n (pc := 5) hX dX11_hammer_5 rfl ?_
  refine v_aload_n (pc := 6) hX dX11_hammer_6 rfl ?_
  refine v_iload_n (pc := 7) hX dX11_hammer_7 rfl ?_
  refine v_callV (z := yX11_find) (pc := 8) hX dX11_hammer_8 (c_X11_find hO ((X11_begins_m g m r )) r a N (hs.to (by simp only [mm, kK_X11_begins]) (by simp only [mm, kR_X11_begins])) (((kA_X11_begins g m r (r + 1) (5) (by omega)).trans rfl).trans hN) hN8) (by simp only [mm, kK_X11_begins]; exact hs.k) rfl wd_1652 wd_1654 wp_26 wd_16 wd_1655 ⟨by decide, by decide, (by decide +kernel : (parseMethodDescriptor yX11_find.desc).map (fun d => d.parameters.length) = some 1)⟩ rfl (Nat.le_of_ble_eq_true rfl) ⟨⟨by decide, by decide⟩, by decide, by decide⟩ (fun E m9 h9 => h9.elim) (fun r9 m9 h9 => ?_)
  obtain ⟨rfl, h8⟩ := h9
  replace h8 := h8.symm
  subst h8
  rw [fd_cg (m := m) (m1 := (X11_begins_m g m r )) ((funext fun i => kA_X11_begins g m r (r + 1) i (by omega)).trans rfl)]
  show mV g x _ _ _ _ _ [.int (X11_find_r g m r a N), .ref r, .ref r]
  refine v_iload_n (pc := 11) hX dX11_hammer_11 rfl ?_
  refine v_callV (z := yX11_strikes) (pc := 12) hX dX11_hammer_12 (c_X11_strikes hO ((X11_begins_m g m r )) r (X11_find_r g m r a N) b H (hs.to (by simp only [mm, kK_X11_begins]) (by simp only [mm, kR_X11_begins])) (((kA_X11_begins g m r (r + 1) (6) (by omega)).trans rfl).trans hH) hH4 (fun h => (fd_ge hN8 h).1)) (by simp only [mm, kK_X11_begins]; exact hs.k) rfl wd_1676 wd_1678 wp_30 wd_16 wd_1679 ⟨by decide, by decide, (by decide +kernel : (parseMethodDescriptor yX11_strikes.desc).map (fun d => d.parameters.length) = some 2)⟩ rfl (Nat.le_of_ble_eq_true rfl) ⟨⟨by decide, by decide⟩, by decide, by decide⟩ (fun E m9 h9 => h9.elim) (fun r9 m9 h9 => ?_)
  obtain ⟨rfl, h8⟩ := h9
  replace h8 := h8.symm
  subst h8
  show mV g x _ _ _ _ _ [.int (X11_strikes_r g ((X11_begins_m g m r )) r (X11_find_r g m r a N) b H), .ref r]
  refine v_callV (z := yX11_ends) (pc := 15) hX dX11_hammer_15 (c_X11_ends hO ((X11_strikes_m g ((X11_begins_m g m r )) r (X11_find_r g m r a N) b H)) r (X11_strikes_r g ((X11_begins_m g m r )) r (X11_find_r g m r a N) b H) C (hs.to (by simp only [mm, kK_X11_begins, kK_X11_strikes]) (by simp only [mm, kR_X11_begins, kR_X11_strikes])) (by simp [mm, kI_X11_begins, kI_X11_strikes, hC]) hC8) (by simp only [mm, kK_X11_begins, kK_X11_strikes]; exact hs.k) rfl wd_1599 wd_1601 wp_20 wd_16 wd_1602 ⟨by decide, by decide, (by decide +kernel : (parseMethodDescriptor yX11_ends.desc).map (fun d => d.parameters.length) = some 1)⟩ rfl (Nat.le_of_ble_eq_true rfl) ⟨⟨by decide, by decide⟩, by decide, by decide⟩ (fun E m9 h9 => h9.elim) (fun r9 m9 h9 => ?_)
  obtain ⟨rfl, h8⟩ := h9
  replace h8 := h8.symm
  subst h8
  show mV g x _ _ _ _ _ [.int (X11_ends_r g ((X11_strikes_m g ((X11_begins_m g m r )) r (X11_find_r g m r a N) b H)) r (X11_strikes_r g ((X11_begins_m g m r )) r (X11_find_r g m r a N) b H) C)]
  exact v_iret (pc := 18) hX hZ dX11_hammer_18 (by decide) (by decide) ⟨(by rw [X11_hammer_r]), (by rw [X11_hammer_m])⟩
def X11_assemble_r (g : mG) (m : mM) (r : Nat) (a : Int32) (b : Int32) (c : Int32) (d : Int32) (N : Nat) (C : Nat) : Int32 := X11_ends_r g ((X11_joins_m g ((X11_begins_m g m r )) r a b c d N)) r (X11_joins_r g ((X11_begins_m g m r )) r a b c d N) C
def X11_assemble_m (g : mG) (m : mM) (r : Nat) (a : Int32) (b : Int32) (c : Int32) (d : Int32) (N : Nat) (C : Nat) : mM := (X11_ends_m g ((X11_joins_m g ((X11_begins_m g m r )) r a b c d N)) r (X11_joins_r g ((X11_begins_m g m r )) r a b c d N) C)
theorem kK_X11_assemble (g : mG) (m : mM) (r : Nat) (a : Int32) (b : Int32) (c : Int32) (d : Int32) (N : Nat) (C : Nat) : gK (X11_assemble_m g m r a b c d N C) = gK m := by
  unfold X11_assemble_m
  repeat' split
  all_goals simp only [mm, kK_X11_begins, kK_X11_ends, kK_X11_joins]
theorem kN_X11_assemble (g : mG) (m : mM) (r : Nat) (a : Int32) (b : Int32) (c : Int32) (d : Int32) (N : Nat) (C : Nat) : gN (X11_assemble_m g m r a b c d N C) = gN m := by
  unfold X11_assemble_m
  repeat' split
  all_goals simp only [mm, kN_X11_begins, kN_X11_ends, kN_X11_joins]
theorem kI_X11_assemble (g : mG) (m : mM) (r : Nat) (a : Int32) (b : Int32) (c : Int32) (d : Int32) (N : Nat) (C : Nat) (k a9 : Nat) (h0 : k ≠ 384) (h1 : k ≠ 385) : gI (X11_assemble_m g m r a b c d N C) k a9 = gI m k a9 := by
  unfold X11_assemble_m
  repeat' split
  all_goals simp [mm, kI_X11_begins, kI_X11_ends, kI_X11_joins, h0, h1]
theorem kJ_X11_assemble (g : mG) (m : mM) (r : Nat) (a : Int32) (b : Int32) (c : Int32) (d : Int32) (N : Nat) (C : Nat) : gJ (X11_assemble_m g m r a b c d N C) = gJ m := by
  unfold X11_assemble_m
  repeat' split
  all_goals simp only [mm, kJ_X11_begins, kJ_X11_ends, kJ_X11_joins]
theorem kR_X11_assemble (g : mG) (m : mM) (r : Nat) (a : Int32) (b : Int32) (c : Int32) (d : Int32) (N : Nat) (C : Nat) : gR (X11_assemble_m g m r a b c d N C) = gR m := by
  unfold X11_assemble_m
  repeat' split
  all_goals simp only [mm, kR_X11_begins, kR_X11_ends, kR_X11_joins]
theorem kQ_X11_assemble (g : mG) (m : mM) (r : Nat) (a : Int32) (b : Int32) (c : Int32) (d : Int32) (N : Nat) (C : Nat) : gQ (X11_assemble_m g m r a b c d N C) = gQ m := by
  unfold X11_assemble_m
  repeat' split
  all_goals simp only [mm, kQ_X11_begins, kQ_X11_ends, kQ_X11_joins]
theorem kL_X11_assemble (g : mG) (m : mM) (r : Nat) (a : Int32) (b : Int32) (c : Int32) (d : Int32) (N : Nat) (C : Nat) : gL (X11_assemble_m g m r a b c d N C) = gL m := by
  unfold X11_assemble_m
  repeat' split
  all_goals simp only [mm, kL_X11_begins, kL_X11_ends, kL_X11_joins]
theorem kD_X11_assemble (g : mG) (m : mM) (r : Nat) (a : Int32) (b : Int32) (c : Int32) (d : Int32) (N : Nat) (C : Nat) : gD (X11_assemble_m g m r a b c d N C) = gD m := by
  unfold X11_assemble_m
  repeat' split
  all_goals simp only [mm, kD_X11_begins, kD_X11_ends, kD_X11_joins]
theorem kA_X11_assemble (g : mG) (m : mM) (r : Nat) (a : Int32) (b : Int32) (c : Int32) (d : Int32) (N : Nat) (C : Nat) (c9 i9 : Nat) (h0 : c9 ≠ r + 1) (h1 : c9 ≠ r + 2) (h2 : c9 ≠ r + 4) : gA (X11_assemble_m g m r a b c d N C) c9 i9 = gA m c9 i9 := by
  unfold X11_assemble_m
  repeat' split
  all_goals simp [mm, kA_X11_begins, kA_X11_ends, kA_X11_joins, h0, h1, h2]
set_option maxHeartbeats 4000000 in
set_option maxRecDepth 100000 in
theorem c_X11_assemble {l : Launch} {g : mG} (hO : mO l g) (m : mM) (r : Nat) (a : Int32) (b : Int32) (c : Int32) (d : Int32) (N : Nat) (C : Nat) (hs : SR m r) (hN : gA m (r + 1) 5 = nI N) (hN8 : N ≤ 8) (hC : gI m 385 r = nI C) (hC8 : C ≤ 8) : mT l g yX11_assemble (.code yX11_assemble cX11_assemble 5 (Option.some FieldType.int)) 4 91 0 0 [.ref r, .int a, .int b, .int c, .int d] m (fun u m' => u = some (.int (X11_assemble_r g m r a b c d N C)) ∧ m' = X11_assemble_m g m r a b c d N C) nX := by
  refine mT_of hO (by decide) (Nat.le_of_ble_eq_true rfl) (fun x hX hZ => ?_)
  show mV g x m 0 0 0 [(0, .ref r), (1, .int a), (2, .int b), (3, .int c), (4, .int d)] []
  refine v_aload_n (pc := 0) hX dX11_assemble_0 rfl ?_
  refine v_callV (z := yX11_begins) (pc := 1) hX dX11_assemble_1 (c_X11_begins hO m r  hs) hs.k rfl wd_1581 wd_1583 wp_17 wd_16 wd_1584 ⟨by decide, by decide, (by decide +kernel : (parseMethodDescriptor yX11_begins.desc).map (fun d => d.parameters.length) = some 0)⟩ rfl (Nat.le_of_ble_eq_true rfl) ⟨⟨by decide, by decide⟩, by decide, by decide⟩ (fun E m9 h9 => h9.elim) (fun r9 m9 h9 => ?_)
  obtain ⟨rfl, h8⟩ := h9
  replace h8 := h8.symm
  subst h8
  show mV g x _ _ _ _ _ []
  refine v_aload_n (pc := 4) hX dX11_assemble_4 rfl ?_
  refine v_aload_n (pc := 5) hX dX11_assemble_5 rfl ?_
  refine v_iload_n (pc := 6) hX dX11_assemble_6 rfl ?_
  refine v_iload_n (pc := 7) hX dX11_assemble_7 rfl ?_
  refine v_iload_n (pc := 8) hX dX11_assemble_8 rfl ?_
  refine v_iload (pc := 9) hX dX11_assemble_9 rfl ?_
  refine v_callV (z := yX11_joins) (pc := 11) hX dX11_assemble_11 (c_X11_joins hO ((X11_begins_m g m r )) r a b c d N (hs.to (by simp only [mm, kK_X11_begins]) (by simp only [mm, kR_X11_begins])) (((kA_X11_begins g m r (r + 1) (5) (by omega)).trans rfl).trans hN) hN8) (by simp only [mm, kK_X11_begins]; exact hs.k) rfl wd_1720 wd_1722 wp_38 wd_16 wd_1723 ⟨by decide, by decide, (by decide +kernel : (parseMethodDescriptor yX11_joins.desc).map (fun d => d.parameters.length) = some 4)⟩ rfl (Nat.le_of_ble_eq_true rfl) ⟨⟨by decide, by decide⟩, by decide, by decide⟩ (fun E m9 h9 => h9.elim) (fun r9 m9 h9 => ?_)
  obtain ⟨rfl, h8⟩ := h9
  replace h8 := h8.symm
  subst h8
  show mV g x _ _ _ _ _ [.int (X11_joins_r g ((X11_begins_m g m r )) r a b c d N), .ref r]
  refine v_callV (z := yX11_ends) (pc := 14) hX dX11_assemble_14 (c_X11_ends hO ((X11_joins_m g ((X11_begins_m g m r )) r a b c d N)) r (X11_joins_r g ((X11_begins_m g m r )) r a b c d N) C (hs.to (by simp only [mm, kK_X11_begins, kK_X11_joins]) (by simp only [mm, kR_X11_begins, kR_X11_joins])) (by simp [mm, kI_X11_begins, kI_X11_joins, hC]) hC8) (by simp only [mm, kK_X11_begins, kK_X11_joins]; exact hs.k) rfl wd_1599 wd_1601 wp_20 wd_16 wd_1602 ⟨by decide, by decide, (by decide +kernel : (parseMethodDescriptor yX11_ends.desc).map (fun d => d.parameters.length) = some 1)⟩ rfl (Nat.le_of_ble_eq_true rfl) ⟨⟨by decide, by decide⟩, by decide, by decide⟩ (fun E m9 h9 => h9.elim) (fun r9 m9 h9 => ?_)
  obtain ⟨rfl, h8⟩ := h9
  replace h8 := h8.symm
  subst h8
  show mV g x _ _ _ _ _ [.int (X11_ends_r g ((X11_joins_m g ((X11_begins_m g m r )) r a b c d N)) r (X11_joins_r g ((X11_begins_m g m r )) r a b c d N) C)]
  exact v_iret (pc := 17) hX hZ dX11_assemble_17 (by decide) (by decide) ⟨(by rw [X11_assemble_r]), (by rw [X11_assemble_m])⟩
