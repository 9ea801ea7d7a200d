def X11_tellsOf_r (g : mG) (m : mM) (r : Nat) (a : Int32) (i : Nat) (N : Nat) : Int32 := if 0 ≤ (X11_find_r g m r a N) then (gA m (r + 1) (8 * ((X11_find_r g m r a N).toNatClampNeg) + (13 + i))) else 0
def X11_tellsOf_m (g : mG) (m : mM) (r : Nat) (a : Int32) (i : Nat) (N : Nat) : mM := if 0 ≤ (X11_find_r g m r a N) then ((sI m 384 r 0)) else ((sI m 384 r 1))
theorem kK_X11_tellsOf (g : mG) (m : mM) (r : Nat) (a : Int32) (i : Nat) (N : Nat) : gK (X11_tellsOf_m g m r a i N) = gK m := by
  unfold X11_tellsOf_m
  repeat' split
  all_goals simp only [mm]
theorem kN_X11_tellsOf (g : mG) (m : mM) (r : Nat) (a : Int32) (i : Nat) (N : Nat) : gN (X11_tellsOf_m g m r a i N) = gN m := by
  unfold X11_tellsOf_m
  repeat' split
  all_goals simp only [mm]
theorem kI_X11_tellsOf (g : mG) (m : mM) (r : Nat) (a : Int32) (i : Nat) (N : Nat) (k a9 : Nat) (h0 : k ≠ 384) : gI (X11_tellsOf_m g m r a i N) k a9 = gI m k a9 := by
  unfold X11_tellsOf_m
  repeat' split
  all_goals simp [mm, h0]
theorem kJ_X11_tellsOf (g : mG) (m : mM) (r : Nat) (a : Int32) (i : Nat) (N : Nat) : gJ (X11_tellsOf_m g m r a i N) = gJ m := by
  unfold X11_tellsOf_m
  repeat' split
  all_goals simp only [mm]
theorem kR_X11_tellsOf (g : mG) (m : mM) (r : Nat) (a : Int32) (i : Nat) (N : Nat) : gR (X11_tellsOf_m g m r a i N) = gR m := by
  unfold X11_tellsOf_m
  repeat' split
  all_goals simp only [mm]
theorem kA_X11_tellsOf (g : mG) (m : mM) (r : Nat) (a : Int32) (i : Nat) (N : Nat) : gA (X11_tellsOf_m g m r a i N) = gA m := by
  unfold X11_tellsOf_m
  repeat' split
  all_goals simp only [mm]
theorem kQ_X11_tellsOf (g : mG) (m : mM) (r : Nat) (a : Int32) (i : Nat) (N : Nat) : gQ (X11_tellsOf_m g m r a i N) = gQ m := by
  unfold X11_tellsOf_m
  repeat' split
  all_goals simp only [mm]
theorem kL_X11_tellsOf (g : mG) (m : mM) (r : Nat) (a : Int32) (i : Nat) (N : Nat) : gL (X11_tellsOf_m g m r a i N) = gL m := by
  unfold X11_tellsOf_m
  repeat' split
  all_goals simp only [mm]
theorem kD_X11_tellsOf (g : mG) (m : mM) (r : Nat) (a : Int32) (i : Nat) (N : Nat) : gD (X11_tellsOf_m g m r a i N) = gD m := by
  unfold X11_tellsOf_m
  repeat' split
  all_goals simp only [mm]
set_option maxHeartbeats 4000000 in
set_option maxRecDepth 100000 in
theorem c_X11_tellsOf {l : Launch} {g : mG} (hO : mO l g) (m : mM) (r : Nat) (a : Int32) (i : Nat) (N : Nat) (hs : SR m r) (hN : gA m (r + 1) 5 = nI N) (hN8 : N ≤ 8) (hk8 : i < 8) : mT l g yX11_tellsOf (.code yX11_tellsOf cX11_tellsOf 3 (Option.some FieldType.int)) 3 63 0 0 [.ref r, .int a, .int (nI i)] m (fun u m' => u = some (.int (X11_tellsOf_r g m r a i N)) ∧ m' = X11_tellsOf_m g m r a i N) nX := by
  refine mT_of hO (by decide) (Nat.le_of_ble_eq_true rfl) (fun x hX hZ => ?_)
  show mV g x m 0 0 0 [(0, .ref r), (1, .int a), (2, .int (nI i))] []
  refine v_aload_n (pc := 0) hX dX11_tellsOf_0 rfl ?_
  refine v_aload_n (pc := 1) hX dX11_tellsOf_1 rfl ?_
  refine v_iload_n (pc := 2) hX dX11_tellsOf_2 rfl ?_
  refine v_callV (z := yX11_find) (pc := 3) hX dX11_tellsOf_3 (c_X11_find hO m r a N hs hN hN8) hs.k rfl wd_1652 wd_1654 wp_26 wd_16 wd_1655 ⟨by decide, by decide, (by decide +kernel : (parseMethodDescriptor yX11_find.desc).map (fun d => d.parameters.length) = some 1)⟩ rfl (Nat.le_of_ble_eq_true rfl) ⟨⟨by decide, by decide⟩, by decide, by decide⟩ (fun E m9 h9 => h9.elim) (fun r9 m9 h9 => ?_)
  obtain ⟨rfl, h8⟩ := h9
  replace h8 := h8.symm
  subst h8
  show mV g x _ _ _ _ _ [.int (X11_find_r g m r a N), .ref r]
  refine v_if_ge (tgt := 13) (pc := 6) hX dX11_tellsOf_6 (by decide) (fun c1 => ?_) (fun c1 => ?_)
  ·
    refine v_iconst (v := 0) (pc := 13) hX dX11_tellsOf_13 (by decide) ?_
    refine v_put (m1 := (sI m 384 r 0)) (pc := 14) hX dX11_tellsOf_14 hs.k (ci := 12) (r := vwC12) rfl 0 (by decide) wd_1506 rfl rfl rfl rfl ?_
    refine v_aload_n (pc := 17) hX dX11_tellsOf_17 rfl ?_
    refine v_get (v := .int 0) (pc := 18) hX dX11_tellsOf_18 (by simp only [mm]; exact hs.k) (ci := 12) (r := vwC12) rfl 0 (by decide) wd_1506 (by show Value.int _ = Value.int _; simp [mm]) ?_
    refine v_if_ne (tgt := 41) (pc := 21) hX dX11_tellsOf_21 (by decide) (fun c2 => ?_) (fun c2 => ?_)
    · exact absurd (by decide) c2
    ·
      refine v_aload_n (pc := 24) hX dX11_tellsOf_24 rfl ?_
      refine v_get (v := .ref (r + 1)) (pc := 25) hX dX11_tellsOf_25 (by simp only [mm]; exact hs.k) (ci := 12) (r := vwC12) rfl 5 (by decide) wd_1511 (fvA rfl (by simp [mm, hs.r1])) ?_
      refine v_aload_n (pc := 28) hX dX11_tellsOf_28 rfl ?_
      refine v_iload_n (pc := 29) hX dX11_tellsOf_29 rfl ?_
      refine v_callV (z := yX11_find) (pc := 30) hX dX11_tellsOf_30 (c_X11_find hO ((sI m 384 r 0)) r a N (hs.to (by simp only [mm]) (by simp only [mm])) (rfl.trans hN) hN8) (by simp only [mm]; exact hs.k) rfl wd_1652 wd_1654 wp_26 wd_16 wd_1655 ⟨by decide, by decide, (by decide +kernel : (parseMethodDescriptor yX11_find.desc).map (fun d => d.parameters.length) = some 1)⟩ rfl (Nat.le_of_ble_eq_true rfl) ⟨⟨by decide, by decide⟩, by decide, by decide⟩ (fun E m9 h9 => h9.elim) (fun r9 m9 h9 => ?_)
      obtain ⟨rfl, h8⟩ := h9
      replace h8 := h8.symm
      subst h8
      rw [fd_cg (m := m) (m1 := (sI m 384 r 0)) rfl]
      show mV g x _ _ _ _ _ [.int (X11_find_r g m r a N), .ref (r + 1)]
      refine v_iload_n (pc := 33) hX dX11_tellsOf_33 rfl ?_
      have hpo := fd_ge (g := g) (m := m) (r := r) (a := a) hN8 (by assumption)
      have hpo2 := hpo.1.2
      refine v_callS (z := yX11_of) (pc := 34) hX dX11_tellsOf_34 (c_of2 hO ((sI m 384 r 0)) (X11_find_r g m r a N) ((X11_find_r g m r a N).toNatClampNeg) i hpo.1.1) wd_1626 wd_1627 wd_16 wd_1628 ⟨by decide, by decide, (by decide +kernel : (parseMethodDescriptor yX11_of.desc).map (fun d => d.parameters.length) = some 2)⟩ rfl (Nat.le_of_ble_eq_true rfl) ⟨⟨by decide, by decide⟩, by decide, by decide⟩ (fun E m9 h9 => h9.elim) (fun r9 m9 h9 => ?_)
      obtain ⟨rfl, h8⟩ := h9
      replace h8 := h8.symm
      subst h8
      show mV g x _ _ _ _ _ [.int (nI (8 * ((X11_find_r g m r a N).toNatClampNeg) + (13 + i))), .ref (r + 1)]
      refine v_iald (j := 8 * ((X11_find_r g m r a N).toNatClampNeg) + (13 + i)) (v := (gA m (r + 1) (8 * ((X11_find_r g m r a N).toNatClampNeg) + (13 + i)))) (pc := 37) hX dX11_tellsOf_37 (by simp only [mm]; exact hs.k1) rfl (by omega) (by decide) rfl ?_
      refine v_goto (tgt := 42) (pc := 38) hX dX11_tellsOf_38 (by decide) ?_
      exact v_iret (pc := 42) hX hZ dX11_tellsOf_42 (by decide) (by decide) ⟨(by rw [X11_tellsOf_r, if_pos c1]), (by rw [X11_tellsOf_m, if_pos c1])⟩
  ·
    refine v_iconst (v := 1) (pc := 9) hX dX11_tellsOf_9 (by decide) ?_
    refine v_goto (tgt := 14) (pc := 10) hX dX11_tellsOf_10 (by decide) ?_
    refine v_put (m1 := (sI m 384 r 1)) (pc := 14) hX dX11_tellsOf_14 hs.k (ci := 12) (r := vwC12) rfl 0 (by decide) wd_1506 rfl rfl rfl rfl ?_
    refine v_aload_n (pc := 17) hX dX11_tellsOf_17 rfl ?_
    refine v_get (v := .int 1) (pc := 18) hX dX11_tellsOf_18 (by simp only [mm]; exact hs.k) (ci := 12) (r := vwC12) rfl 0 (by decide) wd_1506 (by show Value.int _ = Value.int _; simp [mm]) ?_
    refine v_if_ne (tgt := 41) (pc := 21) hX dX11_tellsOf_21 (by decide) (fun c3 => ?_) (fun c3 => ?_)
    ·
      refine v_iconst (v := 0) (pc := 41) hX dX11_tellsOf_41 (by decide) ?_
      exact v_iret (pc := 42) hX hZ dX11_tellsOf_42 (by decide) (by decide) ⟨(by rw [X11_tellsOf_r, if_neg c1]), (by rw [X11_tellsOf_m, if_neg c1])⟩
    · exact absurd c3 (by decide)
def X11_temperature_r (g : mG) (m : mM) (r : Nat) (a : Int32) (N : Nat) : Int32 := X11_tellsOf_r g m r a 2 N
def X11_temperature_m (g : mG) (m : mM) (r : Nat) (a : Int32) (N : Nat) : mM := (X11_tellsOf_m g m r a 2 N)
theorem kK_X11_temperature (g : mG) (m : mM) (r : Nat) (a : Int32) (N : Nat) : gK (X11_temperature_m g m r a N) = gK m := by
  unfold X11_temperature_m
  repeat' split
  all_goals simp only [mm, kK_X11_tellsOf]
theorem kN_X11_temperature (g : mG) (m : mM) (r : Nat) (a : Int32) (N : Nat) : gN (X11_temperature_m g m r a N) = gN m := by
  unfold X11_temperature_m
  repeat' split
  all_goals simp only [mm, kN_X11_tellsOf]
theorem kI_X11_temperature (g : mG) (m : mM) (r : Nat) (a : Int32) (N : Nat) (k a9 : Nat) (h0 : k ≠ 384) : gI (X11_temperature_m g m r a N) k a9 = gI m k a9 := by
  unfold X11_temperature_m
  repeat' split
  all_goals simp [mm, kI_X11_tellsOf, h0]
theorem kJ_X11_temperature (g : mG) (m : mM) (r : Nat) (a : Int32) (N : Nat) : gJ (X11_temperature_m g m r a N) = gJ m := by
  unfold X11_temperature_m
  repeat' split
  all_goals simp only [mm, kJ_X11_tellsOf]
theorem kR_X11_temperature (g : mG) (m : mM) (r : Nat) (a : Int32) (N : Nat) : gR (X11_temperature_m g m r a N) = gR m := by
  unfold X11_temperature_m
  repeat' split
  all_goals simp only [mm, kR_X11_tellsOf]
theorem kA_X11_temperature (g : mG) (m : mM) (r : Nat) (a : Int32) (N : Nat) : gA (X11_temperature_m g m r a N) = gA m := by
  unfold X11_temperature_m
  repeat' split
  all_goals simp only [mm, kA_X11_tellsOf]
theorem kQ_X11_temperature (g : mG) (m : mM) (r : Nat) (a : Int32) (N : Nat) : gQ (X11_temperature_m g m r a N) = gQ m := by
  unfold X11_temperature_m
  repeat' split
  all_goals simp only [mm, kQ_X11_tellsOf]
theorem kL_X11_temperature (g : mG) (m : mM) (r : Nat) (a : Int32) (N : Nat) : gL (X11_temperature_m g m r a N) = gL m := by
  unfold X11_temperature_m
  repeat' split
  all_goals simp only [mm, kL_X11_tellsOf]
theorem kD_X11_temperature (g : mG) (m : mM) (r : Nat) (a : Int32) (N : Nat) : gD (X11_temperature_m g m r a N) = gD m := by
  unfold X11_temperature_m
  repeat' split
  all_goals simp only [mm, kD_X11_tellsOf]
set_option maxHeartbeats 4000000 in
set_option maxRecDepth 100000 in
theorem c_X11_temperature {l : Launch} {g : mG} (hO : mO l g) (m : mM) (r : Nat) (a : Int32) (N : Nat) (hs : SR m r) (hN : gA m (r + 1) 5 = nI N) (hN8 : N ≤ 8) : mT l g yX11_temperature (.code yX11_temperature cX11_temperature 2 (Option.some FieldType.int)) 4 85 0 0 [.ref r, .int a] m (fun u m' => u = some (.int (X11_temperature_r g m r a N)) ∧ m' = X11_temperature_m g m r a N) nX := by
  refine mT_of hO (by decide) (Nat.le_of_ble_eq_true rfl) (fun x hX hZ => ?_)
  show mV g x m 0 0 0 [(0, .ref r), (1, .int a)] []
  refine v_aload_n (pc := 0) hX dX11_temperature_0 rfl ?_
  refine v_iload_n (pc := 1) hX dX11_temperature_1 rfl ?_
  refine v_iconst (v := 2) (pc := 2) hX dX11_temperature_2 (by decide) ?_
  refine v_callV (z := yX11_tellsOf) (pc := 3) hX dX11_temperature_3 (c_X11_tellsOf hO m r a 2 N hs hN hN8 (by decide)) hs.k rfl wd_1792 wd_1794 wp_44 wd_16 wd_1795 ⟨by decide, by decide, (by decide +kernel : (parseMethodDescriptor yX11_tellsOf.desc).map (fun d => d.parameters.length) = some 2)⟩ rfl (Nat.le_of_ble_eq_true rfl) ⟨⟨by decide, by decide⟩, by decide, by decide⟩ (fun E m9 h9 => h9.elim) (fun r9 m9 h9 => ?_)
  obtain ⟨rfl, h8⟩ := h9
  replace h8 := h8.symm
  subst h8
  show mV g x _ _ _ _ _ [.int (X11_tellsOf_r g m r a 2 N)]
  exact v_iret (pc := 6) hX hZ dX11_temperature_6 (by decide) (by decide) ⟨(by rw [X11_temperature_r]), (by rw [X11_temperature_m])⟩
def X11_stages_r (g : mG) (m : mM) (r : Nat) (a : Int32) (N : Nat) : Int32 := X11_tellsOf_r g m r a 3 N
def X11_stages_m (g : mG) (m : mM) (r : Nat) (a : Int32) (N : Nat) : mM := (X11_tellsOf_m g m r a 3 N)
theorem kK_X11_stages (g : mG) (m : mM) (r : Nat) (a : Int32) (N : Nat) : gK (X11_stages_m g m r a N) = gK m := by
  unfold X11_stages_m
  repeat' split
  all_goals simp only [mm, kK_X11_tellsOf]
theorem kN_X11_stages (g : mG) (m : mM) (r : Nat) (a : Int32) (N : Nat) : gN (X11_stages_m g m r a N) = gN m := by
  unfold X11_stages_m
  repeat' split
  all_goals simp only [mm, kN_X11_tellsOf]
theorem kI_X11_stages (g : mG) (m : mM) (r : Nat) (a : Int32) (N : Nat) (k a9 : Nat) (h0 : k ≠ 384) : gI (X11_stages_m g m r a N) k a9 = gI m k a9 := by
  unfold X11_stages_m
  repeat' split
  all_goals simp [mm, kI_X11_tellsOf, h0]
theorem kJ_X11_stages (g : mG) (m : mM) (r : Nat) (a : Int32) (N : Nat) : gJ (X11_stages_m g m r a N) = gJ m := by
  unfold X11_stages_m
  repeat' split
  all_goals simp only [mm, kJ_X11_tellsOf]
theorem kR_X11_stages (g : mG) (m : mM) (r : Nat) (a : Int32) (N : Nat) : gR (X11_stages_m g m r a N) = gR m := by
  unfold X11_stages_m
  repeat' split
  all_goals simp only [mm, kR_X11_tellsOf]
theorem kA_X11_stages (g : mG) (m : mM) (r : Nat) (a : Int32) (N : Nat) : gA (X11_stages_m g m r a N) = gA m := by
  unfold X11_stages_m
  repeat' split
  all_goals simp only [mm, kA_X11_tellsOf]
theorem kQ_X11_stages (g : mG) (m : mM) (r : Nat) (a : Int32) (N : Nat) : gQ (X11_stages_m g m r a N) = gQ m := by
  unfold X11_stages_m
  repeat' split
  all_goals simp only [mm, kQ_X11_tellsOf]
theorem kL_X11_stages (g : mG) (m : mM) (r : Nat) (a : Int32) (N : Nat) : gL (X11_stages_m g m r a N) = gL m := by
  unfold X11_stages_m
  repeat' split
  all_goals simp only [mm, kL_X11_tellsOf]
theorem kD_X11_stages (g : mG) (m : mM) (r : Nat) (a : Int32) (N : Nat) : gD (X11_stages_m g m r a N) = gD m := by
  unfold X11_stages_m
  repeat' split
  all_goals simp only [mm, kD_X11_tellsOf]
set_option maxHeartbeats 4000000 in
set_option maxRecDepth 100000 in
theorem c_X11_stages {l : Launch} {g : mG} (hO : mO l g) (m : mM) (r : Nat) (a : Int32) (N : Nat) (hs : SR m r) (hN : gA m (r + 1) 5 = nI N) (hN8 : N ≤ 8) : mT l g yX11_stages (.code yX11_stages cX11_stages 2 (Option.some FieldType.int)) 4 85 0 0 [.ref r, .int a] m (fun u m' => u = some (.int (X11_stages_r g m r a N)) ∧ m' = X11_stages_m g m r a N) nX := by
  refine mT_of hO (by decide) (Nat.le_of_ble_eq_true rfl) (fun x hX hZ => ?_)
  show mV g x m 0 0 0 [(0, .ref r), (1, .int a)] []
  refine v_aload_n (pc := 0) hX dX11_stages_0 rfl ?_
  refine v_iload_n (pc := 1) hX dX11_stages_1 rfl ?_
  refine v_iconst (v := 3) (pc := 2) hX dX11_stages_2 (by decide) ?_
  refine v_callV (z := yX11_tellsOf) (pc := 3) hX dX11_stages_3 (c_X11_tellsOf hO m r a 3 N hs hN hN8 (by decide)) hs.k rfl wd_1792 wd_1794 wp_44 wd_16 wd_1795 ⟨by decide, by decide, (by decide +kernel : (parseMethodDescriptor yX11_tellsOf.desc).map (fun d => d.parameters.length) = some 2)⟩ rfl (Nat.le_of_ble_eq_true rfl) ⟨⟨by decide, by decide⟩, by decide, by decide⟩ (fun E m9 h9 => h9.elim) (fun r9 m9 h9 => ?_)
  obtain ⟨rfl, h8⟩ := h9
  replace h8 := h8.symm
  subst h8
  show mV g x _ _ _ _ _ [.int (X11_tellsOf_r g m r a 3 N)]
  exact v_iret (pc := 6) hX hZ dX11_stages_6 (by decide) (by decide) ⟨(by rw [X11_stages_r]), (by rw [X11_stages_m])⟩
def X11_hardness_r (g : mG) (m : mM) (r : Nat) (a : Int32) (N : Nat) : Int32 := X11_tellsOf_r g m r a 4 N
def X11_hardness_m (g : mG) (m : mM) (r : Nat) (a : Int32) (N : Nat) : mM := (X11_tellsOf_m g m r a 4 N)
theorem kK_X11_hardness (g : mG) (m : mM) (r : Nat) (a : Int32) (N : Nat) : gK (X11_hardness_m g m r a N) = gK m := by
  unfold X11_hardness_m
  repeat' split
  all_goals simp only [mm, kK_X11_tellsOf]
theorem kN_X11_hardness (g : mG) (m : mM) (r : Nat) (a : Int32) (N : Nat) : gN (X11_hardness_m g m r a N) = gN m := by
  unfold X11_hardness_m
  repeat' split
  all_goals simp only [mm, kN_X11_tellsOf]
theorem kI_X11_hardness (g : mG) (m : mM) (r : Nat) (a : Int32) (N : Nat) (k a9 : Nat) (h0 : k ≠ 384) : gI (X11_hardness_m g m r a N) k a9 = gI m k a9 := by
  unfold X11_hardness_m
  repeat' split
  all_goals simp [mm, kI_X11_tellsOf, h0]
theorem kJ_X11_hardness (g : mG) (m : mM) (r : Nat) (a : Int32) (N : Nat) : gJ (X11_hardness_m g m r a N) = gJ m := by
  unfold X11_hardness_m
  repeat' split
  all_goals simp only [mm, kJ_X11_tellsOf]
theorem kR_X11_hardness (g : mG) (m : mM) (r : Nat) (a : Int32) (N : Nat) : gR (X11_hardness_m g m r a N) = gR m := by
  unfold X11_hardness_m
  repeat' split
  all_goals simp only [mm, kR_X11_tellsOf]
theorem kA_X11_hardness (g : mG) (m : mM) (r : Nat) (a : Int32) (N : Nat) : gA (X11_hardness_m g m r a N) = gA m := by
  unfold X11_hardness_m
  repeat' split
  all_goals simp only [mm, kA_X11_tellsOf]
theorem kQ_X11_hardness (g : mG) (m : mM) (r : Nat) (a : Int32) (N : Nat) : gQ (X11_hardness_m g m r a N) = gQ m := by
  unfold X11_hardness_m
  repeat' split
  all_goals simp only [mm, kQ_X11_tellsOf]
theorem kL_X11_hardness (g : mG) (m : mM) (r : Nat) (a : Int32) (N : Nat) : gL (X11_hardness_m g m r a N) = gL m := by
  unfold X11_hardness_m
  repeat' split
  all_goals simp only [mm, kL_X11_tellsOf]
theorem kD_X11_hardness (g : mG) (m : mM) (r : Nat) (a : Int32) (N : Nat) : gD (X11_hardness_m g m r a N) = gD m := by
  unfold X11_hardness_m
  repeat' split
  all_goals simp only [mm, kD_X11_tellsOf]
set_option maxHeartbeats 4000000 in
set_option maxRecDepth 100000 in
theorem c_X11_hardness {l : Launch} {g : mG} (hO : mO l g) (m : mM) (r : Nat) (a : Int32) (N : Nat) (hs : SR m r) (hN : gA m (r + 1) 5 = nI N) (hN8 : N ≤ 8) : mT l g yX11_hardness (.code yX11_hardness cX11_hardness 2 (Option.some FieldType.int)) 4 85 0 0 [.ref r, .int a] m (fun u m' => u = some (.int (X11_hardness_r g m r a N)) ∧ m' = X11_hardness_m g m r a N) nX := by
  refine mT_of hO (by decide) (Nat.le_of_ble_eq_true rfl) (fun x hX hZ => ?_)
  show mV g x m 0 0 0 [(0, .ref r), (1, .int a)] []
  refine v_aload_n (pc := 0) hX dX11_hardness_0 rfl ?_
  refine v_iload_n (pc := 1) hX dX11_hardness_1 rfl ?_
  refine v_iconst (v := 4) (pc := 2) hX dX11_hardness_2 (by decide) ?_
  refine v_callV (z := yX11_tellsOf) (pc := 3) hX dX11_hardness_3 (c_X11_tellsOf hO m r a 4 N hs hN hN8 (by decide)) hs.k rfl wd_1792 wd_1794 wp_44 wd_16 wd_1795 ⟨by decide, by decide, (by decide +kernel : (parseMethodDescriptor yX11_tellsOf.desc).map (fun d => d.parameters.length) = some 2)⟩ rfl (Nat.le_of_ble_eq_true rfl) ⟨⟨by decide, by decide⟩, by decide, by decide⟩ (fun E m9 h9 => h9.elim) (fun r9 m9 h9 => ?_)
  obtain ⟨rfl, h8⟩ := h9
  replace h8 := h8.symm
  subst h8
  show mV g x _ _ _ _ _ [.int (X11_tellsOf_r g m r a 4 N)]
  exact v_iret (pc := 6) hX hZ dX11_hardness_6 (by decide) (by decide) ⟨(by rw [X11_hardness_r]), (by rw [X11_hardness_m])⟩
def X11_isInFurnace_r (g : mG) (m : mM) (r : Nat) (a : Int32) (N : Nat) : Int32 := if (X11_tellsOf_r g m r a 5 N) = 1 then 1 else 0
def X11_isInFurnace_m (g : mG) (m : mM) (r : Nat) (a : Int32) (N : Nat) : mM := if (X11_tellsOf_r g m r a 5 N) = 1 then ((X11_tellsOf_m g m r a 5 N)) else ((X11_tellsOf_m g m r a 5 N))
theorem kK_X11_isInFurnace (g : mG) (m : mM) (r : Nat) (a : Int32) (N : Nat) : gK (X11_isInFurnace_m g m r a N) = gK m := by
  unfold X11_isInFurnace_m
  repeat' split
  all_goals simp only [mm, kK_X11_tellsOf]
theorem kN_X11_isInFurnace (g : mG) (m : mM) (r : Nat) (a : Int32) (N : Nat) : gN (X11_isInFurnace_m g m r a N) = gN m := by
  unfold X11_isInFurnace_m
  repeat' split
  all_goals simp only [mm, kN_X11_tellsOf]
theorem kI_X11_isInFurnace (g : mG) (m : mM) (r : Nat) (a : Int32) (N : Nat) (k a9 : Nat) (h0 : k ≠ 384) : gI (X11_isInFurnace_m g m r a N) k a9 = gI m k a9 := by
  unfold X11_isInFurnace_m
  repeat' split
  all_goals simp [mm, kI_X11_tellsOf, h0]
theorem kJ_X11_isInFurnace (g : mG) (m : mM) (r : Nat) (a : Int32) (N : Nat) : gJ (X11_isInFurnace_m g m r a N) = gJ m := by
  unfold X11_isInFurnace_m
  repeat' split
  all_goals simp only [mm, kJ_X11_tellsOf]
theorem kR_X11_isInFurnace (g : mG) (m : mM) (r : Nat) (a : Int32) (N : Nat) : gR (X11_isInFurnace_m g m r a N) = gR m := by
  unfold X11_isInFurnace_m
  repeat' split
  all_goals simp only [mm, kR_X11_tellsOf]
theorem kA_X11_isInFurnace (g : mG) (m : mM) (r : Nat) (a : Int32) (N : Nat) : gA (X11_isInFurnace_m g m r a N) = gA m := by
  unfold X11_isInFurnace_m
  repeat' split
  all_goals simp only [mm, kA_X11_tellsOf]
theorem kQ_X11_isInFurnace (g : mG) (m : mM) (r : Nat) (a : Int32) (N : Nat) : gQ (X11_isInFurnace_m g m r a N) = gQ m := by
  unfold X11_isInFurnace_m
  repeat' split
  all_goals simp only [mm, kQ_X11_tellsOf]
theorem kL_X11_isInFurnace (g : mG) (m : mM) (r : Nat) (a : Int32) (N : Nat) : gL (X11_isInFurnace_m g m r a N) = gL m := by
  unfold X11_isInFurnace_m
  repeat' split
  all_goals simp only [mm, kL_X11_tellsOf]
theorem kD_X11_isInFurnace (g : mG) (m : mM) (r : Nat) (a : Int32) (N : Nat) : gD (X11_isInFurnace_m g m r a N) = gD m := by
  unfold X11_isInFurnace_m
  repeat' split
  all_goals simp only [mm, kD_X11_tellsOf]
set_option maxHeartbeats 4000000 in
set_option maxRecDepth 100000 in
theorem c_X11_isInFurnace {l : Launch} {g : mG} (hO : mO l g) (m : mM) (r : Nat) (a : Int32) (N : Nat) (hs : SR m r) (hN : gA m (r + 1) 5 = nI N) (hN8 : N ≤ 8) : mT l g yX11_isInFurnace (.code yX11_isInFurnace cX11_isInFurnace 2 (Option.some FieldType.boolean)) 4 85 0 0 [.ref r, .int a] m (fun u m' => u = some (.int (X11_isInFurnace_r g m r a N)) ∧ m' = X11_isInFurnace_m g m r a N) nX := by
  refine mT_of hO (by decide) (Nat.le_of_ble_eq_true rfl) (fun x hX hZ => ?_)
  show mV g x m 0 0 0 [(0, .ref r), (1, .int a)] []
  refine v_aload_n (pc := 0) hX dX11_isInFurnace_0 rfl ?_
  refine v_iload_n (pc := 1) hX dX11_isInFurnace_1 rfl ?_
  refine v_iconst (v := 5) (pc := 2) hX dX11_isInFurnace_2 (by decide) ?_
  refine v_callV (z := yX11_tellsOf) (pc := 3) hX dX11_isInFurnace_3 (c_X11_tellsOf hO m r a 5 N hs hN hN8 (by decide)) hs.k rfl wd_1792 wd_1794 wp_44 wd_16 wd_1795 ⟨by decide, by decide, (by decide +kernel : (parseMethodDescriptor yX11_tellsOf.desc).map (fun d => d.parameters.length) = some 2)⟩ rfl (Nat.le_of_ble_eq_true rfl) ⟨⟨by decide, by decide⟩, by decide, by decide⟩ (fun E m9 h9 => h9.elim) (fun r9 m9 h9 => ?_)
  obtain ⟨rfl, h8⟩ := h9
  replace h8 := h8.symm
  subst h8
  show mV g x _ _ _ _ _ [.int (X11_tellsOf_r g m r a 5 N)]
  refine v_iconst (v := 1) (pc := 6) hX dX11_isInFurnace_6 (by decide) ?_
  refine v_icmp_ne (tgt := 14) (pc := 7) hX dX11_isInFurnace_7 (by decide) (fun c1 => ?_) (fun c1 => ?_)
  ·
    refine v_iconst (v := 0) (pc := 14) hX dX11_isInFurnace_14 (by decide) ?_
    exact v_zret (pc := 15) hX hZ dX11_isInFurnace_15 rfl (by decide) (by decide) ⟨(by rw [X11_isInFurnace_r, if_neg c1]), (by rw [X11_isInFurnace_m, if_neg c1])⟩
  ·
    refine v_iconst (v := 1) (pc := 10) hX dX11_isInFurnace_10 (by decide) ?_
    refine v_goto (tgt := 15) (pc := 11) hX dX11_isInFurnace_11 (by decide) ?_
    exact v_zret (pc := 15) hX hZ dX11_isInFurnace_15 rfl (by decide) (by decide) ⟨(by rw [X11_isInFurnace_r, if_pos c1]), (by rw [X11_isInFurnace_m, if_pos c1])⟩
def X11_isQuenched_r (g : mG) (m : mM) (r : Nat) (a : Int32) (N : Nat) : Int32 := if (X11_tellsOf_r g m r a 6 N) = 1 then 1 else 0
def X11_isQuenched_m (g : mG) (m : mM) (r : Nat) (a : Int32) (N : Nat) : mM := if (X11_tellsOf_r g m r a 6 N) = 1 then ((X11_tellsOf_m g m r a 6 N)) else ((X11_tellsOf_m g m r a 6 N))
theorem kK_X11_isQuenched (g : mG) (m : mM) (r : Nat) (a : Int32) (N : Nat) : gK (X11_isQuenched_m g m r a N) = gK m := by
  unfold X11_isQuenched_m
  repeat' split
  all_goals simp only [mm, kK_X11_tellsOf]
theorem kN_X11_isQuenched (g : mG) (m : mM) (r : Nat) (a : Int32) (N : Nat) : gN (X11_isQuenched_m g m r a N) = gN m := by
  unfold X11_isQuenched_m
  repeat' split
  all_goals simp only [mm, kN_X11_tellsOf]
theorem kI_X11_isQuenched (g : mG) (m : mM) (r : Nat) (a : Int32) (N : Nat) (k a9 : Nat) (h0 : k ≠ 384) : gI (X11_isQuenched_m g m r a N) k a9 = gI m k a9 := by
  unfold X11_isQuenched_m
  repeat' split
  all_goals simp [mm, kI_X11_tellsOf, h0]
theorem kJ_X11_isQuenched (g : mG) (m : mM) (r : Nat) (a : Int32) (N : Nat) : gJ (X11_isQuenched_m g m r a N) = gJ m := by
  unfold X11_isQuenched_m
  repeat' split
  all_goals simp only [mm, kJ_X11_tellsOf]
theorem kR_X11_isQuenched (g : mG) (m : mM) (r : Nat) (a : Int32) (N : Nat) : gR (X11_isQuenched_m g m r a N) = gR m := by
  unfold X11_isQuenched_m
  repeat' split
  all_goals simp only [mm, kR_X11_tellsOf]
theorem kA_X11_isQuenched (g : mG) (m : mM) (r : Nat) (a : Int32) (N : Nat) : gA (X11_isQuenched_m g m r a N) = gA m := by
  unfold X11_isQuenched_m
  repeat' split
  all_goals simp only [mm, kA_X11_tellsOf]
theorem kQ_X11_isQuenched (g : mG) (m : mM) (r : Nat) (a : Int32) (N : Nat) : gQ (X11_isQuenched_m g m r a N) = gQ m := by
  unfold X11_isQuenched_m
  repeat' split
  all_goals simp only [mm, kQ_X11_tellsOf]
theorem kL_X11_isQuenched (g : mG) (m : mM) (r : Nat) (a : Int32) (N : Nat) : gL (X11_isQuenched_m g m r a N) = gL m := by
  unfold X11_isQuenched_m
  repeat' split
  all_goals simp only [mm, kL_X11_tellsOf]
theorem kD_X11_isQuenched (g : mG) (m : mM) (r : Nat) (a : Int32) (N : Nat) : gD (X11_isQuenched_m g m r a N) = gD m := by
  unfold X11_isQuenched_m
  repeat' split
  all_goals simp only [mm, kD_X11_tellsOf]
set_option maxHeartbeats 4000000 in
set_option maxRecDepth 100000 in
theorem c_X11_isQuenched {l : Launch} {g : mG} (hO : mO l g) (m : mM) (r : Nat) (a : Int32) (N : Nat) (hs : SR m r) (hN : gA m (r + 1) 5 = nI N) (hN8 : N ≤ 8) : mT l g yX11_isQuenched (.code yX11_isQuenched cX11_isQuenched 2 (Option.some FieldType.boolean)) 4 85 0 0 [.ref r, .int a] m (fun u m' => u = some (.int (X11_isQuenched_r g m r a N)) ∧ m' = X11_isQuenched_m g m r a N) nX := by
  refine mT_of hO (by decide) (Nat.le_of_ble_eq_true rfl) (fun x hX hZ => ?_)
  show mV g x m 0 0 0 [(0, .ref r), (1, .int a)] []
  refine v_aload_n (pc := 0) hX dX11_isQuenched_0 rfl ?_
  refine v_iload_n (pc := 1) hX dX11_isQuenched_1 rfl ?_
  refine v_bipush (v := 6) (pc := 2) hX dX11_isQuenched_2 (by decide) ?_
  refine v_callV (z := yX11_tellsOf) (pc := 4) hX dX11_isQuenched_4 (c_X11_tellsOf hO m r a 6 N hs hN hN8 (by decide)) hs.k rfl wd_1792 wd_1794 wp_44 wd_16 wd_1795 ⟨by decide, by decide, (by decide +kernel : (parseMethodDescriptor yX11_tellsOf.desc).map (fun d => d.parameters.length) = some 2)⟩ rfl (Nat.le_of_ble_eq_true rfl) ⟨⟨by decide, by decide⟩, by decide, by decide⟩ (fun E m9 h9 => h9.elim) (fun r9 m9 h9 => ?_)
  obtain ⟨rfl, h8⟩ := h9
  replace h8 := h8.symm
  subst h8
  show mV g x _ _ _ _ _ [.int (X11_tellsOf_r g m r a 6 N)]
  refine v_iconst (v := 1) (pc := 7) hX dX11_isQuenched_7 (by decide) ?_
  refine v_icmp_ne (tgt := 15) (pc := 8) hX dX11_isQuenched_8 (by decide) (fun c1 => ?_) (fun c1 => ?_)
  ·
    refine v_iconst (v := 0) (pc := 15) hX dX11_isQuenched_15 (by decide) ?_
    exact v_zret (pc := 16) hX hZ dX11_isQuenched_16 rfl (by decide) (by decide) ⟨(by rw [X11_isQuenched_r, if_neg c1]), (by rw [X11_isQuenched_m, if_neg c1])⟩
  ·
    refine v_iconst (v := 1) (pc := 11) hX dX11_isQuenched_11 (by decide) ?_
    refine v_goto (tgt := 16) (pc := 12) hX dX11_isQuenched_12 (by decide) ?_
    exact v_zret (pc := 16) hX hZ dX11_isQuenched_16 rfl (by decide) (by decide) ⟨(by rw [X11_isQuenched_r, if_pos c1]), (by rw [X11_isQuenched_m, if_pos c1])⟩
def X11_hasPassed_r (g : mG) (m : mM) (r : Nat) (a : Int32) (N : Nat) : Int32 := if (X11_tellsOf_r g m r a 7 N) = 1 then 1 else 0
def X11_hasPassed_m (g : mG) (m : mM) (r : Nat) (a : Int32) (N : Nat) : mM := if (X11_tellsOf_r g m r a 7 N) = 1 then ((X11_tellsOf_m g m r a 7 N)) else ((X11_tellsOf_m g m r a 7 N))
theorem kK_X11_hasPassed (g : mG) (m : mM) (r : Nat) (a : Int32) (N : Nat) : gK (X11_hasPassed_m g m r a N) = gK m := by
  unfold X11_hasPassed_m
  repeat' split
  all_goals simp only [mm, kK_X11_tellsOf]
theorem kN_X11_hasPassed (g : mG) (m : mM) (r : Nat) (a : Int32) (N : Nat) : gN (X11_hasPassed_m g m r a N) = gN m := by
  unfold X11_hasPassed_m
  repeat' split
  all_goals simp only [mm, kN_X11_tellsOf]
theorem kI_X11_hasPassed (g : mG) (m : mM) (r : Nat) (a : Int32) (N : Nat) (k a9 : Nat) (h0 : k ≠ 384) : gI (X11_hasPassed_m g m r a N) k a9 = gI m k a9 := by
  unfold X11_hasPassed_m
  repeat' split
  all_goals simp [mm, kI_X11_tellsOf, h0]
theorem kJ_X11_hasPassed (g : mG) (m : mM) (r : Nat) (a : Int32) (N : Nat) : gJ (X11_hasPassed_m g m r a N) = gJ m := by
  unfold X11_hasPassed_m
  repeat' split
  all_goals simp only [mm, kJ_X11_tellsOf]
theorem kR_X11_hasPassed (g : mG) (m : mM) (r : Nat) (a : Int32) (N : Nat) : gR (X11_hasPassed_m g m r a N) = gR m := by
  unfold X11_hasPassed_m
  repeat' split
  all_goals simp only [mm, kR_X11_tellsOf]
theorem kA_X11_hasPassed (g : mG) (m : mM) (r : Nat) (a : Int32) (N : Nat) : gA (X11_hasPassed_m g m r a N) = gA m := by
  unfold X11_hasPassed_m
  repeat' split
  all_goals simp only [mm, kA_X11_tellsOf]
theorem kQ_X11_hasPassed (g : mG) (m : mM) (r : Nat) (a : Int32) (N : Nat) : gQ (X11_hasPassed_m g m r a N) = gQ m := by
  unfold X11_hasPassed_m
  repeat' split
  all_goals simp only [mm, kQ_X11_tellsOf]
theorem kL_X11_hasPassed (g : mG) (m : mM) (r : Nat) (a : Int32) (N : Nat) : gL (X11_hasPassed_m g m r a N) = gL m := by
  unfold X11_hasPassed_m
  repeat' split
  all_goals simp only [mm, kL_X11_tellsOf]
theorem kD_X11_hasPassed (g : mG) (m : mM) (r : Nat) (a : Int32) (N : Nat) : gD (X11_hasPassed_m g m r a N) = gD m := by
  unfold X11_hasPassed_m
  repeat' split
  all_goals simp only [mm, kD_X11_tellsOf]
set_option maxHeartbeats 4000000 in
set_option maxRecDepth 100000 in
theorem c_X11_hasPassed {l : Launch} {g : mG} (hO : mO l g) (m : mM) (r : Nat) (a : Int32) (N : Nat) (hs : SR m r) (hN : gA m (r + 1) 5 = nI N) (hN8 : N ≤ 8) : mT l g yX11_hasPassed (.code yX11_hasPassed cX11_hasPassed 2 (Option.some FieldType.boolean)) 4 85 0 0 [.ref r, .int a] m (fun u m' => u = some (.int (X11_hasPassed_r g m r a N)) ∧ m' = X11_hasPassed_m g m r a N) nX := by
  refine mT_of hO (by decide) (Nat.le_of_ble_eq_true rfl) (fun x hX hZ => ?_)
  show mV g x m 0 0 0 [(0, .ref r), (1, .int a)] []
  refine v_aload_n (pc := 0) hX dX11_hasPassed_0 rfl ?_
  refine v_iload_n (pc := 1) hX dX11_hasPassed_1 rfl ?_
  refine v_bipush (v := 7) (pc := 2) hX dX11_hasPassed_2 (by decide) ?_
  refine v_callV (z := yX11_tellsOf) (pc := 4) hX dX11_hasPassed_4 (c_X11_tellsOf hO m r a 7 N hs hN hN8 (by decide)) hs.k rfl wd_1792 wd_1794 wp_44 wd_16 wd_1795 ⟨by decide, by decide, (by decide +kernel : (parseMethodDescriptor yX11_tellsOf.desc).map (fun d => d.parameters.length) = some 2)⟩ rfl (Nat.le_of_ble_eq_true rfl) ⟨⟨by decide, by decide⟩, by decide, by decide⟩ (fun E m9 h9 => h9.elim) (fun r9 m9 h9 => ?_)
  obtain ⟨rfl, h8⟩ := h9
  replace h8 := h8.symm
  subst h8
  show mV g x _ _ _ _ _ [.int (X11_tellsOf_r g m r a 7 N)]
  refine v_iconst (v := 1) (pc := 7) hX dX11_hasPassed_7 (by decide) ?_
  refine v_icmp_ne (tgt := 15) (pc := 8) hX dX11_hasPassed_8 (by decide) (fun c1 => ?_) (fun c1 => ?_)
  ·
    refine v_iconst (v := 0) (pc := 15) hX dX11_hasPassed_15 (by decide) ?_
    exact v_zret (pc := 16) hX hZ dX11_hasPassed_16 rfl (by decide) (by decide) ⟨(by rw [X11_hasPassed_r, if_neg c1]), (by rw [X11_hasPassed_m, if_neg c1])⟩
  ·
    refine v_iconst (v := 1) (pc := 11) hX dX11_hasPassed_11 (by decide) ?_
    refine v_goto (tgt := 16) (pc := 12) hX dX11_hasPassed_12 (by decide) ?_
    exact v_zret (pc := 16) hX hZ dX11_hasPassed_16 rfl (by decide) (by decide) ⟨(by rw [X11_hasPassed_r, if_pos c1]), (by rw [X11_hasPassed_m, if_pos c1])⟩
def X11_kind_r (g : mG) (m : mM) (r : Nat) (a : Int32) (N : Nat) : Int32 := if (gI (X11_tellsOf_m g m r a 1 N) 384 r) = 0 then (((X11_tellsOf_r g m r a 1 N).toUInt32 % 65536).toInt32) else 97
def X11_kind_m (g : mG) (m : mM) (r : Nat) (a : Int32) (N : Nat) : mM := if (gI (X11_tellsOf_m g m r a 1 N) 384 r) = 0 then ((X11_tellsOf_m g m r a 1 N)) else ((X11_tellsOf_m g m r a 1 N))
theorem kK_X11_kind (g : mG) (m : mM) (r : Nat) (a : Int32) (N : Nat) : gK (X11_kind_m g m r a N) = gK m := by
  unfold X11_kind_m
  repeat' split
  all_goals simp only [mm, kK_X11_tellsOf]
theorem kN_X11_kind (g : mG) (m : mM) (r : Nat) (a : Int32) (N : Nat) : gN (X11_kind_m g m r a N) = gN m := by
  unfold X11_kind_m
  repeat' split
  all_goals simp only [mm, kN_X11_tellsOf]
theorem kI_X11_kind (g : mG) (m : mM) (r : Nat) (a : Int32) (N : Nat) (k a9 : Nat) (h0 : k ≠ 384) : gI (X11_kind_m g m r a N) k a9 = gI m k a9 := by
  unfold X11_kind_m
  repeat' split
  all_goals simp [mm, kI_X11_tellsOf, h0]
theorem kJ_X11_kind (g : mG) (m : mM) (r : Nat) (a : Int32) (N : Nat) : gJ (X11_kind_m g m r a N) = gJ m := by
  unfold X11_kind_m
  repeat' split
  all_goals simp only [mm, kJ_X11_tellsOf]
theorem kR_X11_kind (g : mG) (m : mM) (r : Nat) (a : Int32) (N : Nat) : gR (X11_kind_m g m r a N) = gR m := by
  unfold X11_kind_m
  repeat' split
  all_goals simp only [mm, kR_X11_tellsOf]
theorem kA_X11_kind (g : mG) (m : mM) (r : Nat) (a : Int32) (N : Nat) : gA (X11_kind_m g m r a N) = gA m := by
  unfold X11_kind_m
  repeat' split
  all_goals simp only [mm, kA_X11_tellsOf]
theorem kQ_X11_kind (g : mG) (m : mM) (r : Nat) (a : Int32) (N : Nat) : gQ (X11_kind_m g m r a N) = gQ m := by
  unfold X11_kind_m
  repeat' split
  all_goals simp only [mm, kQ_X11_tellsOf]
theorem kL_X11_kind (g : mG) (m : mM) (r : Nat) (a : Int32) (N : Nat) : gL (X11_kind_m g m r a N) = gL m := by
  unfold X11_kind_m
  repeat' split
  all_goals simp only [mm, kL_X11_tellsOf]
theorem kD_X11_kind (g : mG) (m : mM) (r : Nat) (a : Int32) (N : Nat) : gD (X11_kind_m g m r a N) = gD m := by
  unfold X11_kind_m
  repeat' split
  all_goals simp only [mm, kD_X11_tellsOf]
set_option maxHeartbeats 4000000 in
set_option maxRecDepth 100000 in
theorem c_X11_kind {l : Launch} {g : mG} (hO : mO l g) (m : mM) (r : Nat) (a : Int32) (N : Nat) (hs : SR m r) (hN : gA m (r + 1) 5 = nI N) (hN8 : N ≤ 8) : mT l g yX11_kind (.code yX11_kind cX11_kind 3 (Option.some FieldType.char)) 4 85 0 0 [.ref r, .int a] m (fun u m' => u = some (.int (X11_kind_r g m r a N)) ∧ m' = X11_kind_m g m r a N) nX := by
  refine mT_of hO (by decide) (Nat.le_of_ble_eq_true rfl) (fun x hX hZ => ?_)
  show mV g x m 0 0 0 [(0, .ref r), (1, .int a)] []
  refine v_aload_n (pc := 0) hX dX11_kind_0 rfl ?_
  refine v_iload_n (pc := 1) hX dX11_kind_1 rfl ?_
  refine v_iconst (v := 1) (pc := 2) hX dX11_kind_2 (by decide) ?_
  refine v_callV (z := yX11_tellsOf) (pc := 3) hX dX11_kind_3 (c_X11_tellsOf hO m r a 1 N hs hN hN8 (by decide)) hs.k rfl wd_1792 wd_1794 wp_44 wd_16 wd_1795 ⟨by decide, by decide, (by decide +kernel : (parseMethodDescriptor yX11_tellsOf.desc).map (fun d => d.parameters.length) = some 2)⟩ rfl (Nat.le_of_ble_eq_true rfl) ⟨⟨by decide, by decide⟩, by decide, by decide⟩ (fun E m9 h9 => h9.elim) (fun r9 m9 h9 => ?_)
  obtain ⟨rfl, h8⟩ := h9
  replace h8 := h8.symm
  subst h8
  show mV g x _ _ _ _ _ [.int (X11_tellsOf_r g m r a 1 N)]
  refine v_istore_n (pc := 6) hX dX11_kind_6 (by decide) rfl ?_
  refine v_aload_n (pc := 7) hX dX11_kind_7 rfl ?_
  refine v_get (v := .int (gI (X11_tellsOf_m g m r a 1 N) 384 r)) (pc := 8) hX dX11_kind_8 (by simp only [mm, kK_X11_tellsOf]; exact hs.k) (ci := 12) (r := vwC12) rfl 0 (by decide) wd_1506 rfl ?_
  refine v_if_ne (tgt := 19) (pc := 11) hX dX11_kind_11 (by decide) (fun c1 => ?_) (fun c1 => ?_)
  ·
    refine v_bipush (v := 97) (pc := 19) hX dX11_kind_19 (by decide) ?_
    exact v_zret (pc := 21) hX hZ dX11_kind_21 (by decide) (by decide) (by decide) ⟨(by rw [X11_kind_r, if_neg c1]), (by rw [X11_kind_m, if_neg c1])⟩
  ·
    refine v_iload_n (pc := 14) hX dX11_kind_14 rfl ?_
    refine v_i2c (v := ((X11_tellsOf_r g m r a 1 N).toUInt32 % 65536).toInt32) (pc := 15) hX dX11_kind_15 rfl ?_
    refine v_goto (tgt := 21) (pc := 16) hX dX11_kind_16 (by decide) ?_
    exact v_zret (pc := 21) hX hZ dX11_kind_21 (nar_c _) (by decide) (by decide) ⟨(by rw [X11_kind_r, if_pos c1]), (by rw [X11_kind_m, if_pos c1])⟩
def X11_stroke_r (g : mG) (m : mM) (r : Nat) (a : Int32) (b : Int32) (N : Nat) (H : Nat) : Int32 := if 0 ≤ (X11_find_r g m r a N) then (if (X11_isTool_r g m r b H) = 0 then 0 else (X11_blow_r g ((sI m 384 r 0)) r (X11_find_r g m r a N) b )) else 0
def X11_stroke_m (g : mG) (m : mM) (r : Nat) (a : Int32) (b : Int32) (N : Nat) (H : Nat) : mM := if 0 ≤ (X11_find_r g m r a N) then (if (X11_isTool_r g m r b H) = 0 then ((sI m 384 r 2)) else ((sI m 384 r 0))) else ((sI m 384 r 1))
theorem kK_X11_stroke (g : mG) (m : mM) (r : Nat) (a : Int32) (b : Int32) (N : Nat) (H : Nat) : gK (X11_stroke_m g m r a b N H) = gK m := by
  unfold X11_stroke_m
  repeat' split
  all_goals simp only [mm]
theorem kN_X11_stroke (g : mG) (m : mM) (r : Nat) (a : Int32) (b : Int32) (N : Nat) (H : Nat) : gN (X11_stroke_m g m r a b N H) = gN m := by
  unfold X11_stroke_m
  repeat' split
  all_goals simp only [mm]
theorem kI_X11_stroke (g : mG) (m : mM) (r : Nat) (a : Int32) (b : Int32) (N : Nat) (H : Nat) (k a9 : Nat) (h0 : k ≠ 384) : gI (X11_stroke_m g m r a b N H) k a9 = gI m k a9 := by
  unfold X11_stroke_m
  repeat' split
  all_goals simp [mm, h0]
theorem kJ_X11_stroke (g : mG) (m : mM) (r : Nat) (a : Int32) (b : Int32) (N : Nat) (H : Nat) : gJ (X11_stroke_m g m r a b N H) = gJ m := by
  unfold X11_stroke_m
  repeat' split
  all_goals simp only [mm]
theorem kR_X11_stroke (g : mG) (m : mM) (r : Nat) (a : Int32) (b : Int32) (N : Nat) (H : Nat) : gR (X11_stroke_m g m r a b N H) = gR m := by
  unfold X11_stroke_m
  repeat' split
  all_goals simp only [mm]
theorem kA_X11_stroke (g : mG) (m : mM) (r : Nat) (a : Int32) (b : Int32) (N : Nat) (H : Nat) : gA (X11_stroke_m g m r a b N H) = gA m := by
  unfold X11_stroke_m
  repeat' split
  all_goals simp only [mm]
theorem kQ_X11_stroke (g : mG) (m : mM) (r : Nat) (a : Int32) (b : Int32) (N : Nat) (H : Nat) : gQ (X11_stroke_m g m r a b N H) = gQ m := by
  unfold X11_stroke_m
  repeat' split
  all_goals simp only [mm]
theorem kL_X11_stroke (g : mG) (m : mM) (r : Nat) (a : Int32) (b : Int32) (N : Nat) (H : Nat) : gL (X11_stroke_m g m r a b N H) = gL m := by
  unfold X11_stroke_m
  repeat' split
  all_goals simp only [mm]
theorem kD_X11_stroke (g : mG) (m : mM) (r : Nat) (a : Int32) (b : Int32) (N : Nat) (H : Nat) : gD (X11_stroke_m g m r a b N H) = gD m := by
  unfold X11_stroke_m
  repeat' split
  all_goals simp only [mm]
set_option maxHeartbeats 4000000 in
set_option maxRecDepth 100000 in
theorem c_X11_stroke {l : Launch} {g : mG} (hO : mO l g) (m : mM) (r : Nat) (a : Int32) (b : Int32) (N : Nat) (H : Nat) (hs : SR m r) (hN : gA m (r + 1) 5 = nI N) (hN8 : N ≤ 8) (hH : gA m (r + 1) 6 = nI H) (hH4 : H ≤ 4) : mT l g yX11_stroke (.code yX11_stroke cX11_stroke 3 (Option.some FieldType.int)) 3 66 0 0 [.ref r, .int a, .int b] m (fun u m' => u = some (.int (X11_stroke_r g m r a b N H)) ∧ m' = X11_stroke_m g m r a b N H) nX := by
  refine mT_of hO (by decide) (Nat.le_of_ble_eq_true rfl) (fun x hX hZ => ?_)
  show mV g x m 0 0 0 [(0, .ref r), (1, .int a), (2, .int b)] []
  refine v_aload_n (pc := 0) hX dX11_stroke_0 rfl ?_
  refine v_aload_n (pc := 1) hX dX11_stroke_1 rfl ?_
  refine v_iload_n (pc := 2) hX dX11_stroke_2 rfl ?_
  refine v_callV (z := yX11_find) (pc := 3) hX dX11_stroke_3 (c_X11_find hO m r a N hs hN hN8) hs.k rfl wd_1652 wd_1654 wp_26 wd_16 wd_1655 ⟨by decide, by decide, (by decide +kernel : (parseMethodDescriptor yX11_find.desc).map (fun d => d.parameters.length) = some 1)⟩ rfl (Nat.le_of_ble_eq_true rfl) ⟨⟨by decide, by decide⟩, by decide, by decide⟩ (fun E m9 h9 => h9.elim) (fun r9 m9 h9 => ?_)
  obtain ⟨rfl, h8⟩ := h9
  replace h8 := h8.symm
  subst h8
  show mV g x _ _ _ _ _ [.int (X11_find_r g m r a N), .ref r]
  refine v_if_ge (tgt := 13) (pc := 6) hX dX11_stroke_6 (by decide) (fun c1 => ?_) (fun c1 => ?_)
  ·
    refine v_aload_n (pc := 13) hX dX11_stroke_13 rfl ?_
    refine v_iload_n (pc := 14) hX dX11_stroke_14 rfl ?_
    refine v_callV (z := yX11_isTool) (pc := 15) hX dX11_stroke_15 (c_X11_isTool hO m r b H hs hH hH4) hs.k rfl wd_1680 wd_1682 wp_31 wd_16 wd_1683 ⟨by decide, by decide, (by decide +kernel : (parseMethodDescriptor yX11_isTool.desc).map (fun d => d.parameters.length) = some 1)⟩ rfl (Nat.le_of_ble_eq_true rfl) ⟨⟨by decide, by decide⟩, by decide, by decide⟩ (fun E m9 h9 => h9.elim) (fun r9 m9 h9 => ?_)
    obtain ⟨rfl, h8⟩ := h9
    replace h8 := h8.symm
    subst h8
    show mV g x _ _ _ _ _ [.int (X11_isTool_r g m r b H), .ref r]
    refine v_if_eq (tgt := 25) (pc := 18) hX dX11_stroke_18 (by decide) (fun c2 => ?_) (fun c2 => ?_)
    ·
      refine v_iconst (v := 2) (pc := 25) hX dX11_stroke_25 (by decide) ?_
      refine v_put (m1 := (sI m 384 r 2)) (pc := 26) hX dX11_stroke_26 hs.k (ci := 12) (r := vwC12) rfl 0 (by decide) wd_1506 rfl rfl rfl rfl ?_
      refine v_aload_n (pc := 29) hX dX11_stroke_29 rfl ?_
      refine v_get (v := .int 2) (pc := 30) hX dX11_stroke_30 (by simp only [mm]; exact hs.k) (ci := 12) (r := vwC12) rfl 0 (by decide) wd_1506 (by show Value.int _ = Value.int _; simp [mm]) ?_
      refine v_if_ne (tgt := 49) (pc := 33) hX dX11_stroke_33 (by decide) (fun c3 => ?_) (fun c3 => ?_)
      ·
        refine v_iconst (v := 0) (pc := 49) hX dX11_stroke_49 (by decide) ?_
        exact v_iret (pc := 50) hX hZ dX11_stroke_50 (by decide) (by decide) ⟨(by rw [X11_stroke_r, if_pos c1, if_pos c2]), (by rw [X11_stroke_m, if_pos c1, if_pos c2])⟩
      · exact absurd c3 (by decide)
    ·
      refine v_iconst (v := 0) (pc := 21) hX dX11_stroke_21 (by decide) ?_
      refine v_goto (tgt := 26) (pc := 22) hX dX11_stroke_22 (by decide) ?_
      refine v_put (m1 := (sI m 384 r 0)) (pc := 26) hX dX11_stroke_26 hs.k (ci := 12) (r := vwC12) rfl 0 (by decide) wd_1506 rfl rfl rfl rfl ?_
      refine v_aload_n (pc := 29) hX dX11_stroke_29 rfl ?_
      refine v_get (v := .int 0) (pc := 30) hX dX11_stroke_30 (by simp only [mm]; exact hs.k) (ci := 12) (r := vwC12) rfl 0 (by decide) wd_1506 (by show Value.int _ = Value.int _; simp [mm]) ?_
      refine v_if_ne (tgt := 49) (pc := 33) hX dX11_stroke_33 (by decide) (fun c4 => ?_) (fun c4 => ?_)
      · exact absurd (by decide) c4
      ·
        refine v_aload_n (pc := 36) hX dX11_stroke_36 rfl ?_
        refine v_aload_n (pc := 37) hX dX11_stroke_37 rfl ?_
        refine v_iload_n (pc := 38) hX dX11_stroke_38 rfl ?_
        refine v_callV (z := yX11_find) (pc := 39) hX dX11_stroke_39 (c_X11_find hO ((sI m 384 r 0)) r a N (hs.to (by simp only [mm]) (by simp only [mm])) (rfl.trans hN) hN8) (by simp only [mm]; exact hs.k) rfl wd_1652 wd_1654 wp_26 wd_16 wd_1655 ⟨by decide, by decide, (by decide +kernel : (parseMethodDescriptor yX11_find.desc).map (fun d => d.parameters.length) = some 1)⟩ rfl (Nat.le_of_ble_eq_true rfl) ⟨⟨by decide, by decide⟩, by decide, by decide⟩ (fun E m9 h9 => h9.elim) (fun r9 m9 h9 => ?_)
        obtain ⟨rfl, h8⟩ := h9
        replace h8 := h8.symm
        subst h8
        rw [fd_cg (m := m) (m1 := (sI m 384 r 0)) rfl]
        show mV g x _ _ _ _ _ [.int (X11_find_r g m r a N), .ref r]
        refine v_iload_n (pc := 42) hX dX11_stroke_42 rfl ?_
        refine v_callV (z := yX11_blow) (pc := 43) hX dX11_stroke_43 (c_X11_blow hO ((sI m 384 r 0)) r (X11_find_r g m r a N) b  (hs.to (by simp only [mm]) (by simp only [mm])) (fd_ge (g := g) hN8 (by assumption)).1 (tool_ok (g := g) (m := m) (r := r) (by assumption) hH4)) (by simp only [mm]; exact hs.k) rfl wd_1688 wd_1690 wp_33 wd_16 wd_1691 ⟨by decide, by decide, (by decide +kernel : (parseMethodDescriptor yX11_blow.desc).map (fun d => d.parameters.length) = some 2)⟩ rfl (Nat.le_of_ble_eq_true rfl) ⟨⟨by decide, by decide⟩, by decide, by decide⟩ (fun E m9 h9 => h9.elim) (fun r9 m9 h9 => ?_)
        obtain ⟨rfl, h8⟩ := h9
        replace h8 := h8.symm
        subst h8
        show mV g x _ _ _ _ _ [.int (X11_blow_r g ((sI m 384 r 0)) r (X11_find_r g m r a N) b )]
        refine v_goto (tgt := 50) (pc := 46) hX dX11_stroke_46 (by decide) ?_
        exact v_iret (pc := 50) hX hZ dX11_stroke_50 (by decide) (by decide) ⟨(by rw [X11_stroke_r, if_pos c1, if_neg c2]), (by rw [X11_stroke_m, if_pos c1, if_neg c2])⟩
  ·
    refine v_iconst (v := 1) (pc := 9) hX dX11_stroke_9 (by decide) ?_
    refine v_goto (tgt := 26) (pc := 10) hX dX11_stroke_10 (by decide) ?_
    refine v_put (m1 := (sI m 384 r 1)) (pc := 26) hX dX11_stroke_26 hs.k (ci := 12) (r := vwC12) rfl 0 (by decide) wd_1506 rfl rfl rfl rfl ?_
    refine v_aload_n (pc := 29) hX dX11_stroke_29 rfl ?_
    refine v_get (v := .int 1) (pc := 30) hX dX11_stroke_30 (by simp only [mm]; exact hs.k) (ci := 12) (r := vwC12) rfl 0 (by decide) wd_1506 (by show Value.int _ = Value.int _; simp [mm]) ?_
    refine v_if_ne (tgt := 49) (pc := 33) hX dX11_stroke_33 (by decide) (fun c5 => ?_) (fun c5 => ?_)
    ·
      refine v_iconst (v := 0) (pc := 49) hX dX11_stroke_49 (by decide) ?_
      exact v_iret (pc := 50) hX hZ dX11_stroke_50 (by decide) (by decide) ⟨(by rw [X11_stroke_r, if_neg c1]), (by rw [X11_stroke_m, if_neg c1])⟩
    · exact absurd c5 (by decide)
def X11_weight_r (g : mG) (m : mM) (r : Nat) (a : Int32) (H : Nat) : Int32 := if (X11_isTool_r g m r a H) = 0 then 0 else (X11_weighs_r g ((sI m 384 r 0)) r a )
def X11_weight_m (g : mG) (m : mM) (r : Nat) (a : Int32) (H : Nat) : mM := if (X11_isTool_r g m r a H) = 0 then ((sI m 384 r 1)) else ((sI m 384 r 0))
theorem kK_X11_weight (g : mG) (m : mM) (r : Nat) (a : Int32) (H : Nat) : gK (X11_weight_m g m r a H) = gK m := by
  unfold X11_weight_m
  repeat' split
  all_goals simp only [mm]
theorem kN_X11_weight (g : mG) (m : mM) (r : Nat) (a : Int32) (H : Nat) : gN (X11_weight_m g m r a H) = gN m := by
  unfold X11_weight_m
  repeat' split
  all_goals simp only [mm]
theorem kI_X11_weight (g : mG) (m : mM) (r : Nat) (a : Int32) (H : Nat) (k a9 : Nat) (h0 : k ≠ 384) : gI (X11_weight_m g m r a H) k a9 = gI m k a9 := by
  unfold X11_weight_m
  repeat' split
  all_goals simp [mm, h0]
theorem kJ_X11_weight (g : mG) (m : mM) (r : Nat) (a : Int32) (H : Nat) : gJ (X11_weight_m g m r a H) = gJ m := by
  unfold X11_weight_m
  repeat' split
  all_goals simp only [mm]
theorem kR_X11_weight (g : mG) (m : mM) (r : Nat) (a : Int32) (H : Nat) : gR (X11_weight_m g m r a H) = gR m := by
  unfold X11_weight_m
  repeat' split
  all_goals simp only [mm]
theorem kA_X11_weight (g : mG) (m : mM) (r : Nat) (a : Int32) (H : Nat) : gA (X11_weight_m g m r a H) = gA m := by
  unfold X11_weight_m
  repeat' split
  all_goals simp only [mm]
theorem kQ_X11_weight (g : mG) (m : mM) (r : Nat) (a : Int32) (H : Nat) : gQ (X11_weight_m g m r a H) = gQ m := by
  unfold X11_weight_m
  repeat' split
  all_goals simp only [mm]
theorem kL_X11_weight (g : mG) (m : mM) (r : Nat) (a : Int32) (H : Nat) : gL (X11_weight_m g m r a H) = gL m := by
  unfold X11_weight_m
  repeat' split
  all_goals simp only [mm]
theorem kD_X11_weight (g : mG) (m : mM) (r : Nat) (a : Int32) (H : Nat) : gD (X11_weight_m g m r a H) = gD m := by
  unfold X11_weight_m
  repeat' split
  all_goals simp only [mm]
set_option maxHeartbeats 4000000 in
set_option maxRecDepth 100000 in
theorem c_X11_weight {l : Launch} {g : mG} (hO : mO l g) (m : mM) (r : Nat) (a : Int32) (H : Nat) (hs : SR m r) (hH : gA m (r + 1) 6 = nI H) (hH4 : H ≤ 4) : mT l g yX11_weight (.code yX11_weight cX11_weight 2 (Option.some FieldType.int)) 3 63 0 0 [.ref r, .int a] m (fun u m' => u = some (.int (X11_weight_r g m r a H)) ∧ m' = X11_weight_m g m r a H) nX := by
  refine mT_of hO (by decide) (Nat.le_of_ble_eq_true rfl) (fun x hX hZ => ?_)
  show mV g x m 0 0 0 [(0, .ref r), (1, .int a)] []
  refine v_aload_n (pc := 0) hX dX11_weight_0 rfl ?_
  refine v_aload_n (pc := 1) hX dX11_weight_1 rfl ?_
  refine v_iload_n (pc := 2) hX dX11_weight_2 rfl ?_
  refine v_callV (z := yX11_isTool) (pc := 3) hX dX11_weight_3 (c_X11_isTool hO m r a H hs hH hH4) hs.k rfl wd_1680 wd_1682 wp_31 wd_16 wd_1683 ⟨by decide, by decide, (by decide +kernel : (parseMethodDescriptor yX11_isTool.desc).map (fun d => d.parameters.length) = some 1)⟩ rfl (Nat.le_of_ble_eq_true rfl) ⟨⟨by decide, by decide⟩, by decide, by decide⟩ (fun E m9 h9 => h9.elim) (fun r9 m9 h9 => ?_)
  obtain ⟨rfl, h8⟩ := h9
  replace h8 := h8.symm
  subst h8
  show mV g x _ _ _ _ _ [.int (X11_isTool_r g m r a H), .ref r]
  refine v_if_eq (tgt := 13) (pc := 6) hX dX11_weight_6 (by decide) (fun c1 => ?_) (fun c1 => ?_)
  ·
    refine v_iconst (v := 1) (pc := 13) hX dX11_weight_13 (by decide) ?_
    refine v_put (m1 := (sI m 384 r 1)) (pc := 14) hX dX11_weight_14 hs.k (ci := 12) (r := vwC12) rfl 0 (by decide) wd_1506 rfl rfl rfl rfl ?_
    refine v_aload_n (pc := 17) hX dX11_weight_17 rfl ?_
    refine v_get (v := .int 1) (pc := 18) hX dX11_weight_18 (by simp only [mm]; exact hs.k) (ci := 12) (r := vwC12) rfl 0 (by decide) wd_1506 (by show Value.int _ = Value.int _; simp [mm]) ?_
    refine v_if_ne (tgt := 32) (pc := 21) hX dX11_weight_21 (by decide) (fun c2 => ?_) (fun c2 => ?_)
    ·
      refine v_iconst (v := 0) (pc := 32) hX dX11_weight_32 (by decide) ?_
      exact v_iret (pc := 33) hX hZ dX11_weight_33 (by decide) (by decide) ⟨(by rw [X11_weight_r, if_pos c1]), (by rw [X11_weight_m, if_pos c1])⟩
    · exact absurd c2 (by decide)
  ·
    refine v_iconst (v := 0) (pc := 9) hX dX11_weight_9 (by decide) ?_
    refine v_goto (tgt := 14) (pc := 10) hX dX11_weight_10 (by decide) ?_
    refine v_put (m1 := (sI m 384 r 0)) (pc := 14) hX dX11_weight_14 hs.k (ci := 12) (r := vwC12) rfl 0 (by decide) wd_1506 rfl rfl rfl rfl ?_
    refine v_aload_n (pc := 17) hX dX11_weight_17 rfl ?_
    refine v_get (v := .int 0) (pc := 18) hX dX11_weight_18 (by simp only [mm]; exact hs.k) (ci := 12) (r := vwC12) rfl 0 (by decide) wd_1506 (by show Value.int _ = Value.int _; simp [mm]) ?_
    refine v_if_ne (tgt := 32) (pc := 21) hX dX11_weight_21 (by decide) (fun c3 => ?_) (fun c3 => ?_)
    · exact absurd (by decide) c3
    ·
      refine v_aload_n (pc := 24) hX dX11_weight_24 rfl ?_
      refine v_iload_n (pc := 25) hX dX11_weight_25 rfl ?_
      refine v_callV (z := yX11_weighs) (pc := 26) hX dX11_weight_26 (c_X11_weighs hO ((sI m 384 r 0)) r a  (hs.to (by simp only [mm]) (by simp only [mm])) (tool_ok (g := g) (m := m) (r := r) (by assumption) hH4)) (by simp only [mm]; exact hs.k) rfl wd_1692 wd_1694 wp_34 wd_16 wd_1695 ⟨by decide, by decide, (by decide +kernel : (parseMethodDescriptor yX11_weighs.desc).map (fun d => d.parameters.length) = some 1)⟩ rfl (Nat.le_of_ble_eq_true rfl) ⟨⟨by decide, by decide⟩, by decide, by decide⟩ (fun E m9 h9 => h9.elim) (fun r9 m9 h9 => ?_)
      obtain ⟨rfl, h8⟩ := h9
      replace h8 := h8.symm
      subst h8
      show mV g x _ _ _ _ _ [.int (X11_weighs_r g ((sI m 384 r 0)) r a )]
      refine v_goto (tgt := 33) (pc := 29) hX dX11_weight_29 (by decide) ?_
      exact v_iret (pc := 33) hX hZ dX11_weight_33 (by decide) (by decide) ⟨(by rw [X11_weight_r, if_neg c1]), (by rw [X11_weight_m, if_neg c1])⟩
def X11_wear_r (g : mG) (m : mM) (r : Nat) (a : Int32) (H : Nat) : Int32 := if (X11_isTool_r g m r a H) = 0 then 0 else (X11_worn_r g ((sI m 384 r 0)) r a )
def X11_wear_m (g : mG) (m : mM) (r : Nat) (a : Int32) (H : Nat) : mM := if (X11_isTool_r g m r a H) = 0 then ((sI m 384 r 1)) else ((sI m 384 r 0))
theorem kK_X11_wear (g : mG) (m : mM) (r : Nat) (a : Int32) (H : Nat) : gK (X11_wear_m g m r a H) = gK m := by
  unfold X11_wear_m
  repeat' split
  all_goals simp only [mm]
theorem kN_X11_wear (g : mG) (m : mM) (r : Nat) (a : Int32) (H : Nat) : gN (X11_wear_m g m r a H) = gN m := by
  unfold X11_wear_m
  repeat' split
  all_goals simp only [mm]
theorem kI_X11_wear (g : mG) (m : mM) (r : Nat) (a : Int32) (H : Nat) (k a9 : Nat) (h0 : k ≠ 384) : gI (X11_wear_m g m r a H) k a9 = gI m k a9 := by
  unfold X11_wear_m
  repeat' split
  all_goals simp [mm, h0]
theorem kJ_X11_wear (g : mG) (m : mM) (r : Nat) (a : Int32) (H : Nat) : gJ (X11_wear_m g m r a H) = gJ m := by
  unfold X11_wear_m
  repeat' split
  all_goals simp only [mm]
theorem kR_X11_wear (g : mG) (m : mM) (r : Nat) (a : Int32) (H : Nat) : gR (X11_wear_m g m r a H) = gR m := by
  unfold X11_wear_m
  repeat' split
  all_goals simp only [mm]
theorem kA_X11_wear (g : mG) (m : mM) (r : Nat) (a : Int32) (H : Nat) : gA (X11_wear_m g m r a H) = gA m := by
  unfold X11_wear_m
  repeat' split
  all_goals simp only [mm]
theorem kQ_X11_wear (g : mG) (m : mM) (r : Nat) (a : Int32) (H : Nat) : gQ (X11_wear_m g m r a H) = gQ m := by
  unfold X11_wear_m
  repeat' split
  all_goals simp only [mm]
theorem kL_X11_wear (g : mG) (m : mM) (r : Nat) (a : Int32) (H : Nat) : gL (X11_wear_m g m r a H) = gL m := by
  unfold X11_wear_m
  repeat' split
  all_goals simp only [mm]
theorem kD_X11_wear (g : mG) (m : mM) (r : Nat) (a : Int32) (H : Nat) : gD (X11_wear_m g m r a H) = gD m := by
  unfold X11_wear_m
  repeat' split
  all_goals simp only [mm]
set_option maxHeartbeats 4000000 in
set_option maxRecDepth 100000 in
theorem c_X11_wear {l : Launch} {g : mG} (hO : mO l g) (m : mM) (r : Nat) (a : Int32) (H : Nat) (hs : SR m r) (hH : gA m (r + 1) 6 = nI H) (hH4 : H ≤ 4) : mT l g yX11_wear (.code yX11_wear cX11_wear 2 (Option.some FieldType.int)) 3 63 0 0 [.ref r, .int a] m (fun u m' => u = some (.int (X11_wear_r g m r a H)) ∧ m' = X11_wear_m g m r a H) nX := by
  refine mT_of hO (by decide) (Nat.le_of_ble_eq_true rfl) (fun x hX hZ => ?_)
  show mV g x m 0 0 0 [(0, .ref r), (1, .int a)] []
  refine v_aload_n (pc := 0) hX dX11_wear_0 rfl ?_
  refine v_aload_n (pc := 1) hX dX11_wear_1 rfl ?_
  refine v_iload_n (pc := 2) hX dX11_wear_2 rfl ?_
  refine v_callV (z := yX11_isTool) (pc := 3) hX dX11_wear_3 (c_X11_isTool hO m r a H hs hH hH4) hs.k rfl wd_1680 wd_1682 wp_31 wd_16 wd_1683 ⟨by decide, by decide, (by decide +kernel : (parseMethodDescriptor yX11_isTool.desc).map (fun d => d.parameters.length) = some 1)⟩ rfl (Nat.le_of_ble_eq_true rfl) ⟨⟨by decide, by decide⟩, by decide, by decide⟩ (fun E m9 h9 => h9.elim) (fun r9 m9 h9 => ?_)
  obtain ⟨rfl, h8⟩ := h9
  replace h8 := h8.symm
  subst h8
  show mV g x _ _ _ _ _ [.int (X11_isTool_r g m r a H), .ref r]
  refine v_if_eq (tgt := 13) (pc := 6) hX dX11_wear_6 (by decide) (fun c1 => ?_) (fun c1 => ?_)
  ·
    refine v_iconst (v := 1) (pc := 13) hX dX11_wear_13 (by decide) ?_
    refine v_put (m1 := (sI m 384 r 1)) (pc := 14) hX dX11_wear_14 hs.k (ci := 12) (r := vwC12) rfl 0 (by decide) wd_1506 rfl rfl rfl rfl ?_
    refine v_aload_n (pc := 17) hX dX11_wear_17 rfl ?_
    refine v_get (v := .int 1) (pc := 18) hX dX11_wear_18 (by simp only [mm]; exact hs.k) (ci := 12) (r := vwC12) rfl 0 (by decide) wd_1506 (by show Value.int _ = Value.int _; simp [mm]) ?_
    refine v_if_ne (tgt := 32) (pc := 21) hX dX11_wear_21 (by decide) (fun c2 => ?_) (fun c2 => ?_)
    ·
      refine v_iconst (v := 0) (pc := 32) hX dX11_wear_32 (by decide) ?_
      exact v_iret (pc := 33) hX hZ dX11_wear_33 (by decide) (by decide) ⟨(by rw [X11_wear_r, if_pos c1]), (by rw [X11_wear_m, if_pos c1])⟩
    · exact absurd c2 (by decide)
  ·
    refine v_iconst (v := 0) (pc := 9) hX dX11_wear_9 (by decide) ?_
    refine v_goto (tgt := 14) (pc := 10) hX dX11_wear_10 (by decide) ?_
    refine v_put (m1 := (sI m 384 r 0)) (pc := 14) hX dX11_wear_14 hs.k (ci := 12) (r := vwC12) rfl 0 (by decide) wd_1506 rfl rfl rfl rfl ?_
    refine v_aload_n (pc := 17) hX dX11_wear_17 rfl ?_
    refine v_get (v := .int 0) (pc := 18) hX dX11_wear_18 (by simp only [mm]; exact hs.k) (ci := 12) (r := vwC12) rfl 0 (by decide) wd_1506 (by show Value.int _ = Value.int _; simp [mm]) ?_
    refine v_if_ne (tgt := 32) (pc := 21) hX dX11_wear_21 (by decide) (fun c3 => ?_) (fun c3 => ?_)
    · exact absurd (by decide) c3
    ·
      refine v_aload_n (pc := 24) hX dX11_wear_24 rfl ?_
      refine v_iload_n (pc := 25) hX dX11_wear_25 rfl ?_
      refine v_callV (z := yX11_worn) (pc := 26) hX dX11_wear_26 (c_X11_worn hO ((sI m 384 r 0)) r a  (hs.to (by simp only [mm]) (by simp only [mm])) (tool_ok (g := g) (m := m) (r := r) (by assumption) hH4)) (by simp only [mm]; exact hs.k) rfl wd_1684 wd_1686 wp_32 wd_16 wd_1687 ⟨by decide, by decide, (by decide +kernel : (parseMethodDescriptor yX11_worn.desc).map (fun d => d.parameters.length) = some 1)⟩ rfl (Nat.le_of_ble_eq_true rfl) ⟨⟨by decide, by decide⟩, by decide, by decide⟩ (fun E m9 h9 => h9.elim) (fun r9 m9 h9 => ?_)
      obtain ⟨rfl, h8⟩ := h9
      replace h8 := h8.symm
      subst h8
      show mV g x _ _ _ _ _ [.int (X11_worn_r g ((sI m 384 r 0)) r a )]
      refine v_goto (tgt := 33) (pc := 29) hX dX11_wear_29 (by decide) ?_
      exact v_iret (pc := 33) hX hZ dX11_wear_33 (by decide) (by decide) ⟨(by rw [X11_wear_r, if_neg c1]), (by rw [X11_wear_m, if_neg c1])⟩
