section
variable {g : mG} {r : Nat}
theorem cs_l : ∀ (n j : Nat) (m : mM), RI m r → RI (X11_commands_l1 g r n j m).2 r := by
  intro n
  induction n with
  | zero =>
    intro j m h
    rw [X11_commands_l1]
    repeat' split
    all_goals exact h
  | succ n ih =>
    intro j m h
    rw [X11_commands_l1]
    have h1 : RI (X11_mark_m g m r 59) r := mk_RI h
    repeat' split
    all_goals first | exact h | exact ih _ _ h1 | skip
    all_goals exact ih _ _ (cd_RI h1 (by simp only [mm, kA_X11_mark]; exact h.1.1) h.1.2 h.2.2)
theorem cs_RI {m : mM} (h : RI m r) : RI (X11_commands_m g m r) r := cs_l _ _ _ (cd_RI (m := sI (sI m 401 r 0) 404 r 0) h h.1.1 h.1.2 h.2.2)
end
def X11_run_r (g : mG) (m : mM) (r : Nat) (C : Nat) : Int32 := if (gI (X11_commands_m g ((sI (sI (sI (X11_begins_m g m r ) 402 r (gI (X11_begins_m g m r ) 400 r)) 400 r 0) 405 r 0)) r ) 404 r) = 0 then (if (gI (X11_commands_m g ((sI (X11_commands_m g ((sI (sI (sI (X11_begins_m g m r ) 402 r (gI (X11_begins_m g m r ) 400 r)) 400 r 0) 405 r 0)) r ) 405 r 1)) r ) 384 r) = 0 then (X11_ends_r g ((X11_commands_m g ((sI (X11_commands_m g ((sI (sI (sI (X11_begins_m g m r ) 402 r (gI (X11_begins_m g m r ) 400 r)) 400 r 0) 405 r 0)) r ) 405 r 1)) r )) r (X11_commands_r g ((sI (X11_commands_m g ((sI (sI (sI (X11_begins_m g m r ) 402 r (gI (X11_begins_m g m r ) 400 r)) 400 r 0) 405 r 0)) r ) 405 r 1)) r ) C) else (X11_ends_r g ((sI (sI (X11_commands_m g ((sI (X11_commands_m g ((sI (sI (sI (X11_begins_m g m r ) 402 r (gI (X11_begins_m g m r ) 400 r)) 400 r 0) 405 r 0)) r ) 405 r 1)) r ) 387 r ((X11_commands_r g ((sI (X11_commands_m g ((sI (sI (sI (X11_begins_m g m r ) 402 r (gI (X11_begins_m g m r ) 400 r)) 400 r 0) 405 r 0)) r ) 405 r 1)) r ) - 1)) 384 r 2)) r (X11_commands_r g ((sI (X11_commands_m g ((sI (sI (sI (X11_begins_m g m r ) 402 r (gI (X11_begins_m g m r ) 400 r)) 400 r 0) 405 r 0)) r ) 405 r 1)) r ) C)) else 0
def X11_run_m (g : mG) (m : mM) (r : Nat) (C : Nat) : mM := if (gI (X11_commands_m g ((sI (sI (sI (X11_begins_m g m r ) 402 r (gI (X11_begins_m g m r ) 400 r)) 400 r 0) 405 r 0)) r ) 404 r) = 0 then (if (gI (X11_commands_m g ((sI (X11_commands_m g ((sI (sI (sI (X11_begins_m g m r ) 402 r (gI (X11_begins_m g m r ) 400 r)) 400 r 0) 405 r 0)) r ) 405 r 1)) r ) 384 r) = 0 then ((X11_ends_m g ((X11_commands_m g ((sI (X11_commands_m g ((sI (sI (sI (X11_begins_m g m r ) 402 r (gI (X11_begins_m g m r ) 400 r)) 400 r 0) 405 r 0)) r ) 405 r 1)) r )) r (X11_commands_r g ((sI (X11_commands_m g ((sI (sI (sI (X11_begins_m g m r ) 402 r (gI (X11_begins_m g m r ) 400 r)) 400 r 0) 405 r 0)) r ) 405 r 1)) r ) C)) else ((X11_ends_m g ((sI (sI (X11_commands_m g ((sI (X11_commands_m g ((sI (sI (sI (X11_begins_m g m r ) 402 r (gI (X11_begins_m g m r ) 400 r)) 400 r 0) 405 r 0)) r ) 405 r 1)) r ) 387 r ((X11_commands_r g ((sI (X11_commands_m g ((sI (sI (sI (X11_begins_m g m r ) 402 r (gI (X11_begins_m g m r ) 400 r)) 400 r 0) 405 r 0)) r ) 405 r 1)) r ) - 1)) 384 r 2)) r (X11_commands_r g ((sI (X11_commands_m g ((sI (sI (sI (X11_begins_m g m r ) 402 r (gI (X11_begins_m g m r ) 400 r)) 400 r 0) 405 r 0)) r ) 405 r 1)) r ) C))) else ((sI (sI (X11_commands_m g ((sI (sI (sI (X11_begins_m g m r ) 402 r (gI (X11_begins_m g m r ) 400 r)) 400 r 0) 405 r 0)) r ) 386 r (gI (X11_commands_m g ((sI (sI (sI (X11_begins_m g m r ) 402 r (gI (X11_begins_m g m r ) 400 r)) 400 r 0) 405 r 0)) r ) 401 r)) 384 r 1))
theorem kK_X11_run (g : mG) (m : mM) (r : Nat) (C : Nat) : gK (X11_run_m g m r C) = gK m := by
  unfold X11_run_m
  repeat' split
  all_goals simp only [mm, kK_X11_begins, kK_X11_commands, kK_X11_ends]
theorem kN_X11_run (g : mG) (m : mM) (r : Nat) (C : Nat) : gN (X11_run_m g m r C) = gN m := by
  unfold X11_run_m
  repeat' split
  all_goals simp only [mm, kN_X11_begins, kN_X11_commands, kN_X11_ends]
theorem kI_X11_run (g : mG) (m : mM) (r : Nat) (C : Nat) (k a9 : Nat) (h0 : k ≠ 384) (h1 : k ≠ 385) (h2 : k ≠ 386) (h3 : k ≠ 387) (h4 : k ≠ 400) (h5 : k ≠ 401) (h6 : k ≠ 402) (h7 : k ≠ 404) (h8 : k ≠ 405) : gI (X11_run_m g m r C) k a9 = gI m k a9 := by
  unfold X11_run_m
  repeat' split
  all_goals simp [mm, kI_X11_begins, kI_X11_commands, kI_X11_ends, h0, h1, h2, h3, h4, h5, h6, h7, h8]
theorem kJ_X11_run (g : mG) (m : mM) (r : Nat) (C : Nat) : gJ (X11_run_m g m r C) = gJ m := by
  unfold X11_run_m
  repeat' split
  all_goals simp only [mm, kJ_X11_begins, kJ_X11_commands, kJ_X11_ends]
theorem kR_X11_run (g : mG) (m : mM) (r : Nat) (C : Nat) : gR (X11_run_m g m r C) = gR m := by
  unfold X11_run_m
  repeat' split
  all_goals simp only [mm, kR_X11_begins, kR_X11_commands, kR_X11_ends]
theorem kQ_X11_run (g : mG) (m : mM) (r : Nat) (C : Nat) : gQ (X11_run_m g m r C) = gQ m := by
  unfold X11_run_m
  repeat' split
  all_goals simp only [mm, kQ_X11_begins, kQ_X11_commands, kQ_X11_ends]
theorem kL_X11_run (g : mG) (m : mM) (r : Nat) (C : Nat) : gL (X11_run_m g m r C) = gL m := by
  unfold X11_run_m
  repeat' split
  all_goals simp only [mm, kL_X11_begins, kL_X11_commands, kL_X11_ends]
theorem kD_X11_run (g : mG) (m : mM) (r : Nat) (C : Nat) : gD (X11_run_m g m r C) = gD m := by
  unfold X11_run_m
  repeat' split
  all_goals simp only [mm, kD_X11_begins, kD_X11_commands, kD_X11_ends]
theorem kA_X11_run (g : mG) (m : mM) (r : Nat) (C : Nat) (c9 i9 : Nat) (h0 : c9 ≠ r + 1) (h1 : c9 ≠ r + 2) (h2 : c9 ≠ r + 4) (h3 : c9 ≠ r + 8) (h4 : c9 ≠ r + 9) : gA (X11_run_m g m r C) c9 i9 = gA m c9 i9 := by
  unfold X11_run_m
  repeat' split
  all_goals simp [mm, kA_X11_begins, kA_X11_commands, kA_X11_ends, h0, h1, h2, h3, h4]
set_option maxHeartbeats 4000000 in
set_option maxRecDepth 100000 in
theorem c_X11_run {l : Launch} {g : mG} (hO : mO l g) (m : mM) (r : Nat) (C : Nat) (hs : SR m r) (hT : okI (gI m 400 r) 60) (hwd : WD m r) (hRI : RI m r) (hC : gI m 385 r = nI C) (hC8 : C ≤ 8) : mT l g yX11_run (.code yX11_run cX11_run 2 (Option.some FieldType.int)) 7 155 0 0 [.ref r] m (fun u m' => u = some (.int (X11_run_r g m r C)) ∧ m' = X11_run_m g m r C) nX := by
  refine mT_of hO (by decide) (Nat.le_of_ble_eq_true rfl) (fun x hX hZ => ?_)
  show mV g x m 0 0 0 [(0, .ref r)] []
  refine v_aload_n (pc := 0) hX dX11_run_0 rfl ?_
  refine v_callV (z := yX11_begins) (pc := 1) hX dX11_run_1 (c_X11_begins hO m r  hs) hs.k rfl wd_1581 wd_1583 wp_17 wd_16 wd_1584 ⟨by decide, by decide, (by decide +kernel : (parseMethodDescriptor yX11_begins.desc).map (fun d => d.parameters.length) = some 0)⟩ rfl (Nat.le_of_ble_eq_true rfl) ⟨⟨by decide, by decide⟩, by decide, by decide⟩ (fun E m9 h9 => h9.elim) (fun r9 m9 h9 => ?_)
  obtain ⟨rfl, h8⟩ := h9
  replace h8 := h8.symm
  subst h8
  show mV g x _ _ _ _ _ []
  refine v_aload_n (pc := 4) hX dX11_run_4 rfl ?_
  refine v_aload_n (pc := 5) hX dX11_run_5 rfl ?_
  refine v_get (v := .int (gI (X11_begins_m g m r ) 400 r)) (pc := 6) hX dX11_run_6 (by simp only [mm, kK_X11_begins]; exact hs.k) (ci := 12) (r := vwC12) rfl 16 (by decide) wd_1522 rfl ?_
  refine v_put (m1 := (sI (X11_begins_m g m r ) 402 r (gI (X11_begins_m g m r ) 400 r))) (pc := 9) hX dX11_run_9 (by simp only [mm, kK_X11_begins]; exact hs.k) (ci := 12) (r := vwC12) rfl 18 (by decide) wd_1524 rfl rfl rfl rfl ?_
  refine v_aload_n (pc := 12) hX dX11_run_12 rfl ?_
  refine v_iconst (v := 0) (pc := 13) hX dX11_run_13 (by decide) ?_
  refine v_put (m1 := (sI (sI (X11_begins_m g m r ) 402 r (gI (X11_begins_m g m r ) 400 r)) 400 r 0)) (pc := 14) hX dX11_run_14 (by simp only [mm, kK_X11_begins]; exact hs.k) (ci := 12) (r := vwC12) rfl 16 (by decide) wd_1522 rfl rfl rfl rfl ?_
  refine v_aload_n (pc := 17) hX dX11_run_17 rfl ?_
  refine v_iconst (v := 0) (pc := 18) hX dX11_run_18 (by decide) ?_
  refine v_put (m1 := (sI (sI (sI (X11_begins_m g m r ) 402 r (gI (X11_begins_m g m r ) 400 r)) 400 r 0) 405 r 0)) (pc := 19) hX dX11_run_19 (by simp only [mm, kK_X11_begins]; exact hs.k) (ci := 12) (r := vwC12) rfl 21 (by decide) wd_1527 rfl (by decide) (by decide) rfl ?_
  refine v_aload_n (pc := 22) hX dX11_run_22 rfl ?_
  refine v_callV (z := yX11_commands) (pc := 23) hX dX11_run_23 (c_X11_commands hO ((sI (sI (sI (X11_begins_m g m r ) 402 r (gI (X11_begins_m g m r ) 400 r)) 400 r 0) 405 r 0)) r  (hs.to (by simp only [mm, kK_X11_begins]) (by simp only [mm, kR_X11_begins])) (by simp [mm, kI_X11_begins]; exact hT) ⟨fun j h => by simp [mm, kA_X11_begins]; exact hwd.1 j h, fun j h => by simp [mm, kA_X11_begins]; exact hwd.2 j h⟩ (RI.sI (RI.sI (RI.sI (RI.cg hRI (kA_X11_begins g m r (r + 1) 5 (by omega)) (kA_X11_begins g m r (r + 1) 6 (by omega))))))) (by simp only [mm, kK_X11_begins]; exact hs.k) rfl wd_1885 wd_1887 wp_45 wd_16 wd_1888 ⟨by decide, by decide, (by decide +kernel : (parseMethodDescriptor yX11_commands.desc).map (fun d => d.parameters.length) = some 0)⟩ rfl (Nat.le_of_ble_eq_true rfl) ⟨⟨by decide, by decide⟩, by decide, by decide⟩ (fun E m9 h9 => h9.elim) (fun r9 m9 h9 => ?_)
  obtain ⟨rfl, h8⟩ := h9
  replace h8 := h8.symm
  subst h8
  show mV g x _ _ _ _ _ [.int (X11_commands_r g ((sI (sI (sI (X11_begins_m g m r ) 402 r (gI (X11_begins_m g m r ) 400 r)) 400 r 0) 405 r 0)) r )]
  refine v_istore_n (pc := 26) hX dX11_run_26 (by decide) rfl ?_
  refine v_aload_n (pc := 27) hX dX11_run_27 rfl ?_
  refine v_get (v := .int (gI (X11_commands_m g ((sI (sI (sI (X11_begins_m g m r ) 402 r (gI (X11_begins_m g m r ) 400 r)) 400 r 0) 405 r 0)) r ) 404 r)) (pc := 28) hX dX11_run_28 (by simp only [mm, kK_X11_begins, kK_X11_commands]; exact hs.k) (ci := 12) (r := vwC12) rfl 20 (by decide) wd_1526 rfl ?_
  refine v_if_eq (tgt := 48) (pc := 31) hX dX11_run_31 (by decide) (fun c1 => ?_) (fun c1 => ?_)
  ·
    refine v_aload_n (pc := 48) hX dX11_run_48 rfl ?_
    refine v_iconst (v := 1) (pc := 49) hX dX11_run_49 (by decide) ?_
    refine v_put (m1 := (sI (X11_commands_m g ((sI (sI (sI (X11_begins_m g m r ) 402 r (gI (X11_begins_m g m r ) 400 r)) 400 r 0) 405 r 0)) r ) 405 r 1)) (pc := 50) hX dX11_run_50 (by simp only [mm, kK_X11_begins, kK_X11_commands]; exact hs.k) (ci := 12) (r := vwC12) rfl 21 (by decide) wd_1527 rfl (by decide) (by decide) rfl ?_
    refine v_aload_n (pc := 53) hX dX11_run_53 rfl ?_
    refine v_callV (z := yX11_commands) (pc := 54) hX dX11_run_54 (c_X11_commands hO ((sI (X11_commands_m g ((sI (sI (sI (X11_begins_m g m r ) 402 r (gI (X11_begins_m g m r ) 400 r)) 400 r 0) 405 r 0)) r ) 405 r 1)) r  (hs.to (by simp only [mm, kK_X11_begins, kK_X11_commands]) (by simp only [mm, kR_X11_begins, kR_X11_commands])) (by simp [mm, kI_X11_begins, kI_X11_commands]; exact hT) ⟨fun j h => by simp [mm, kA_X11_begins, kA_X11_commands]; exact hwd.1 j h, fun j h => by simp [mm, kA_X11_begins, kA_X11_commands]; exact hwd.2 j h⟩ (RI.sI (cs_RI (g := g) (RI.sI (RI.sI (RI.sI (RI.cg hRI (kA_X11_begins g m r (r + 1) 5 (by omega)) (kA_X11_begins g m r (r + 1) 6 (by omega))))))))) (by simp only [mm, kK_X11_begins, kK_X11_commands]; exact hs.k) rfl wd_1885 wd_1887 wp_45 wd_16 wd_1888 ⟨by decide, by decide, (by decide +kernel : (parseMethodDescriptor yX11_commands.desc).map (fun d => d.parameters.length) = some 0)⟩ rfl (Nat.le_of_ble_eq_true rfl) ⟨⟨by decide, by decide⟩, by decide, by decide⟩ (fun E m9 h9 => h9.elim) (fun r9 m9 h9 => ?_)
    obtain ⟨rfl, h8⟩ := h9
    replace h8 := h8.symm
    subst h8
    show mV g x _ _ _ _ _ [.int (X11_commands_r g ((sI (X11_commands_m g ((sI (sI (sI (X11_begins_m g m r ) 402 r (gI (X11_begins_m g m r ) 400 r)) 400 r 0) 405 r 0)) r ) 405 r 1)) r )]
    refine v_istore_n (pc := 57) hX dX11_run_57 (by decide) rfl ?_
    refine v_aload_n (pc := 58) hX dX11_run_58 rfl ?_
    refine v_get (v := .int (gI (X11_commands_m g ((sI (X11_commands_m g ((sI (sI (sI (X11_begins_m g m r ) 402 r (gI (X11_begins_m g m r ) 400 r)) 400 r 0) 405 r 0)) r ) 405 r 1)) r ) 384 r)) (pc := 59) hX dX11_run_59 (by simp only [mm, kK_X11_begins, kK_X11_commands]; exact hs.k) (ci := 12) (r := vwC12) rfl 0 (by decide) wd_1506 rfl ?_
    refine v_if_eq (tgt := 77) (pc := 62) hX dX11_run_62 (by decide) (fun c2 => ?_) (fun c2 => ?_)
    ·
      refine v_aload_n (pc := 77) hX dX11_run_77 rfl ?_
      refine v_iload_n (pc := 78) hX dX11_run_78 rfl ?_
      refine v_callV (z := yX11_ends) (pc := 79) hX dX11_run_79 (c_X11_ends hO ((X11_commands_m g ((sI (X11_commands_m g ((sI (sI (sI (X11_begins_m g m r ) 402 r (gI (X11_begins_m g m r ) 400 r)) 400 r 0) 405 r 0)) r ) 405 r 1)) r )) r (X11_commands_r g ((sI (X11_commands_m g ((sI (sI (sI (X11_begins_m g m r ) 402 r (gI (X11_begins_m g m r ) 400 r)) 400 r 0) 405 r 0)) r ) 405 r 1)) r ) C (hs.to (by simp only [mm, kK_X11_begins, kK_X11_commands]) (by simp only [mm, kR_X11_begins, kR_X11_commands])) (by simp [mm, kI_X11_begins, kI_X11_commands, hC]) hC8) (by simp only [mm, kK_X11_begins, kK_X11_commands]; exact hs.k) rfl wd_1599 wd_1601 wp_20 wd_16 wd_1602 ⟨by decide, by decide, (by decide +kernel : (parseMethodDescriptor yX11_ends.desc).map (fun d => d.parameters.length) = some 1)⟩ rfl (Nat.le_of_ble_eq_true rfl) ⟨⟨by decide, by decide⟩, by decide, by decide⟩ (fun E m9 h9 => h9.elim) (fun r9 m9 h9 => ?_)
      obtain ⟨rfl, h8⟩ := h9
      replace h8 := h8.symm
      subst h8
      show mV g x _ _ _ _ _ [.int (X11_ends_r g ((X11_commands_m g ((sI (X11_commands_m g ((sI (sI (sI (X11_begins_m g m r ) 402 r (gI (X11_begins_m g m r ) 400 r)) 400 r 0) 405 r 0)) r ) 405 r 1)) r )) r (X11_commands_r g ((sI (X11_commands_m g ((sI (sI (sI (X11_begins_m g m r ) 402 r (gI (X11_begins_m g m r ) 400 r)) 400 r 0) 405 r 0)) r ) 405 r 1)) r ) C)]
      exact v_iret (pc := 82) hX hZ dX11_run_82 (by decide) (by decide) ⟨(by rw [X11_run_r, if_pos c1, if_pos c2]), (by rw [X11_run_m, if_pos c1, if_pos c2])⟩
    ·
      refine v_aload_n (pc := 65) hX dX11_run_65 rfl ?_
      refine v_iload_n (pc := 66) hX dX11_run_66 rfl ?_
      refine v_iconst (v := 1) (pc := 67) hX dX11_run_67 (by decide) ?_
      refine v_isub (pc := 68) hX dX11_run_68 ?_
      refine v_put (m1 := (sI (X11_commands_m g ((sI (X11_commands_m g ((sI (sI (sI (X11_begins_m g m r ) 402 r (gI (X11_begins_m g m r ) 400 r)) 400 r 0) 405 r 0)) r ) 405 r 1)) r ) 387 r ((X11_commands_r g ((sI (X11_commands_m g ((sI (sI (sI (X11_begins_m g m r ) 402 r (gI (X11_begins_m g m r ) 400 r)) 400 r 0) 405 r 0)) r ) 405 r 1)) r ) - 1))) (pc := 69) hX dX11_run_69 (by simp only [mm, kK_X11_begins, kK_X11_commands]; exact hs.k) (ci := 12) (r := vwC12) rfl 3 (by decide) wd_1509 rfl rfl rfl rfl ?_
      refine v_aload_n (pc := 72) hX dX11_run_72 rfl ?_
      refine v_iconst (v := 2) (pc := 73) hX dX11_run_73 (by decide) ?_
      refine v_put (m1 := (sI (sI (X11_commands_m g ((sI (X11_commands_m g ((sI (sI (sI (X11_begins_m g m r ) 402 r (gI (X11_begins_m g m r ) 400 r)) 400 r 0) 405 r 0)) r ) 405 r 1)) r ) 387 r ((X11_commands_r g ((sI (X11_commands_m g ((sI (sI (sI (X11_begins_m g m r ) 402 r (gI (X11_begins_m g m r ) 400 r)) 400 r 0) 405 r 0)) r ) 405 r 1)) r ) - 1)) 384 r 2)) (pc := 74) hX dX11_run_74 (by simp only [mm, kK_X11_begins, kK_X11_commands]; exact hs.k) (ci := 12) (r := vwC12) rfl 0 (by decide) wd_1506 rfl rfl rfl rfl ?_
      refine v_aload_n (pc := 77) hX dX11_run_77 rfl ?_
      refine v_iload_n (pc := 78) hX dX11_run_78 rfl ?_
      refine v_callV (z := yX11_ends) (pc := 79) hX dX11_run_79 (c_X11_ends hO ((sI (sI (X11_commands_m g ((sI (X11_commands_m g ((sI (sI (sI (X11_begins_m g m r ) 402 r (gI (X11_begins_m g m r ) 400 r)) 400 r 0) 405 r 0)) r ) 405 r 1)) r ) 387 r ((X11_commands_r g ((sI (X11_commands_m g ((sI (sI (sI (X11_begins_m g m r ) 402 r (gI (X11_begins_m g m r ) 400 r)) 400 r 0) 405 r 0)) r ) 405 r 1)) r ) - 1)) 384 r 2)) r (X11_commands_r g ((sI (X11_commands_m g ((sI (sI (sI (X11_begins_m g m r ) 402 r (gI (X11_begins_m g m r ) 400 r)) 400 r 0) 405 r 0)) r ) 405 r 1)) r ) C (hs.to (by simp only [mm, kK_X11_begins, kK_X11_commands]) (by simp only [mm, kR_X11_begins, kR_X11_commands])) (by simp [mm, kI_X11_begins, kI_X11_commands, hC]) hC8) (by simp only [mm, kK_X11_begins, kK_X11_commands]; exact hs.k) rfl wd_1599 wd_1601 wp_20 wd_16 wd_1602 ⟨by decide, by decide, (by decide +kernel : (parseMethodDescriptor yX11_ends.desc).map (fun d => d.parameters.length) = some 1)⟩ rfl (Nat.le_of_ble_eq_true rfl) ⟨⟨by decide, by decide⟩, by decide, by decide⟩ (fun E m9 h9 => h9.elim) (fun r9 m9 h9 => ?_)
      obtain ⟨rfl, h8⟩ := h9
      replace h8 := h8.symm
      subst h8
      show mV g x _ _ _ _ _ [.int (X11_ends_r g ((sI (sI (X11_commands_m g ((sI (X11_commands_m g ((sI (sI (sI (X11_begins_m g m r ) 402 r (gI (X11_begins_m g m r ) 400 r)) 400 r 0) 405 r 0)) r ) 405 r 1)) r ) 387 r ((X11_commands_r g ((sI (X11_commands_m g ((sI (sI (sI (X11_begins_m g m r ) 402 r (gI (X11_begins_m g m r ) 400 r)) 400 r 0) 405 r 0)) r ) 405 r 1)) r ) - 1)) 384 r 2)) r (X11_commands_r g ((sI (X11_commands_m g ((sI (sI (sI (X11_begins_m g m r ) 402 r (gI (X11_begins_m g m r ) 400 r)) 400 r 0) 405 r 0)) r ) 405 r 1)) r ) C)]
      exact v_iret (pc := 82) hX hZ dX11_run_82 (by decide) (by decide) ⟨(by rw [X11_run_r, if_pos c1, if_neg c2]), (by rw [X11_run_m, if_pos c1, if_neg c2])⟩
  ·
    refine v_aload_n (pc := 34) hX dX11_run_34 rfl ?_
    refine v_aload_n (pc := 35) hX dX11_run_35 rfl ?_
    refine v_get (v := .int (gI (X11_commands_m g ((sI (sI (sI (X11_begins_m g m r ) 402 r (gI (X11_begins_m g m r ) 400 r)) 400 r 0) 405 r 0)) r ) 401 r)) (pc := 36) hX dX11_run_36 (by simp only [mm, kK_X11_begins, kK_X11_commands]; exact hs.k) (ci := 12) (r := vwC12) rfl 17 (by decide) wd_1523 rfl ?_
    refine v_put (m1 := (sI (X11_commands_m g ((sI (sI (sI (X11_begins_m g m r ) 402 r (gI (X11_begins_m g m r ) 400 r)) 400 r 0) 405 r 0)) r ) 386 r (gI (X11_commands_m g ((sI (sI (sI (X11_begins_m g m r ) 402 r (gI (X11_begins_m g m r ) 400 r)) 400 r 0) 405 r 0)) r ) 401 r))) (pc := 39) hX dX11_run_39 (by simp only [mm, kK_X11_begins, kK_X11_commands]; exact hs.k) (ci := 12) (r := vwC12) rfl 2 (by decide) wd_1508 rfl rfl rfl rfl ?_
    refine v_aload_n (pc := 42) hX dX11_run_42 rfl ?_
    refine v_iconst (v := 1) (pc := 43) hX dX11_run_43 (by decide) ?_
    refine v_callV (z := yX11_fail) (pc := 44) hX dX11_run_44 (c_fail2 hO ((sI (X11_commands_m g ((sI (sI (sI (X11_begins_m g m r ) 402 r (gI (X11_begins_m g m r ) 400 r)) 400 r 0) 405 r 0)) r ) 386 r (gI (X11_commands_m g ((sI (sI (sI (X11_begins_m g m r ) 402 r (gI (X11_begins_m g m r ) 400 r)) 400 r 0) 405 r 0)) r ) 401 r))) r 1 (hs.to (by simp only [mm, kK_X11_begins, kK_X11_commands]) (by simp only [mm, kR_X11_begins, kR_X11_commands]))) (by simp only [mm, kK_X11_begins, kK_X11_commands]; exact hs.k) rfl wd_1595 wd_1597 wp_19 wd_16 wd_1598 ⟨by decide, by decide, (by decide +kernel : (parseMethodDescriptor yX11_fail.desc).map (fun d => d.parameters.length) = some 1)⟩ rfl (Nat.le_of_ble_eq_true rfl) ⟨⟨by decide, by decide⟩, by decide, by decide⟩ (fun E m9 h9 => h9.elim) (fun r9 m9 h9 => ?_)
    obtain ⟨rfl, h8⟩ := h9
    replace h8 := h8.symm
    subst h8
    show mV g x _ _ _ _ _ [.int 0]
    exact v_iret (pc := 47) hX hZ dX11_run_47 (by decide) (by decide) ⟨(by rw [X11_run_r, if_neg c1]), (by rw [X11_run_m, if_neg c1])⟩
