def X11_burns_m (g : mG) (m : mM) (w : Nat) (n : Nat) : mM := if (gA m (w) 2) ≤ 0 then ((sA (sA m w 2 0) w 1 ((gA m (w) 1) - (((gA m (w) 1) - 20) / 20)))) else (if (gA m (w) 3) < (gA m (w) 2) then ((sA (sA m w 2 0) w 1 ((gA m (w) 1) - (((gA m (w) 1) - 20) / 20)))) else (if 1200 ≤ ((gA m (w) 1) + (20 * (gA m (w) 2))) then ((sA (sA (sA (sA m w 3 ((gA m (w) 3) - (gA m (w) 2))) w 9 ((gA m (w) 9) + (gA m (w) 2))) w 1 1200) w 1 (1200 - ((1200 - 20) / 20)))) else ((sA (sA (sA (sA m w 3 ((gA m (w) 3) - (gA m (w) 2))) w 9 ((gA m (w) 9) + (gA m (w) 2))) w 1 ((gA m (w) 1) + (20 * (gA m (w) 2)))) w 1 (((gA m w 1) + (20 * (gA m w 2))) - ((((gA m w 1) + (20 * (gA m w 2))) - 20) / 20))))))
theorem kK_X11_burns (g : mG) (m : mM) (w : Nat) (n : Nat) : gK (X11_burns_m g m w n) = gK m := by
  unfold X11_burns_m
  repeat' split
  all_goals simp only [mm]
theorem kN_X11_burns (g : mG) (m : mM) (w : Nat) (n : Nat) : gN (X11_burns_m g m w n) = gN m := by
  unfold X11_burns_m
  repeat' split
  all_goals simp only [mm]
theorem kI_X11_burns (g : mG) (m : mM) (w : Nat) (n : Nat) : gI (X11_burns_m g m w n) = gI m := by
  unfold X11_burns_m
  repeat' split
  all_goals simp only [mm]
theorem kJ_X11_burns (g : mG) (m : mM) (w : Nat) (n : Nat) : gJ (X11_burns_m g m w n) = gJ m := by
  unfold X11_burns_m
  repeat' split
  all_goals simp only [mm]
theorem kR_X11_burns (g : mG) (m : mM) (w : Nat) (n : Nat) : gR (X11_burns_m g m w n) = gR m := by
  unfold X11_burns_m
  repeat' split
  all_goals simp only [mm]
theorem kQ_X11_burns (g : mG) (m : mM) (w : Nat) (n : Nat) : gQ (X11_burns_m g m w n) = gQ m := by
  unfold X11_burns_m
  repeat' split
  all_goals simp only [mm]
theorem kL_X11_burns (g : mG) (m : mM) (w : Nat) (n : Nat) : gL (X11_burns_m g m w n) = gL m := by
  unfold X11_burns_m
  repeat' split
  all_goals simp only [mm]
theorem kD_X11_burns (g : mG) (m : mM) (w : Nat) (n : Nat) : gD (X11_burns_m g m w n) = gD m := by
  unfold X11_burns_m
  repeat' split
  all_goals simp only [mm]
theorem kA_X11_burns (g : mG) (m : mM) (w : Nat) (n : Nat) (c9 i9 : Nat) (h0 : c9 ≠ w) : gA (X11_burns_m g m w n) c9 i9 = gA m c9 i9 := by
  unfold X11_burns_m
  repeat' split
  all_goals simp [mm, h0]
set_option maxHeartbeats 4000000 in
set_option maxRecDepth 100000 in
theorem c_X11_burns {l : Launch} {g : mG} (hO : mO l g) (m : mM) (w : Nat) (n : Nat) (hw : gK m w = some (.inr (0, n))) (hn13 : 13 ≤ n) (hn1000 : n ≤ 1000) : mT l g yX11_burns (.code yX11_burns cX11_burns 2 (Option.none : Option FieldType)) 1 20 0 0 [.ref w] m (fun u m' => u = none ∧ m' = X11_burns_m g m w n) nX := by
  refine mT_of hO (by decide) (Nat.le_of_ble_eq_true rfl) (fun x hX hZ => ?_)
  show mV g x m 0 0 0 [(0, .ref w)] []
  refine v_aload_n (pc := 0) hX dX11_burns_0 rfl ?_
  refine v_iconst (v := 2) (pc := 1) hX dX11_burns_1 (by decide) ?_
  refine v_iald (j := 2) (v := (gA m (w) 2)) (pc := 2) hX dX11_burns_2 hw rfl (by omega) (by omega) rfl ?_
  refine v_if_le (tgt := 65) (pc := 3) hX dX11_burns_3 (by decide) (fun c1 => ?_) (fun c1 => ?_)
  ·
    refine v_aload_n (pc := 65) hX dX11_burns_65 rfl ?_
    refine v_iconst (v := 2) (pc := 66) hX dX11_burns_66 (by decide) ?_
    refine v_iconst (v := 0) (pc := 67) hX dX11_burns_67 (by decide) ?_
    refine v_iast (j := 2) (pc := 68) hX dX11_burns_68 hw rfl (by omega) (by omega) ?_
    refine v_aload_n (pc := 69) hX dX11_burns_69 rfl ?_
    refine v_iconst (v := 1) (pc := 70) hX dX11_burns_70 (by decide) ?_
    refine v_dup2 (pc := 71) hX dX11_burns_71 rfl rfl ?_
    refine v_iald (j := 1) (v := (gA m (w) 1)) (pc := 72) hX dX11_burns_72 (by simp only [mm]; exact hw) rfl (by omega) (by omega) (((gA_n (by omega)).trans rfl)) ?_
    refine v_aload_n (pc := 73) hX dX11_burns_73 rfl ?_
    refine v_iconst (v := 1) (pc := 74) hX dX11_burns_74 (by decide) ?_
    refine v_iald (j := 1) (v := (gA m (w) 1)) (pc := 75) hX dX11_burns_75 (by simp only [mm]; exact hw) rfl (by omega) (by omega) (((gA_n (by omega)).trans rfl)) ?_
    refine v_bipush (v := 20) (pc := 76) hX dX11_burns_76 (by decide) ?_
    refine v_isub (pc := 78) hX dX11_burns_78 ?_
    refine v_bipush (v := 20) (pc := 79) hX dX11_burns_79 (by decide) ?_
    refine v_idiv (pc := 81) hX dX11_burns_81 (by decide) ?_
    refine v_isub (pc := 82) hX dX11_burns_82 ?_
    refine v_iast (j := 1) (pc := 83) hX dX11_burns_83 (by simp only [mm]; exact hw) rfl (by omega) (by omega) ?_
    exact v_vret (pc := 84) hX hZ dX11_burns_84 (by decide) (by decide) ⟨rfl, (by rw [X11_burns_m, if_pos c1])⟩
  ·
    refine v_aload_n (pc := 6) hX dX11_burns_6 rfl ?_
    refine v_iconst (v := 3) (pc := 7) hX dX11_burns_7 (by decide) ?_
    refine v_iald (j := 3) (v := (gA m (w) 3)) (pc := 8) hX dX11_burns_8 hw rfl (by omega) (by omega) rfl ?_
    refine v_aload_n (pc := 9) hX dX11_burns_9 rfl ?_
    refine v_iconst (v := 2) (pc := 10) hX dX11_burns_10 (by decide) ?_
    refine v_iald (j := 2) (v := (gA m (w) 2)) (pc := 11) hX dX11_burns_11 hw rfl (by omega) (by omega) rfl ?_
    refine v_icmp_lt (tgt := 65) (pc := 12) hX dX11_burns_12 (by decide) (fun c2 => ?_) (fun c2 => ?_)
    ·
      refine v_aload_n (pc := 65) hX dX11_burns_65 rfl ?_
      refine v_iconst (v := 2) (pc := 66) hX dX11_burns_66 (by decide) ?_
      refine v_iconst (v := 0) (pc := 67) hX dX11_burns_67 (by decide) ?_
      refine v_iast (j := 2) (pc := 68) hX dX11_burns_68 hw rfl (by omega) (by omega) ?_
      refine v_aload_n (pc := 69) hX dX11_burns_69 rfl ?_
      refine v_iconst (v := 1) (pc := 70) hX dX11_burns_70 (by decide) ?_
      refine v_dup2 (pc := 71) hX dX11_burns_71 rfl rfl ?_
      refine v_iald (j := 1) (v := (gA m (w) 1)) (pc := 72) hX dX11_burns_72 (by simp only [mm]; exact hw) rfl (by omega) (by omega) (((gA_n (by omega)).trans rfl)) ?_
      refine v_aload_n (pc := 73) hX dX11_burns_73 rfl ?_
      refine v_iconst (v := 1) (pc := 74) hX dX11_burns_74 (by decide) ?_
      refine v_iald (j := 1) (v := (gA m (w) 1)) (pc := 75) hX dX11_burns_75 (by simp only [mm]; exact hw) rfl (by omega) (by omega) (((gA_n (by omega)).trans rfl)) ?_
      refine v_bipush (v := 20) (pc := 76) hX dX11_burns_76 (by decide) ?_
      refine v_isub (pc := 78) hX dX11_burns_78 ?_
      refine v_bipush (v := 20) (pc := 79) hX dX11_burns_79 (by decide) ?_
      refine v_idiv (pc := 81) hX dX11_burns_81 (by decide) ?_
      refine v_isub (pc := 82) hX dX11_burns_82 ?_
      refine v_iast (j := 1) (pc := 83) hX dX11_burns_83 (by simp only [mm]; exact hw) rfl (by omega) (by omega) ?_
      exact v_vret (pc := 84) hX hZ dX11_burns_84 (by decide) (by decide) ⟨rfl, (by rw [X11_burns_m, if_neg c1, if_pos c2])⟩
    ·
      refine v_aload_n (pc := 15) hX dX11_burns_15 rfl ?_
      refine v_iconst (v := 3) (pc := 16) hX dX11_burns_16 (by decide) ?_
      refine v_dup2 (pc := 17) hX dX11_burns_17 rfl rfl ?_
      refine v_iald (j := 3) (v := (gA m (w) 3)) (pc := 18) hX dX11_burns_18 hw rfl (by omega) (by omega) rfl ?_
      refine v_aload_n (pc := 19) hX dX11_burns_19 rfl ?_
      refine v_iconst (v := 2) (pc := 20) hX dX11_burns_20 (by decide) ?_
      refine v_iald (j := 2) (v := (gA m (w) 2)) (pc := 21) hX dX11_burns_21 hw rfl (by omega) (by omega) rfl ?_
      refine v_isub (pc := 22) hX dX11_burns_22 ?_
      refine v_iast (j := 3) (pc := 23) hX dX11_burns_23 hw rfl (by omega) (by omega) ?_
      refine v_aload_n (pc := 24) hX dX11_burns_24 rfl ?_
      refine v_bipush (v := 9) (pc := 25) hX dX11_burns_25 (by decide) ?_
      refine v_dup2 (pc := 27) hX dX11_burns_27 rfl rfl ?_
      refine v_iald (j := 9) (v := (gA m (w) 9)) (pc := 28) hX dX11_burns_28 (by simp only [mm]; exact hw) rfl (by omega) (by omega) (((gA_n (by omega)).trans rfl)) ?_
      refine v_aload_n (pc := 29) hX dX11_burns_29 rfl ?_
      refine v_iconst (v := 2) (pc := 30) hX dX11_burns_30 (by decide) ?_
      refine v_iald (j := 2) (v := (gA m (w) 2)) (pc := 31) hX dX11_burns_31 (by simp only [mm]; exact hw) rfl (by omega) (by omega) (((gA_n (by omega)).trans rfl)) ?_
      refine v_iadd (pc := 32) hX dX11_burns_32 ?_
      refine v_iast (j := 9) (pc := 33) hX dX11_burns_33 (by simp only [mm]; exact hw) rfl (by omega) (by omega) ?_
      refine v_aload_n (pc := 34) hX dX11_burns_34 rfl ?_
      refine v_iconst (v := 1) (pc := 35) hX dX11_burns_35 (by decide) ?_
      refine v_iald (j := 1) (v := (gA m (w) 1)) (pc := 36) hX dX11_burns_36 (by simp only [mm]; exact hw) rfl (by omega) (by omega) (((gA_n (by omega)).trans ((gA_n (by omega)).trans rfl))) ?_
      refine v_bipush (v := 20) (pc := 37) hX dX11_burns_37 (by decide) ?_
      refine v_aload_n (pc := 39) hX dX11_burns_39 rfl ?_
      refine v_iconst (v := 2) (pc := 40) hX dX11_burns_40 (by decide) ?_
      refine v_iald (j := 2) (v := (gA m (w) 2)) (pc := 41) hX dX11_burns_41 (by simp only [mm]; exact hw) rfl (by omega) (by omega) (((gA_n (by omega)).trans ((gA_n (by omega)).trans rfl))) ?_
      refine v_imul (pc := 42) hX dX11_burns_42 ?_
      refine v_iadd (pc := 43) hX dX11_burns_43 ?_
      refine v_istore_n (pc := 44) hX dX11_burns_44 (by decide) rfl ?_
      refine v_aload_n (pc := 45) hX dX11_burns_45 rfl ?_
      refine v_iconst (v := 1) (pc := 46) hX dX11_burns_46 (by decide) ?_
      refine v_iload_n (pc := 47) hX dX11_burns_47 rfl ?_
      refine v_sipush (v := 1200) (pc := 48) hX dX11_burns_48 (by decide) ?_
      refine v_icmp_ge (tgt := 58) (pc := 51) hX dX11_burns_51 (by decide) (fun c3 => ?_) (fun c3 => ?_)
      ·
        refine v_sipush (v := 1200) (pc := 58) hX dX11_burns_58 (by decide) ?_
        refine v_iast (j := 1) (pc := 61) hX dX11_burns_61 (by simp only [mm]; exact hw) rfl (by omega) (by omega) ?_
        refine v_goto (tgt := 69) (pc := 62) hX dX11_burns_62 (by decide) ?_
        refine v_aload_n (pc := 69) hX dX11_burns_69 rfl ?_
        refine v_iconst (v := 1) (pc := 70) hX dX11_burns_70 (by decide) ?_
        refine v_dup2 (pc := 71) hX dX11_burns_71 rfl rfl ?_
        refine v_iald (j := 1) (v := 1200) (pc := 72) hX dX11_burns_72 (by simp only [mm]; exact hw) rfl (by omega) (by omega) gA_y ?_
        refine v_aload_n (pc := 73) hX dX11_burns_73 rfl ?_
        refine v_iconst (v := 1) (pc := 74) hX dX11_burns_74 (by decide) ?_
        refine v_iald (j := 1) (v := 1200) (pc := 75) hX dX11_burns_75 (by simp only [mm]; exact hw) rfl (by omega) (by omega) gA_y ?_
        refine v_bipush (v := 20) (pc := 76) hX dX11_burns_76 (by decide) ?_
        refine v_isub (pc := 78) hX dX11_burns_78 ?_
        refine v_bipush (v := 20) (pc := 79) hX dX11_burns_79 (by decide) ?_
        refine v_idiv (pc := 81) hX dX11_burns_81 (by decide) ?_
        refine v_isub (pc := 82) hX dX11_burns_82 ?_
        refine v_iast (j := 1) (pc := 83) hX dX11_burns_83 (by simp only [mm]; exact hw) rfl (by omega) (by omega) ?_
        exact v_vret (pc := 84) hX hZ dX11_burns_84 (by decide) (by decide) ⟨rfl, (by rw [X11_burns_m, if_neg c1, if_neg c2, if_pos c3])⟩
      ·
        refine v_iload_n (pc := 54) hX dX11_burns_54 rfl ?_
        refine v_goto (tgt := 61) (pc := 55) hX dX11_burns_55 (by decide) ?_
        refine v_iast (j := 1) (pc := 61) hX dX11_burns_61 (by simp only [mm]; exact hw) rfl (by omega) (by omega) ?_
        refine v_goto (tgt := 69) (pc := 62) hX dX11_burns_62 (by decide) ?_
        refine v_aload_n (pc := 69) hX dX11_burns_69 rfl ?_
        refine v_iconst (v := 1) (pc := 70) hX dX11_burns_70 (by decide) ?_
        refine v_dup2 (pc := 71) hX dX11_burns_71 rfl rfl ?_
        refine v_iald (j := 1) (v := ((gA m w 1) + (20 * (gA m w 2)))) (pc := 72) hX dX11_burns_72 (by simp only [mm]; exact hw) rfl (by omega) (by omega) gA_y ?_
        refine v_aload_n (pc := 73) hX dX11_burns_73 rfl ?_
        refine v_iconst (v := 1) (pc := 74) hX dX11_burns_74 (by decide) ?_
        refine v_iald (j := 1) (v := ((gA m w 1) + (20 * (gA m w 2)))) (pc := 75) hX dX11_burns_75 (by simp only [mm]; exact hw) rfl (by omega) (by omega) gA_y ?_
        refine v_bipush (v := 20) (pc := 76) hX dX11_burns_76 (by decide) ?_
        refine v_isub (pc := 78) hX dX11_burns_78 ?_
        refine v_bipush (v := 20) (pc := 79) hX dX11_burns_79 (by decide) ?_
        refine v_idiv (pc := 81) hX dX11_burns_81 (by decide) ?_
        refine v_isub (pc := 82) hX dX11_burns_82 ?_
        refine v_iast (j := 1) (pc := 83) hX dX11_burns_83 (by simp only [mm]; exact hw) rfl (by omega) (by omega) ?_
        exact v_vret (pc := 84) hX hZ dX11_burns_84 (by decide) (by decide) ⟨rfl, (by rw [X11_burns_m, if_neg c1, if_neg c2, if_neg c3])⟩
theorem bu_n {g : mG} {m : mM} {w n i : Nat} (h : i ≠ 1 ∧ i ≠ 2 ∧ i ≠ 3 ∧ i ≠ 9) : gA (X11_burns_m g m w n) w i = gA m w i := by
  obtain ⟨h1, h2, h3, h9⟩ := h
  unfold X11_burns_m
  repeat' split
  all_goals simp [mm, h1, h2, h3, h9]
def X11_lives_l1 (g : mG) (r : Nat) (N : Nat) : Nat → Nat → mM → mM
  | 0, j, m => m
  | n + 1, j, m => if (gA m (r + 1) (8 * j + 18)) = 1 then (if (gA m (r + 1) (8 * j + 19)) = 0 then (X11_lives_l1 g r N n (j + 1)  ((sA m (r + 1) (8 * j + 15) (lat (gA m (r + 1) (8 * j + 15)) 1 (gA m (r + 1) 1))))) else (if (isI (lat (gA m (r + 1) (8 * j + 15)) 1 (gA m (r + 1) 1)) 200 400) = 0 then (if 700 ≤ (lat (gA m (r + 1) (8 * j + 15)) 1 (gA m (r + 1) 1)) then (X11_lives_l1 g r N n (j + 1)  ((sA (sA (sA (sA m (r + 1) (8 * j + 15) (lat (gA m (r + 1) (8 * j + 15)) 1 (gA m (r + 1) 1))) (r + 1) (8 * j + 19) 0) (r + 1) (8 * j + 20) 0) (r + 1) (8 * j + 17) 10))) else (X11_lives_l1 g r N n (j + 1)  ((sA m (r + 1) (8 * j + 15) (lat (gA m (r + 1) (8 * j + 15)) 1 (gA m (r + 1) 1)))))) else (if (gA m (r + 1) (8 * j + 17)) ≤ 0 then (if 700 ≤ (lat (gA m (r + 1) (8 * j + 15)) 1 (gA m (r + 1) 1)) then (X11_lives_l1 g r N n (j + 1)  ((sA (sA (sA (sA m (r + 1) (8 * j + 15) (lat (gA m (r + 1) (8 * j + 15)) 1 (gA m (r + 1) 1))) (r + 1) (8 * j + 19) 0) (r + 1) (8 * j + 20) 0) (r + 1) (8 * j + 17) 10))) else (X11_lives_l1 g r N n (j + 1)  ((sA m (r + 1) (8 * j + 15) (lat (gA m (r + 1) (8 * j + 15)) 1 (gA m (r + 1) 1)))))) else (if 700 ≤ (lat (gA m (r + 1) (8 * j + 15)) 1 (gA m (r + 1) 1)) then (X11_lives_l1 g r N n (j + 1)  ((sA (sA (sA (sA (sA m (r + 1) (8 * j + 15) (lat (gA m (r + 1) (8 * j + 15)) 1 (gA m (r + 1) 1))) (r + 1) (8 * j + 17) ((gA m (r + 1) (8 * j + 17)) - 1)) (r + 1) (8 * j + 19) 0) (r + 1) (8 * j + 20) 0) (r + 1) (8 * j + 17) 10))) else (X11_lives_l1 g r N n (j + 1)  ((sA (sA m (r + 1) (8 * j + 15) (lat (gA m (r + 1) (8 * j + 15)) 1 (gA m (r + 1) 1))) (r + 1) (8 * j + 17) ((gA m (r + 1) (8 * j + 17)) - 1)))))))) else (if (gA m (r + 1) (8 * j + 19)) = 0 then (X11_lives_l1 g r N n (j + 1)  ((sA m (r + 1) (8 * j + 15) (lat (gA m (r + 1) (8 * j + 15)) 0 (gA m (r + 1) 1))))) else (if (isI (lat (gA m (r + 1) (8 * j + 15)) 0 (gA m (r + 1) 1)) 200 400) = 0 then (if 700 ≤ (lat (gA m (r + 1) (8 * j + 15)) 0 (gA m (r + 1) 1)) then (X11_lives_l1 g r N n (j + 1)  ((sA (sA (sA (sA m (r + 1) (8 * j + 15) (lat (gA m (r + 1) (8 * j + 15)) 0 (gA m (r + 1) 1))) (r + 1) (8 * j + 19) 0) (r + 1) (8 * j + 20) 0) (r + 1) (8 * j + 17) 10))) else (X11_lives_l1 g r N n (j + 1)  ((sA m (r + 1) (8 * j + 15) (lat (gA m (r + 1) (8 * j + 15)) 0 (gA m (r + 1) 1)))))) else (if (gA m (r + 1) (8 * j + 17)) ≤ 0 then (if 700 ≤ (lat (gA m (r + 1) (8 * j + 15)) 0 (gA m (r + 1) 1)) then (X11_lives_l1 g r N n (j + 1)  ((sA (sA (sA (sA m (r + 1) (8 * j + 15) (lat (gA m (r + 1) (8 * j + 15)) 0 (gA m (r + 1) 1))) (r + 1) (8 * j + 19) 0) (r + 1) (8 * j + 20) 0) (r + 1) (8 * j + 17) 10))) else (X11_lives_l1 g r N n (j + 1)  ((sA m (r + 1) (8 * j + 15) (lat (gA m (r + 1) (8 * j + 15)) 0 (gA m (r + 1) 1)))))) else (if 700 ≤ (lat (gA m (r + 1) (8 * j + 15)) 0 (gA m (r + 1) 1)) then (X11_lives_l1 g r N n (j + 1)  ((sA (sA (sA (sA (sA m (r + 1) (8 * j + 15) (lat (gA m (r + 1) (8 * j + 15)) 0 (gA m (r + 1) 1))) (r + 1) (8 * j + 17) ((gA m (r + 1) (8 * j + 17)) - 1)) (r + 1) (8 * j + 19) 0) (r + 1) (8 * j + 20) 0) (r + 1) (8 * j + 17) 10))) else (X11_lives_l1 g r N n (j + 1)  ((sA (sA m (r + 1) (8 * j + 15) (lat (gA m (r + 1) (8 * j + 15)) 0 (gA m (r + 1) 1))) (r + 1) (8 * j + 17) ((gA m (r + 1) (8 * j + 17)) - 1))))))))
set_option maxHeartbeats 4000000 in
set_option maxRecDepth 100000 in
theorem lp_X11_lives_l1 {l : Launch} {g : mG} {x : mCx} (hO : mO l g) (r : Nat) (N : Nat) (hN8 : N ≤ 8) {pst : Option Value → mM → Prop} {XX : String → mM → Prop} (hX : mX l g x cX11_lives yX11_lives { frames := 2, cells := 0, slots := 0, locals := 42 } 3) (hZ : mZ g x (Option.none : Option FieldType) [] pst XX 0 0) : ∀ (n j : Nat)  (m : mM) (hs : SR m r) (hN : gA m (r + 1) 5 = nI N) (hj : j + n = N) (hp : pst none (X11_lives_l1 g r N n j  m)), mV g x m 0 0 19 [(0, .ref r), (1, .int (nI j))] [] := by
  intro n
  induction n with
  | zero =>
    intro j  m hs hN hj hp
    refine v_iload_n (pc := 19) hX dX11_lives_19 rfl ?_
    refine v_aload_n (pc := 20) hX dX11_lives_20 rfl ?_
    refine v_get (v := .ref (r + 1)) (pc := 21) hX dX11_lives_21 hs.k (ci := 12) (r := vwC12) rfl 5 (by decide) wd_1511 (fvA rfl hs.r1) ?_
    refine v_iconst (v := 5) (pc := 24) hX dX11_lives_24 (by decide) ?_
    refine v_iald (j := 5) (v := (nI N)) (pc := 25) hX dX11_lives_25 hs.k1 rfl (by decide) (by decide) ((rfl).trans hN) ?_
    refine v_icmp_ge (tgt := 188) (pc := 26) hX dX11_lives_26 (by decide) (fun c1 => ?_) (fun c1 => ?_)
    ·
      exact v_vret (pc := 188) hX hZ dX11_lives_188 (by decide) (by decide) (by rw [X11_lives_l1] at hp; exact hp)
    · exact absurd (nI_le (by omega) (by omega)) c1
  | succ n ih =>
    intro j  m hs hN hj hp
    refine v_iload_n (pc := 19) hX dX11_lives_19 rfl ?_
    refine v_aload_n (pc := 20) hX dX11_lives_20 rfl ?_
    refine v_get (v := .ref (r + 1)) (pc := 21) hX dX11_lives_21 hs.k (ci := 12) (r := vwC12) rfl 5 (by decide) wd_1511 (fvA rfl hs.r1) ?_
    refine v_iconst (v := 5) (pc := 24) hX dX11_lives_24 (by decide) ?_
    refine v_iald (j := 5) (v := (nI N)) (pc := 25) hX dX11_lives_25 hs.k1 rfl (by decide) (by decide) ((rfl).trans hN) ?_
    refine v_icmp_ge (tgt := 188) (pc := 26) hX dX11_lives_26 (by decide) (fun c1 => ?_) (fun c1 => ?_)
    · exact absurd c1 (nI_ge (by omega) (by omega))
    ·
      refine v_aload_n (pc := 29) hX dX11_lives_29 rfl ?_
      refine v_get (v := .ref (r + 1)) (pc := 30) hX dX11_lives_30 hs.k (ci := 12) (r := vwC12) rfl 5 (by decide) wd_1511 (fvA rfl hs.r1) ?_
      refine v_iload_n (pc := 33) hX dX11_lives_33 rfl ?_
      refine v_iconst (v := 2) (pc := 34) hX dX11_lives_34 (by decide) ?_
      refine v_callS (z := yX11_of) (pc := 35) hX dX11_lives_35 (c_of2 hO m (nI j) j 2 rfl) wd_1626 wd_1627 wd_16 wd_1628 ⟨by decide, by decide, (by decide +kernel : (parseMethodDescriptor yX11_of.desc).map (fun d => d.parameters.length) = some 2)⟩ rfl (Nat.le_of_ble_eq_true rfl) ⟨⟨by decide, by decide⟩, by decide, by decide⟩ (fun E m9 h9 => h9.elim) (fun r9 m9 h9 => ?_)
      obtain ⟨rfl, h8⟩ := h9
      replace h8 := h8.symm
      subst h8
      show mV g x _ _ _ _ _ [.int (nI (8 * j + 15)), .ref (r + 1)]
      refine v_iald (j := 8 * j + 15) (v := (gA m (r + 1) (8 * j + 15))) (pc := 38) hX dX11_lives_38 hs.k1 rfl (by omega) (by decide) rfl ?_
      refine v_aload_n (pc := 39) hX dX11_lives_39 rfl ?_
      refine v_get (v := .ref (r + 1)) (pc := 40) hX dX11_lives_40 hs.k (ci := 12) (r := vwC12) rfl 5 (by decide) wd_1511 (fvA rfl hs.r1) ?_
      refine v_iload_n (pc := 43) hX dX11_lives_43 rfl ?_
      refine v_iconst (v := 5) (pc := 44) hX dX11_lives_44 (by decide) ?_
      refine v_callS (z := yX11_of) (pc := 45) hX dX11_lives_45 (c_of2 hO m (nI j) j 5 rfl) wd_1626 wd_1627 wd_16 wd_1628 ⟨by decide, by decide, (by decide +kernel : (parseMethodDescriptor yX11_of.desc).map (fun d => d.parameters.length) = some 2)⟩ rfl (Nat.le_of_ble_eq_true rfl) ⟨⟨by decide, by decide⟩, by decide, by decide⟩ (fun E m9 h9 => h9.elim) (fun r9 m9 h9 => ?_)
      obtain ⟨rfl, h8⟩ := h9
      replace h8 := h8.symm
      subst h8
      show mV g x _ _ _ _ _ [.int (nI (8 * j + 18)), .ref (r + 1), .int (gA m (r + 1) (8 * j + 15))]
      refine v_iald (j := 8 * j + 18) (v := (gA m (r + 1) (8 * j + 18))) (pc := 48) hX dX11_lives_48 hs.k1 rfl (by omega) (by decide) rfl ?_
      refine v_iconst (v := 1) (pc := 49) hX dX11_lives_49 (by decide) ?_
      refine v_icmp_ne (tgt := 57) (pc := 50) hX dX11_lives_50 (by decide) (fun c2 => ?_) (fun c2 => ?_)
      ·
        refine v_iconst (v := 0) (pc := 57) hX dX11_lives_57 (by decide) ?_
        refine v_aload_n (pc := 58) hX dX11_lives_58 rfl ?_
        refine v_get (v := .ref (r + 1)) (pc := 59) hX dX11_lives_59 hs.k (ci := 12) (r := vwC12) rfl 5 (by decide) wd_1511 (fvA rfl hs.r1) ?_
        refine v_iconst (v := 1) (pc := 62) hX dX11_lives_62 (by decide) ?_
        refine v_iald (j := 1) (v := (gA m (r + 1) 1)) (pc := 63) hX dX11_lives_63 hs.k1 rfl (by decide) (by decide) rfl ?_
        refine v_callS (z := yX11_later) (pc := 64) hX dX11_lives_64 (c_lat hO m (gA m (r + 1) (8 * j + 15)) 0 (gA m (r + 1) 1)) wd_1629 wd_1630 wd_16 wd_1631 ⟨by decide, by decide, (by decide +kernel : (parseMethodDescriptor yX11_later.desc).map (fun d => d.parameters.length) = some 3)⟩ rfl (Nat.le_of_ble_eq_true rfl) ⟨⟨by decide, by decide⟩, by decide, by decide⟩ (fun E m9 h9 => h9.elim) (fun r9 m9 h9 => ?_)
        obtain ⟨rfl, h8⟩ := h9
        replace h8 := h8.symm
        subst h8
        show mV g x _ _ _ _ _ [.int (lat (gA m (r + 1) (8 * j + 15)) 0 (gA m (r + 1) 1))]
        refine v_istore_n (pc := 67) hX dX11_lives_67 (by decide) rfl ?_
        refine v_aload_n (pc := 68) hX dX11_lives_68 rfl ?_
        refine v_get (v := .ref (r + 1)) (pc := 69) hX dX11_lives_69 hs.k (ci := 12) (r := vwC12) rfl 5 (by decide) wd_1511 (fvA rfl hs.r1) ?_
        refine v_iload_n (pc := 72) hX dX11_lives_72 rfl ?_
        refine v_iconst (v := 2) (pc := 73) hX dX11_lives_73 (by decide) ?_
        refine v_callS (z := yX11_of) (pc := 74) hX dX11_lives_74 (c_of2 hO m (nI j) j 2 rfl) wd_1626 wd_1627 wd_16 wd_1628 ⟨by decide, by decide, (by decide +kernel : (parseMethodDescriptor yX11_of.desc).map (fun d => d.parameters.length) = some 2)⟩ rfl (Nat.le_of_ble_eq_true rfl) ⟨⟨by decide, by decide⟩, by decide, by decide⟩ (fun E m9 h9 => h9.elim) (fun r9 m9 h9 => ?_)
        obtain ⟨rfl, h8⟩ := h9
        replace h8 := h8.symm
        subst h8
        show mV g x _ _ _ _ _ [.int (nI (8 * j + 15)), .ref (r + 1)]
        refine v_iload_n (pc := 77) hX dX11_lives_77 rfl ?_
        refine v_iast (j := 8 * j + 15) (pc := 78) hX dX11_lives_78 hs.k1 rfl (by omega) (by decide) ?_
        refine v_aload_n (pc := 79) hX dX11_lives_79 rfl ?_
        refine v_get (v := .ref (r + 1)) (pc := 80) hX dX11_lives_80 (by simp only [mm]; exact hs.k) (ci := 12) (r := vwC12) rfl 5 (by decide) wd_1511 (fvA rfl (by simp [mm, hs.r1])) ?_
        refine v_iload_n (pc := 83) hX dX11_lives_83 rfl ?_
        refine v_bipush (v := 6) (pc := 84) hX dX11_lives_84 (by decide) ?_
        refine v_callS (z := yX11_of) (pc := 86) hX dX11_lives_86 (c_of2 hO ((sA m (r + 1) (8 * j + 15) (lat (gA m (r + 1) (8 * j + 15)) 0 (gA m (r + 1) 1)))) (nI j) j 6 rfl) wd_1626 wd_1627 wd_16 wd_1628 ⟨by decide, by decide, (by decide +kernel : (parseMethodDescriptor yX11_of.desc).map (fun d => d.parameters.length) = some 2)⟩ rfl (Nat.le_of_ble_eq_true rfl) ⟨⟨by decide, by decide⟩, by decide, by decide⟩ (fun E m9 h9 => h9.elim) (fun r9 m9 h9 => ?_)
        obtain ⟨rfl, h8⟩ := h9
        replace h8 := h8.symm
        subst h8
        show mV g x _ _ _ _ _ [.int (nI (8 * j + 19)), .ref (r + 1)]
        refine v_iald (j := 8 * j + 19) (v := (gA m (r + 1) (8 * j + 19))) (pc := 89) hX dX11_lives_89 (by simp only [mm]; exact hs.k1) rfl (by omega) (by decide) (((gA_n (by omega)).trans rfl)) ?_
        refine v_if_ne (tgt := 96) (pc := 90) hX dX11_lives_90 (by decide) (fun c3 => ?_) (fun c3 => ?_)
        ·
          refine v_iload_n (pc := 96) hX dX11_lives_96 rfl ?_
          refine v_sipush (v := 200) (pc := 97) hX dX11_lives_97 (by decide) ?_
          refine v_sipush (v := 400) (pc := 100) hX dX11_lives_100 (by decide) ?_
          refine v_callS (z := yX11_isIn) (pc := 103) hX dX11_lives_103 (c_isI hO ((sA m (r + 1) (8 * j + 15) (lat (gA m (r + 1) (8 * j + 15)) 0 (gA m (r + 1) 1)))) (lat (gA m (r + 1) (8 * j + 15)) 0 (gA m (r + 1) 1)) 200 400) wd_1592 wd_1593 wd_16 wd_1594 ⟨by decide, by decide, (by decide +kernel : (parseMethodDescriptor yX11_isIn.desc).map (fun d => d.parameters.length) = some 3)⟩ rfl (Nat.le_of_ble_eq_true rfl) ⟨⟨by decide, by decide⟩, by decide, by decide⟩ (fun E m9 h9 => h9.elim) (fun r9 m9 h9 => ?_)
          obtain ⟨rfl, h8⟩ := h9
          replace h8 := h8.symm
          subst h8
          show mV g x _ _ _ _ _ [.int (isI (lat (gA m (r + 1) (8 * j + 15)) 0 (gA m (r + 1) 1)) 200 400)]
          refine v_if_eq (tgt := 136) (pc := 106) hX dX11_lives_106 (by decide) (fun c4 => ?_) (fun c4 => ?_)
          ·
            refine v_iload_n (pc := 136) hX dX11_lives_136 rfl ?_
            refine v_sipush (v := 700) (pc := 137) hX dX11_lives_137 (by decide) ?_
            refine v_icmp_ge (tgt := 146) (pc := 140) hX dX11_lives_140 (by decide) (fun c5 => ?_) (fun c5 => ?_)
            ·
              refine v_aload_n (pc := 146) hX dX11_lives_146 rfl ?_
              refine v_get (v := .ref (r + 1)) (pc := 147) hX dX11_lives_147 (by simp only [mm]; exact hs.k) (ci := 12) (r := vwC12) rfl 5 (by decide) wd_1511 (fvA rfl (by simp [mm, hs.r1])) ?_
              refine v_iload_n (pc := 150) hX dX11_lives_150 rfl ?_
              refine v_bipush (v := 6) (pc := 151) hX dX11_lives_151 (by decide) ?_
              refine v_callS (z := yX11_of) (pc := 153) hX dX11_lives_153 (c_of2 hO ((sA m (r + 1) (8 * j + 15) (lat (gA m (r + 1) (8 * j + 15)) 0 (gA m (r + 1) 1)))) (nI j) j 6 rfl) wd_1626 wd_1627 wd_16 wd_1628 ⟨by decide, by decide, (by decide +kernel : (parseMethodDescriptor yX11_of.desc).map (fun d => d.parameters.length) = some 2)⟩ rfl (Nat.le_of_ble_eq_true rfl) ⟨⟨by decide, by decide⟩, by decide, by decide⟩ (fun E m9 h9 => h9.elim) (fun r9 m9 h9 => ?_)
              obtain ⟨rfl, h8⟩ := h9
              replace h8 := h8.symm
              subst h8
              show mV g x _ _ _ _ _ [.int (nI (8 * j + 19)), .ref (r + 1)]
              refine v_iconst (v := 0) (pc := 156) hX dX11_lives_156 (by decide) ?_
              refine v_iast (j := 8 * j + 19) (pc := 157) hX dX11_lives_157 (by simp only [mm]; exact hs.k1) rfl (by omega) (by decide) ?_
              refine v_aload_n (pc := 158) hX dX11_lives_158 rfl ?_
              refine v_get (v := .ref (r + 1)) (pc := 159) hX dX11_lives_159 (by simp only [mm]; exact hs.k) (ci := 12) (r := vwC12) rfl 5 (by decide) wd_1511 (fvA rfl (by simp [mm, hs.r1])) ?_
              refine v_iload_n (pc := 162) hX dX11_lives_162 rfl ?_
              refine v_bipush (v := 7) (pc := 163) hX dX11_lives_163 (by decide) ?_
              refine v_callS (z := yX11_of) (pc := 165) hX dX11_lives_165 (c_of2 hO ((sA (sA m (r + 1) (8 * j + 15) (lat (gA m (r + 1) (8 * j + 15)) 0 (gA m (r + 1) 1))) (r + 1) (8 * j + 19) 0)) (nI j) j 7 rfl) wd_1626 wd_1627 wd_16 wd_1628 ⟨by decide, by decide, (by decide +kernel : (parseMethodDescriptor yX11_of.desc).map (fun d => d.parameters.length) = some 2)⟩ rfl (Nat.le_of_ble_eq_true rfl) ⟨⟨by decide, by decide⟩, by decide, by decide⟩ (fun E m9 h9 => h9.elim) (fun r9 m9 h9 => ?_)
              obtain ⟨rfl, h8⟩ := h9
              replace h8 := h8.symm
              subst h8
              show mV g x _ _ _ _ _ [.int (nI (8 * j + 20)), .ref (r + 1)]
              refine v_iconst (v := 0) (pc := 168) hX dX11_lives_168 (by decide) ?_
              refine v_iast (j := 8 * j + 20) (pc := 169) hX dX11_lives_169 (by simp only [mm]; exact hs.k1) rfl (by omega) (by decide) ?_
              refine v_aload_n (pc := 170) hX dX11_lives_170 rfl ?_
              refine v_get (v := .ref (r + 1)) (pc := 171) hX dX11_lives_171 (by simp only [mm]; exact hs.k) (ci := 12) (r := vwC12) rfl 5 (by decide) wd_1511 (fvA rfl (by simp [mm, hs.r1])) ?_
              refine v_iload_n (pc := 174) hX dX11_lives_174 rfl ?_
              refine v_iconst (v := 4) (pc := 175) hX dX11_lives_175 (by decide) ?_
              refine v_callS (z := yX11_of) (pc := 176) hX dX11_lives_176 (c_of2 hO ((sA (sA (sA m (r + 1) (8 * j + 15) (lat (gA m (r + 1) (8 * j + 15)) 0 (gA m (r + 1) 1))) (r + 1) (8 * j + 19) 0) (r + 1) (8 * j + 20) 0)) (nI j) j 4 rfl) wd_1626 wd_1627 wd_16 wd_1628 ⟨by decide, by decide, (by decide +kernel : (parseMethodDescriptor yX11_of.desc).map (fun d => d.parameters.length) = some 2)⟩ rfl (Nat.le_of_ble_eq_true rfl) ⟨⟨by decide, by decide⟩, by decide, by decide⟩ (fun E m9 h9 => h9.elim) (fun r9 m9 h9 => ?_)
              obtain ⟨rfl, h8⟩ := h9
              replace h8 := h8.symm
              subst h8
              show mV g x _ _ _ _ _ [.int (nI (8 * j + 17)), .ref (r + 1)]
              refine v_bipush (v := 10) (pc := 179) hX dX11_lives_179 (by decide) ?_
              refine v_iast (j := 8 * j + 17) (pc := 181) hX dX11_lives_181 (by simp only [mm]; exact hs.k1) rfl (by omega) (by decide) ?_
              refine v_iinc (w := nI (j + 1)) (pc := 182) hX dX11_lives_182 rfl (nI_1 _) (by decide) rfl ?_
              refine v_goto (tgt := 19) (pc := 185) hX dX11_lives_185 (by decide) ?_
              refine mV_sub (lv' := [(0, .ref r), (1, .int (nI (j + 1)))]) ⟨rfl, rfl, trivial⟩ ?_
              exact ih (j + 1)  ((sA (sA (sA (sA m (r + 1) (8 * j + 15) (lat (gA m (r + 1) (8 * j + 15)) 0 (gA m (r + 1) 1))) (r + 1) (8 * j + 19) 0) (r + 1) (8 * j + 20) 0) (r + 1) (8 * j + 17) 10)) (hs.to (by simp only [mm]) (by simp only [mm])) (((gA_n (by omega)).trans ((gA_n (by omega)).trans ((gA_n (by omega)).trans ((gA_n (by omega)).trans rfl)))).trans hN) (by omega) (by rw [X11_lives_l1, if_neg c2, if_neg c3, if_pos c4, if_pos c5] at hp; exact hp)
            ·
              refine v_goto (tgt := 182) (pc := 143) hX dX11_lives_143 (by decide) ?_
              refine v_iinc (w := nI (j + 1)) (pc := 182) hX dX11_lives_182 rfl (nI_1 _) (by decide) rfl ?_
              refine v_goto (tgt := 19) (pc := 185) hX dX11_lives_185 (by decide) ?_
              refine mV_sub (lv' := [(0, .ref r), (1, .int (nI (j + 1)))]) ⟨rfl, rfl, trivial⟩ ?_
              exact ih (j + 1)  ((sA m (r + 1) (8 * j + 15) (lat (gA m (r + 1) (8 * j + 15)) 0 (gA m (r + 1) 1)))) (hs.to (by simp only [mm]) (by simp only [mm])) (((gA_n (by omega)).trans rfl).trans hN) (by omega) (by rw [X11_lives_l1, if_neg c2, if_neg c3, if_pos c4, if_neg c5] at hp; exact hp)
          ·
            refine v_aload_n (pc := 109) hX dX11_lives_109 rfl ?_
            refine v_get (v := .ref (r + 1)) (pc := 110) hX dX11_lives_110 (by simp only [mm]; exact hs.k) (ci := 12) (r := vwC12) rfl 5 (by decide) wd_1511 (fvA rfl (by simp [mm, hs.r1])) ?_
            refine v_iload_n (pc := 113) hX dX11_lives_113 rfl ?_
            refine v_iconst (v := 4) (pc := 114) hX dX11_lives_114 (by decide) ?_
            refine v_callS (z := yX11_of) (pc := 115) hX dX11_lives_115 (c_of2 hO ((sA m (r + 1) (8 * j + 15) (lat (gA m (r + 1) (8 * j + 15)) 0 (gA m (r + 1) 1)))) (nI j) j 4 rfl) wd_1626 wd_1627 wd_16 wd_1628 ⟨by decide, by decide, (by decide +kernel : (parseMethodDescriptor yX11_of.desc).map (fun d => d.parameters.length) = some 2)⟩ rfl (Nat.le_of_ble_eq_true rfl) ⟨⟨by decide, by decide⟩, by decide, by decide⟩ (fun E m9 h9 => h9.elim) (fun r9 m9 h9 => ?_)
            obtain ⟨rfl, h8⟩ := h9
            replace h8 := h8.symm
            subst h8
            show mV g x _ _ _ _ _ [.int (nI (8 * j + 17)), .ref (r + 1)]
            refine v_iald (j := 8 * j + 17) (v := (gA m (r + 1) (8 * j + 17))) (pc := 118) hX dX11_lives_118 (by simp only [mm]; exact hs.k1) rfl (by omega) (by decide) (((gA_n (by omega)).trans rfl)) ?_
            refine v_if_le (tgt := 136) (pc := 119) hX dX11_lives_119 (by decide) (fun c6 => ?_) (fun c6 => ?_)
            ·
              refine v_iload_n (pc := 136) hX dX11_lives_136 rfl ?_
              refine v_sipush (v := 700) (pc := 137) hX dX11_lives_137 (by decide) ?_
              refine v_icmp_ge (tgt := 146) (pc := 140) hX dX11_lives_140 (by decide) (fun c7 => ?_) (fun c7 => ?_)
              ·
                refine v_aload_n (pc := 146) hX dX11_lives_146 rfl ?_
                refine v_get (v := .ref (r + 1)) (pc := 147) hX dX11_lives_147 (by simp only [mm]; exact hs.k) (ci := 12) (r := vwC12) rfl 5 (by decide) wd_1511 (fvA rfl (by simp [mm, hs.r1])) ?_
                refine v_iload_n (pc := 150) hX dX11_lives_150 rfl ?_
                refine v_bipush (v := 6) (pc := 151) hX dX11_lives_151 (by decide) ?_
                refine v_callS (z := yX11_of) (pc := 153) hX dX11_lives_153 (c_of2 hO ((sA m (r + 1) (8 * j + 15) (lat (gA m (r + 1) (8 * j + 15)) 0 (gA m (r + 1) 1)))) (nI j) j 6 rfl) wd_1626 wd_1627 wd_16 wd_1628 ⟨by decide, by decide, (by decide +kernel : (parseMethodDescriptor yX11_of.desc).map (fun d => d.parameters.length) = some 2)⟩ rfl (Nat.le_of_ble_eq_true rfl) ⟨⟨by decide, by decide⟩, by decide, by decide⟩ (fun E m9 h9 => h9.elim) (fun r9 m9 h9 => ?_)
                obtain ⟨rfl, h8⟩ := h9
                replace h8 := h8.symm
                subst h8
                show mV g x _ _ _ _ _ [.int (nI (8 * j + 19)), .ref (r + 1)]
                refine v_iconst (v := 0) (pc := 156) hX dX11_lives_156 (by decide) ?_
                refine v_iast (j := 8 * j + 19) (pc := 157) hX dX11_lives_157 (by simp only [mm]; exact hs.k1) rfl (by omega) (by decide) ?_
                refine v_aload_n (pc := 158) hX dX11_lives_158 rfl ?_
                refine v_get (v := .ref (r + 1)) (pc := 159) hX dX11_lives_159 (by simp only [mm]; exact hs.k) (ci := 12) (r := vwC12) rfl 5 (by decide) wd_1511 (fvA rfl (by simp [mm, hs.r1])) ?_
                refine v_iload_n (pc := 162) hX dX11_lives_162 rfl ?_
                refine v_bipush (v := 7) (pc := 163) hX dX11_lives_163 (by decide) ?_
                refine v_callS (z := yX11_of) (pc := 165) hX dX11_lives_165 (c_of2 hO ((sA (sA m (r + 1) (8 * j + 15) (lat (gA m (r + 1) (8 * j + 15)) 0 (gA m (r + 1) 1))) (r + 1) (8 * j + 19) 0)) (nI j) j 7 rfl) wd_1626 wd_1627 wd_16 wd_1628 ⟨by decide, by decide, (by decide +kernel : (parseMethodDescriptor yX11_of.desc).map (fun d => d.parameters.length) = some 2)⟩ rfl (Nat.le_of_ble_eq_true rfl) ⟨⟨by decide, by decide⟩, by decide, by decide⟩ (fun E m9 h9 => h9.elim) (fun r9 m9 h9 => ?_)
                obtain ⟨rfl, h8⟩ := h9
                replace h8 := h8.symm
                subst h8
                show mV g x _ _ _ _ _ [.int (nI (8 * j + 20)), .ref (r + 1)]
                refine v_iconst (v := 0) (pc := 168) hX dX11_lives_168 (by decide) ?_
                refine v_iast (j := 8 * j + 20) (pc := 169) hX dX11_lives_169 (by simp only [mm]; exact hs.k1) rfl (by omega) (by decide) ?_
                refine v_aload_n (pc := 170) hX dX11_lives_170 rfl ?_
                refine v_get (v := .ref (r + 1)) (pc := 171) hX dX11_lives_171 (by simp only [mm]; exact hs.k) (ci := 12) (r := vwC12) rfl 5 (by decide) wd_1511 (fvA rfl (by simp [mm, hs.r1])) ?_
                refine v_iload_n (pc := 174) hX dX11_lives_174 rfl ?_
                refine v_iconst (v := 4) (pc := 175) hX dX11_lives_175 (by decide) ?_
                refine v_callS (z := yX11_of) (pc := 176) hX dX11_lives_176 (c_of2 hO ((sA (sA (sA m (r + 1) (8 * j + 15) (lat (gA m (r + 1) (8 * j + 15)) 0 (gA m (r + 1) 1))) (r + 1) (8 * j + 19) 0) (r + 1) (8 * j + 20) 0)) (nI j) j 4 rfl) wd_1626 wd_1627 wd_16 wd_1628 ⟨by decide, by decide, (by decide +kernel : (parseMethodDescriptor yX11_of.desc).map (fun d => d.parameters.length) = some 2)⟩ rfl (Nat.le_of_ble_eq_true rfl) ⟨⟨by decide, by decide⟩, by decide, by decide⟩ (fun E m9 h9 => h9.elim) (fun r9 m9 h9 => ?_)
                obtain ⟨rfl, h8⟩ := h9
                replace h8 := h8.symm
                subst h8
                show mV g x _ _ _ _ _ [.int (nI (8 * j + 17)), .ref (r + 1)]
                refine v_bipush (v := 10) (pc := 179) hX dX11_lives_179 (by decide) ?_
                refine v_iast (j := 8 * j + 17) (pc := 181) hX dX11_lives_181 (by simp only [mm]; exact hs.k1) rfl (by omega) (by decide) ?_
                refine v_iinc (w := nI (j + 1)) (pc := 182) hX dX11_lives_182 rfl (nI_1 _) (by decide) rfl ?_
                refine v_goto (tgt := 19) (pc := 185) hX dX11_lives_185 (by decide) ?_
                refine mV_sub (lv' := [(0, .ref r), (1, .int (nI (j + 1)))]) ⟨rfl, rfl, trivial⟩ ?_
                exact ih (j + 1)  ((sA (sA (sA (sA m (r + 1) (8 * j + 15) (lat (gA m (r + 1) (8 * j + 15)) 0 (gA m (r + 1) 1))) (r + 1) (8 * j + 19) 0) (r + 1) (8 * j + 20) 0) (r + 1) (8 * j + 17) 10)) (hs.to (by simp only [mm]) (by simp only [mm])) (((gA_n (by omega)).trans ((gA_n (by omega)).trans ((gA_n (by omega)).trans ((gA_n (by omega)).trans rfl)))).trans hN) (by omega) (by rw [X11_lives_l1, if_neg c2, if_neg c3, if_neg c4, if_pos c6, if_pos c7] at hp; exact hp)
              ·
                refine v_goto (tgt := 182) (pc := 143) hX dX11_lives_143 (by decide) ?_
                refine v_iinc (w := nI (j + 1)) (pc := 182) hX dX11_lives_182 rfl (nI_1 _) (by decide) rfl ?_
                refine v_goto (tgt := 19) (pc := 185) hX dX11_lives_185 (by decide) ?_
                refine mV_sub (lv' := [(0, .ref r), (1, .int (nI (j + 1)))]) ⟨rfl, rfl, trivial⟩ ?_
                exact ih (j + 1)  ((sA m (r + 1) (8 * j + 15) (lat (gA m (r + 1) (8 * j + 15)) 0 (gA m (r + 1) 1)))) (hs.to (by simp only [mm]) (by simp only [mm])) (((gA_n (by omega)).trans rfl).trans hN) (by omega) (by rw [X11_lives_l1, if_neg c2, if_neg c3, if_neg c4, if_pos c6, if_neg c7] at hp; exact hp)
            ·
              refine v_aload_n (pc := 122) hX dX11_lives_122 rfl ?_
              refine v_get (v := .ref (r + 1)) (pc := 123) hX dX11_lives_123 (by simp only [mm]; exact hs.k) (ci := 12) (r := vwC12) rfl 5 (by decide) wd_1511 (fvA rfl (by simp [mm, hs.r1])) ?_
              refine v_iload_n (pc := 126) hX dX11_lives_126 rfl ?_
              refine v_iconst (v := 4) (pc := 127) hX dX11_lives_127 (by decide) ?_
              refine v_callS (z := yX11_of) (pc := 128) hX dX11_lives_128 (c_of2 hO ((sA m (r + 1) (8 * j + 15) (lat (gA m (r + 1) (8 * j + 15)) 0 (gA m (r + 1) 1)))) (nI j) j 4 rfl) wd_1626 wd_1627 wd_16 wd_1628 ⟨by decide, by decide, (by decide +kernel : (parseMethodDescriptor yX11_of.desc).map (fun d => d.parameters.length) = some 2)⟩ rfl (Nat.le_of_ble_eq_true rfl) ⟨⟨by decide, by decide⟩, by decide, by decide⟩ (fun E m9 h9 => h9.elim) (fun r9 m9 h9 => ?_)
              obtain ⟨rfl, h8⟩ := h9
              replace h8 := h8.symm
              subst h8
              show mV g x _ _ _ _ _ [.int (nI (8 * j + 17)), .ref (r + 1)]
              refine v_dup2 (pc := 131) hX dX11_lives_131 rfl rfl ?_
              refine v_iald (j := 8 * j + 17) (v := (gA m (r + 1) (8 * j + 17))) (pc := 132) hX dX11_lives_132 (by simp only [mm]; exact hs.k1) rfl (by omega) (by decide) (((gA_n (by omega)).trans rfl)) ?_
              refine v_iconst (v := 1) (pc := 133) hX dX11_lives_133 (by decide) ?_
              refine v_isub (pc := 134) hX dX11_lives_134 ?_
              refine v_iast (j := 8 * j + 17) (pc := 135) hX dX11_lives_135 (by simp only [mm]; exact hs.k1) rfl (by omega) (by decide) ?_
              refine v_iload_n (pc := 136) hX dX11_lives_136 rfl ?_
              refine v_sipush (v := 700) (pc := 137) hX dX11_lives_137 (by decide) ?_
              refine v_icmp_ge (tgt := 146) (pc := 140) hX dX11_lives_140 (by decide) (fun c8 => ?_) (fun c8 => ?_)
              ·
                refine v_aload_n (pc := 146) hX dX11_lives_146 rfl ?_
                refine v_get (v := .ref (r + 1)) (pc := 147) hX dX11_lives_147 (by simp only [mm]; exact hs.k) (ci := 12) (r := vwC12) rfl 5 (by decide) wd_1511 (fvA rfl (by simp [mm, hs.r1])) ?_
                refine v_iload_n (pc := 150) hX dX11_lives_150 rfl ?_
                refine v_bipush (v := 6) (pc := 151) hX dX11_lives_151 (by decide) ?_
                refine v_callS (z := yX11_of) (pc := 153) hX dX11_lives_153 (c_of2 hO ((sA (sA m (r + 1) (8 * j + 15) (lat (gA m (r + 1) (8 * j + 15)) 0 (gA m (r + 1) 1))) (r + 1) (8 * j + 17) ((gA m (r + 1) (8 * j + 17)) - 1))) (nI j) j 6 rfl) wd_1626 wd_1627 wd_16 wd_1628 ⟨by decide, by decide, (by decide +kernel : (parseMethodDescriptor yX11_of.desc).map (fun d => d.parameters.length) = some 2)⟩ rfl (Nat.le_of_ble_eq_true rfl) ⟨⟨by decide, by decide⟩, by decide, by decide⟩ (fun E m9 h9 => h9.elim) (fun r9 m9 h9 => ?_)
                obtain ⟨rfl, h8⟩ := h9
                replace h8 := h8.symm
                subst h8
                show mV g x _ _ _ _ _ [.int (nI (8 * j + 19)), .ref (r + 1)]
                refine v_iconst (v := 0) (pc := 156) hX dX11_lives_156 (by decide) ?_
                refine v_iast (j := 8 * j + 19) (pc := 157) hX dX11_lives_157 (by simp only [mm]; exact hs.k1) rfl (by omega) (by decide) ?_
                refine v_aload_n (pc := 158) hX dX11_lives_158 rfl ?_
                refine v_get (v := .ref (r + 1)) (pc := 159) hX dX11_lives_159 (by simp only [mm]; exact hs.k) (ci := 12) (r := vwC12) rfl 5 (by decide) wd_1511 (fvA rfl (by simp [mm, hs.r1])) ?_
                refine v_iload_n (pc := 162) hX dX11_lives_162 rfl ?_
                refine v_bipush (v := 7) (pc := 163) hX dX11_lives_163 (by decide) ?_
                refine v_callS (z := yX11_of) (pc := 165) hX dX11_lives_165 (c_of2 hO ((sA (sA (sA m (r + 1) (8 * j + 15) (lat (gA m (r + 1) (8 * j + 15)) 0 (gA m (r + 1) 1))) (r + 1) (8 * j + 17) ((gA m (r + 1) (8 * j + 17)) - 1)) (r + 1) (8 * j + 19) 0)) (nI j) j 7 rfl) wd_1626 wd_1627 wd_16 wd_1628 ⟨by decide, by decide, (by decide +kernel : (parseMethodDescriptor yX11_of.desc).map (fun d => d.parameters.length) = some 2)⟩ rfl (Nat.le_of_ble_eq_true rfl) ⟨⟨by decide, by decide⟩, by decide, by decide⟩ (fun E m9 h9 => h9.elim) (fun r9 m9 h9 => ?_)
                obtain ⟨rfl, h8⟩ := h9
                replace h8 := h8.symm
                subst h8
                show mV g x _ _ _ _ _ [.int (nI (8 * j + 20)), .ref (r + 1)]
                refine v_iconst (v := 0) (pc := 168) hX dX11_lives_168 (by decide) ?_
                refine v_iast (j := 8 * j + 20) (pc := 169) hX dX11_lives_169 (by simp only [mm]; exact hs.k1) rfl (by omega) (by decide) ?_
                refine v_aload_n (pc := 170) hX dX11_lives_170 rfl ?_
                refine v_get (v := .ref (r + 1)) (pc := 171) hX dX11_lives_171 (by simp only [mm]; exact hs.k) (ci := 12) (r := vwC12) rfl 5 (by decide) wd_1511 (fvA rfl (by simp [mm, hs.r1])) ?_
                refine v_iload_n (pc := 174) hX dX11_lives_174 rfl ?_
                refine v_iconst (v := 4) (pc := 175) hX dX11_lives_175 (by decide) ?_
                refine v_callS (z := yX11_of) (pc := 176) hX dX11_lives_176 (c_of2 hO ((sA (sA (sA (sA m (r + 1) (8 * j + 15) (lat (gA m (r + 1) (8 * j + 15)) 0 (gA m (r + 1) 1))) (r + 1) (8 * j + 17) ((gA m (r + 1) (8 * j + 17)) - 1)) (r + 1) (8 * j + 19) 0) (r + 1) (8 * j + 20) 0)) (nI j) j 4 rfl) wd_1626 wd_1627 wd_16 wd_1628 ⟨by decide, by decide, (by decide +kernel : (parseMethodDescriptor yX11_of.desc).map (fun d => d.parameters.length) = some 2)⟩ rfl (Nat.le_of_ble_eq_true rfl) ⟨⟨by decide, by decide⟩, by decide, by decide⟩ (fun E m9 h9 => h9.elim) (fun r9 m9 h9 => ?_)
                obtain ⟨rfl, h8⟩ := h9
                replace h8 := h8.symm
                subst h8
                show mV g x _ _ _ _ _ [.int (nI (8 * j + 17)), .ref (r + 1)]
                refine v_bipush (v := 10) (pc := 179) hX dX11_lives_179 (by decide) ?_
                refine v_iast (j := 8 * j + 17) (pc := 181) hX dX11_lives_181 (by simp only [mm]; exact hs.k1) rfl (by omega) (by decide) ?_
                refine v_iinc (w := nI (j + 1)) (pc := 182) hX dX11_lives_182 rfl (nI_1 _) (by decide) rfl ?_
                refine v_goto (tgt := 19) (pc := 185) hX dX11_lives_185 (by decide) ?_
                refine mV_sub (lv' := [(0, .ref r), (1, .int (nI (j + 1)))]) ⟨rfl, rfl, trivial⟩ ?_
                exact ih (j + 1)  ((sA (sA (sA (sA (sA m (r + 1) (8 * j + 15) (lat (gA m (r + 1) (8 * j + 15)) 0 (gA m (r + 1) 1))) (r + 1) (8 * j + 17) ((gA m (r + 1) (8 * j + 17)) - 1)) (r + 1) (8 * j + 19) 0) (r + 1) (8 * j + 20) 0) (r + 1) (8 * j + 17) 10)) (hs.to (by simp only [mm]) (by simp only [mm])) (((gA_n (by omega)).trans ((gA_n (by omega)).trans ((gA_n (by omega)).trans ((gA_n (by omega)).trans ((gA_n (by omega)).trans rfl))))).trans hN) (by omega) (by rw [X11_lives_l1, if_neg c2, if_neg c3, if_neg c4, if_neg c6, if_pos c8] at hp; exact hp)
              ·
                refine v_goto (tgt := 182) (pc := 143) hX dX11_lives_143 (by decide) ?_
                refine v_iinc (w := nI (j + 1)) (pc := 182) hX dX11_lives_182 rfl (nI_1 _) (by decide) rfl ?_
                refine v_goto (tgt := 19) (pc := 185) hX dX11_lives_185 (by decide) ?_
                refine mV_sub (lv' := [(0, .ref r), (1, .int (nI (j + 1)))]) ⟨rfl, rfl, trivial⟩ ?_
                exact ih (j + 1)  ((sA (sA m (r + 1) (8 * j + 15) (lat (gA m (r + 1) (8 * j + 15)) 0 (gA m (r + 1) 1))) (r + 1) (8 * j + 17) ((gA m (r + 1) (8 * j + 17)) - 1))) (hs.to (by simp only [mm]) (by simp only [mm])) (((gA_n (by omega)).trans ((gA_n (by omega)).trans rfl)).trans hN) (by omega) (by rw [X11_lives_l1, if_neg c2, if_neg c3, if_neg c4, if_neg c6, if_neg c8] at hp; exact hp)
        ·
          refine v_goto (tgt := 182) (pc := 93) hX dX11_lives_93 (by decide) ?_
          refine v_iinc (w := nI (j + 1)) (pc := 182) hX dX11_lives_182 rfl (nI_1 _) (by decide) rfl ?_
          refine v_goto (tgt := 19) (pc := 185) hX dX11_lives_185 (by decide) ?_
          refine mV_sub (lv' := [(0, .ref r), (1, .int (nI (j + 1)))]) ⟨rfl, rfl, trivial⟩ ?_
          exact ih (j + 1)  ((sA m (r + 1) (8 * j + 15) (lat (gA m (r + 1) (8 * j + 15)) 0 (gA m (r + 1) 1)))) (hs.to (by simp only [mm]) (by simp only [mm])) (((gA_n (by omega)).trans rfl).trans hN) (by omega) (by rw [X11_lives_l1, if_neg c2, if_pos c3] at hp; exact hp)
      ·
        refine v_iconst (v := 1) (pc := 53) hX dX11_lives_53 (by decide) ?_
        refine v_goto (tgt := 58) (pc := 54) hX dX11_lives_54 (by decide) ?_
        refine v_aload_n (pc := 58) hX dX11_lives_58 rfl ?_
        refine v_get (v := .ref (r + 1)) (pc := 59) hX dX11_lives_59 hs.k (ci := 12) (r := vwC12) rfl 5 (by decide) wd_1511 (fvA rfl hs.r1) ?_
        refine v_iconst (v := 1) (pc := 62) hX dX11_lives_62 (by decide) ?_
        refine v_iald (j := 1) (v := (gA m (r + 1) 1)) (pc := 63) hX dX11_lives_63 hs.k1 rfl (by decide) (by decide) rfl ?_
        refine v_callS (z := yX11_later) (pc := 64) hX dX11_lives_64 (c_lat hO m (gA m (r + 1) (8 * j + 15)) 1 (gA m (r + 1) 1)) wd_1629 wd_1630 wd_16 wd_1631 ⟨by decide, by decide, (by decide +kernel : (parseMethodDescriptor yX11_later.desc).map (fun d => d.parameters.length) = some 3)⟩ rfl (Nat.le_of_ble_eq_true rfl) ⟨⟨by decide, by decide⟩, by decide, by decide⟩ (fun E m9 h9 => h9.elim) (fun r9 m9 h9 => ?_)
        obtain ⟨rfl, h8⟩ := h9
        replace h8 := h8.symm
        subst h8
        show mV g x _ _ _ _ _ [.int (lat (gA m (r + 1) (8 * j + 15)) 1 (gA m (r + 1) 1))]
        refine v_istore_n (pc := 67) hX dX11_lives_67 (by decide) rfl ?_
        refine v_aload_n (pc := 68) hX dX11_lives_68 rfl ?_
        refine v_get (v := .ref (r + 1)) (pc := 69) hX dX11_lives_69 hs.k (ci := 12) (r := vwC12) rfl 5 (by decide) wd_1511 (fvA rfl hs.r1) ?_
        refine v_iload_n (pc := 72) hX dX11_lives_72 rfl ?_
        refine v_iconst (v := 2) (pc := 73) hX dX11_lives_73 (by decide) ?_
        refine v_callS (z := yX11_of) (pc := 74) hX dX11_lives_74 (c_of2 hO m (nI j) j 2 rfl) wd_1626 wd_1627 wd_16 wd_1628 ⟨by decide, by decide, (by decide +kernel : (parseMethodDescriptor yX11_of.desc).map (fun d => d.parameters.length) = some 2)⟩ rfl (Nat.le_of_ble_eq_true rfl) ⟨⟨by decide, by decide⟩, by decide, by decide⟩ (fun E m9 h9 => h9.elim) (fun r9 m9 h9 => ?_)
        obtain ⟨rfl, h8⟩ := h9
        replace h8 := h8.symm
        subst h8
        show mV g x _ _ _ _ _ [.int (nI (8 * j + 15)), .ref (r + 1)]
        refine v_iload_n (pc := 77) hX dX11_lives_77 rfl ?_
        refine v_iast (j := 8 * j + 15) (pc := 78) hX dX11_lives_78 hs.k1 rfl (by omega) (by decide) ?_
        refine v_aload_n (pc := 79) hX dX11_lives_79 rfl ?_
        refine v_get (v := .ref (r + 1)) (pc := 80) hX dX11_lives_80 (by simp only [mm]; exact hs.k) (ci := 12) (r := vwC12) rfl 5 (by decide) wd_1511 (fvA rfl (by simp [mm, hs.r1])) ?_
        refine v_iload_n (pc := 83) hX dX11_lives_83 rfl ?_
        refine v_bipush (v := 6) (pc := 84) hX dX11_lives_84 (by decide) ?_
        refine v_callS (z := yX11_of) (pc := 86) hX dX11_lives_86 (c_of2 hO ((sA m (r + 1) (8 * j + 15) (lat (gA m (r + 1) (8 * j + 15)) 1 (gA m (r + 1) 1)))) (nI j) j 6 rfl) wd_1626 wd_1627 wd_16 wd_1628 ⟨by decide, by decide, (by decide +kernel : (parseMethodDescriptor yX11_of.desc).map (fun d => d.parameters.length) = some 2)⟩ rfl (Nat.le_of_ble_eq_true rfl) ⟨⟨by decide, by decide⟩, by decide, by decide⟩ (fun E m9 h9 => h9.elim) (fun r9 m9 h9 => ?_)
        obtain ⟨rfl, h8⟩ := h9
        replace h8 := h8.symm
        subst h8
        show mV g x _ _ _ _ _ [.int (nI (8 * j + 19)), .ref (r + 1)]
        refine v_iald (j := 8 * j + 19) (v := (gA m (r + 1) (8 * j + 19))) (pc := 89) hX dX11_lives_89 (by simp only [mm]; exact hs.k1) rfl (by omega) (by decide) (((gA_n (by omega)).trans rfl)) ?_
        refine v_if_ne (tgt := 96) (pc := 90) hX dX11_lives_90 (by decide) (fun c9 => ?_) (fun c9 => ?_)
        ·
          refine v_iload_n (pc := 96) hX dX11_lives_96 rfl ?_
          refine v_sipush (v := 200) (pc := 97) hX dX11_lives_97 (by decide) ?_
          refine v_sipush (v := 400) (pc := 100) hX dX11_lives_100 (by decide) ?_
          refine v_callS (z := yX11_isIn) (pc := 103) hX dX11_lives_103 (c_isI hO ((sA m (r + 1) (8 * j + 15) (lat (gA m (r + 1) (8 * j + 15)) 1 (gA m (r + 1) 1)))) (lat (gA m (r + 1) (8 * j + 15)) 1 (gA m (r + 1) 1)) 200 400) wd_1592 wd_1593 wd_16 wd_1594 ⟨by decide, by decide, (by decide +kernel : (parseMethodDescriptor yX11_isIn.desc).map (fun d => d.parameters.length) = some 3)⟩ rfl (Nat.le_of_ble_eq_true rfl) ⟨⟨by decide, by decide⟩, by decide, by decide⟩ (fun E m9 h9 => h9.elim) (fun r9 m9 h9 => ?_)
          obtain ⟨rfl, h8⟩ := h9
          replace h8 := h8.symm
          subst h8
          show mV g x _ _ _ _ _ [.int (isI (lat (gA m (r + 1) (8 * j + 15)) 1 (gA m (r + 1) 1)) 200 400)]
          refine v_if_eq (tgt := 136) (pc := 106) hX dX11_lives_106 (by decide) (fun c10 => ?_) (fun c10 => ?_)
          ·
            refine v_iload_n (pc := 136) hX dX11_lives_136 rfl ?_
            refine v_sipush (v := 700) (pc := 137) hX dX11_lives_137 (by decide) ?_
            refine v_icmp_ge (tgt := 146) (pc := 140) hX dX11_lives_140 (by decide) (fun c11 => ?_) (fun c11 => ?_)
            ·
              refine v_aload_n (pc := 146) hX dX11_lives_146 rfl ?_
              refine v_get (v := .ref (r + 1)) (pc := 147) hX dX11_lives_147 (by simp only [mm]; exact hs.k) (ci := 12) (r := vwC12) rfl 5 (by decide) wd_1511 (fvA rfl (by simp [mm, hs.r1])) ?_
              refine v_iload_n (pc := 150) hX dX11_lives_150 rfl ?_
              refine v_bipush (v := 6) (pc := 151) hX dX11_lives_151 (by decide) ?_
              refine v_callS (z := yX11_of) (pc := 153) hX dX11_lives_153 (c_of2 hO ((sA m (r + 1) (8 * j + 15) (lat (gA m (r + 1) (8 * j + 15)) 1 (gA m (r + 1) 1)))) (nI j) j 6 rfl) wd_1626 wd_1627 wd_16 wd_1628 ⟨by decide, by decide, (by decide +kernel : (parseMethodDescriptor yX11_of.desc).map (fun d => d.parameters.length) = some 2)⟩ rfl (Nat.le_of_ble_eq_true rfl) ⟨⟨by decide, by decide⟩, by decide, by decide⟩ (fun E m9 h9 => h9.elim) (fun r9 m9 h9 => ?_)
              obtain ⟨rfl, h8⟩ := h9
              replace h8 := h8.symm
              subst h8
              show mV g x _ _ _ _ _ [.int (nI (8 * j + 19)), .ref (r + 1)]
              refine v_iconst (v := 0) (pc := 156) hX dX11_lives_156 (by decide) ?_
              refine v_iast (j := 8 * j + 19) (pc := 157) hX dX11_lives_157 (by simp only [mm]; exact hs.k1) rfl (by omega) (by decide) ?_
              refine v_aload_n (pc := 158) hX dX11_lives_158 rfl ?_
              refine v_get (v := .ref (r + 1)) (pc := 159) hX dX11_lives_159 (by simp only [mm]; exact hs.k) (ci := 12) (r := vwC12) rfl 5 (by decide) wd_1511 (fvA rfl (by simp [mm, hs.r1])) ?_
              refine v_iload_n (pc := 162) hX dX11_lives_162 rfl ?_
              refine v_bipush (v := 7) (pc := 163) hX dX11_lives_163 (by decide) ?_
              refine v_callS (z := yX11_of) (pc := 165) hX dX11_lives_165 (c_of2 hO ((sA (sA m (r + 1) (8 * j + 15) (lat (gA m (r + 1) (8 * j + 15)) 1 (gA m (r + 1) 1))) (r + 1) (8 * j + 19) 0)) (nI j) j 7 rfl) wd_1626 wd_1627 wd_16 wd_1628 ⟨by decide, by decide, (by decide +kernel : (parseMethodDescriptor yX11_of.desc).map (fun d => d.parameters.length) = some 2)⟩ rfl (Nat.le_of_ble_eq_true rfl) ⟨⟨by decide, by decide⟩, by decide, by decide⟩ (fun E m9 h9 => h9.elim) (fun r9 m9 h9 => ?_)
              obtain ⟨rfl, h8⟩ := h9
              replace h8 := h8.symm
              subst h8
              show mV g x _ _ _ _ _ [.int (nI (8 * j + 20)), .ref (r + 1)]
              refine v_iconst (v := 0) (pc := 168) hX dX11_lives_168 (by decide) ?_
              refine v_iast (j := 8 * j + 20) (pc := 169) hX dX11_lives_169 (by simp only [mm]; exact hs.k1) rfl (by omega) (by decide) ?_
              refine v_aload_n (pc := 170) hX dX11_lives_170 rfl ?_
              refine v_get (v := .ref (r + 1)) (pc := 171) hX dX11_lives_171 (by simp only [mm]; exact hs.k) (ci := 12) (r := vwC12) rfl 5 (by decide) wd_1511 (fvA rfl (by simp [mm, hs.r1])) ?_
              refine v_iload_n (pc := 174) hX dX11_lives_174 rfl ?_
              refine v_iconst (v := 4) (pc := 175) hX dX11_lives_175 (by decide) ?_
              refine v_callS (z := yX11_of) (pc := 176) hX dX11_lives_176 (c_of2 hO ((sA (sA (sA m (r + 1) (8 * j + 15) (lat (gA m (r + 1) (8 * j + 15)) 1 (gA m (r + 1) 1))) (r + 1) (8 * j + 19) 0) (r + 1) (8 * j + 20) 0)) (nI j) j 4 rfl) wd_1626 wd_1627 wd_16 wd_1628 ⟨by decide, by decide, (by decide +kernel : (parseMethodDescriptor yX11_of.desc).map (fun d => d.parameters.length) = some 2)⟩ rfl (Nat.le_of_ble_eq_true rfl) ⟨⟨by decide, by decide⟩, by decide, by decide⟩ (fun E m9 h9 => h9.elim) (fun r9 m9 h9 => ?_)
              obtain ⟨rfl, h8⟩ := h9
              replace h8 := h8.symm
              subst h8
              show mV g x _ _ _ _ _ [.int (nI (8 * j + 17)), .ref (r + 1)]
              refine v_bipush (v := 10) (pc := 179) hX dX11_lives_179 (by decide) ?_
              refine v_iast (j := 8 * j + 17) (pc := 181) hX dX11_lives_181 (by simp only [mm]; exact hs.k1) rfl (by omega) (by decide) ?_
              refine v_iinc (w := nI (j + 1)) (pc := 182) hX dX11_lives_182 rfl (nI_1 _) (by decide) rfl ?_
              refine v_goto (tgt := 19) (pc := 185) hX dX11_lives_185 (by decide) ?_
              refine mV_sub (lv' := [(0, .ref r), (1, .int (nI (j + 1)))]) ⟨rfl, rfl, trivial⟩ ?_
              exact ih (j + 1)  ((sA (sA (sA (sA m (r + 1) (8 * j + 15) (lat (gA m (r + 1) (8 * j + 15)) 1 (gA m (r + 1) 1))) (r + 1) (8 * j + 19) 0) (r + 1) (8 * j + 20) 0) (r + 1) (8 * j + 17) 10)) (hs.to (by simp only [mm]) (by simp only [mm])) (((gA_n (by omega)).trans ((gA_n (by omega)).trans ((gA_n (by omega)).trans ((gA_n (by omega)).trans rfl)))).trans hN) (by omega) (by rw [X11_lives_l1, if_pos c2, if_neg c9, if_pos c10, if_pos c11] at hp; exact hp)
            ·
              refine v_goto (tgt := 182) (pc := 143) hX dX11_lives_143 (by decide) ?_
              refine v_iinc (w := nI (j + 1)) (pc := 182) hX dX11_lives_182 rfl (nI_1 _) (by decide) rfl ?_
              refine v_goto (tgt := 19) (pc := 185) hX dX11_lives_185 (by decide) ?_
              refine mV_sub (lv' := [(0, .ref r), (1, .int (nI (j + 1)))]) ⟨rfl, rfl, trivial⟩ ?_
              exact ih (j + 1)  ((sA m (r + 1) (8 * j + 15) (lat (gA m (r + 1) (8 * j + 15)) 1 (gA m (r + 1) 1)))) (hs.to (by simp only [mm]) (by simp only [mm])) (((gA_n (by omega)).trans rfl).trans hN) (by omega) (by rw [X11_lives_l1, if_pos c2, if_neg c9, if_pos c10, if_neg c11] at hp; exact hp)
          ·
            refine v_aload_n (pc := 109) hX dX11_lives_109 rfl ?_
            refine v_get (v := .ref (r + 1)) (pc := 110) hX dX11_lives_110 (by simp only [mm]; exact hs.k) (ci := 12) (r := vwC12) rfl 5 (by decide) wd_1511 (fvA rfl (by simp [mm, hs.r1])) ?_
            refine v_iload_n (pc := 113) hX dX11_lives_113 rfl ?_
            refine v_iconst (v := 4) (pc := 114) hX dX11_lives_114 (by decide) ?_
            refine v_callS (z := yX11_of) (pc := 115) hX dX11_lives_115 (c_of2 hO ((sA m (r + 1) (8 * j + 15) (lat (gA m (r + 1) (8 * j + 15)) 1 (gA m (r + 1) 1)))) (nI j) j 4 rfl) wd_1626 wd_1627 wd_16 wd_1628 ⟨by decide, by decide, (by decide +kernel : (parseMethodDescriptor yX11_of.desc).map (fun d => d.parameters.length) = some 2)⟩ rfl (Nat.le_of_ble_eq_true rfl) ⟨⟨by decide, by decide⟩, by decide, by decide⟩ (fun E m9 h9 => h9.elim) (fun r9 m9 h9 => ?_)
            obtain ⟨rfl, h8⟩ := h9
            replace h8 := h8.symm
            subst h8
            show mV g x _ _ _ _ _ [.int (nI (8 * j + 17)), .ref (r + 1)]
            refine v_iald (j := 8 * j + 17) (v := (gA m (r + 1) (8 * j + 17))) (pc := 118) hX dX11_lives_118 (by simp only [mm]; exact hs.k1) rfl (by omega) (by decide) (((gA_n (by omega)).trans rfl)) ?_
            refine v_if_le (tgt := 136) (pc := 119) hX dX11_lives_119 (by decide) (fun c12 => ?_) (fun c12 => ?_)
            ·
              refine v_iload_n (pc := 136) hX dX11_lives_136 rfl ?_
              refine v_sipush (v := 700) (pc := 137) hX dX11_lives_137 (by decide) ?_
              refine v_icmp_ge (tgt := 146) (pc := 140) hX dX11_lives_140 (by decide) (fun c13 => ?_) (fun c13 => ?_)
              ·
                refine v_aload_n (pc := 146) hX dX11_lives_146 rfl ?_
                refine v_get (v := .ref (r + 1)) (pc := 147) hX dX11_lives_147 (by simp only [mm]; exact hs.k) (ci := 12) (r := vwC12) rfl 5 (by decide) wd_1511 (fvA rfl (by simp [mm, hs.r1])) ?_
                refine v_iload_n (pc := 150) hX dX11_lives_150 rfl ?_
                refine v_bipush (v := 6) (pc := 151) hX dX11_lives_151 (by decide) ?_
                refine v_callS (z := yX11_of) (pc := 153) hX dX11_lives_153 (c_of2 hO ((sA m (r + 1) (8 * j + 15) (lat (gA m (r + 1) (8 * j + 15)) 1 (gA m (r + 1) 1)))) (nI j) j 6 rfl) wd_1626 wd_1627 wd_16 wd_1628 ⟨by decide, by decide, (by decide +kernel : (parseMethodDescriptor yX11_of.desc).map (fun d => d.parameters.length) = some 2)⟩ rfl (Nat.le_of_ble_eq_true rfl) ⟨⟨by decide, by decide⟩, by decide, by decide⟩ (fun E m9 h9 => h9.elim) (fun r9 m9 h9 => ?_)
                obtain ⟨rfl, h8⟩ := h9
                replace h8 := h8.symm
                subst h8
                show mV g x _ _ _ _ _ [.int (nI (8 * j + 19)), .ref (r + 1)]
                refine v_iconst (v := 0) (pc := 156) hX dX11_lives_156 (by decide) ?_
                refine v_iast (j := 8 * j + 19) (pc := 157) hX dX11_lives_157 (by simp only [mm]; exact hs.k1) rfl (by omega) (by decide) ?_
                refine v_aload_n (pc := 158) hX dX11_lives_158 rfl ?_
                refine v_get (v := .ref (r + 1)) (pc := 159) hX dX11_lives_159 (by simp only [mm]; exact hs.k) (ci := 12) (r := vwC12) rfl 5 (by decide) wd_1511 (fvA rfl (by simp [mm, hs.r1])) ?_
                refine v_iload_n (pc := 162) hX dX11_lives_162 rfl ?_
                refine v_bipush (v := 7) (pc := 163) hX dX11_lives_163 (by decide) ?_
                refine v_callS (z := yX11_of) (pc := 165) hX dX11_lives_165 (c_of2 hO ((sA (sA m (r + 1) (8 * j + 15) (lat (gA m (r + 1) (8 * j + 15)) 1 (gA m (r + 1) 1))) (r + 1) (8 * j + 19) 0)) (nI j) j 7 rfl) wd_1626 wd_1627 wd_16 wd_1628 ⟨by decide, by decide, (by decide +kernel : (parseMethodDescriptor yX11_of.desc).map (fun d => d.parameters.length) = some 2)⟩ rfl (Nat.le_of_ble_eq_true rfl) ⟨⟨by decide, by decide⟩, by decide, by decide⟩ (fun E m9 h9 => h9.elim) (fun r9 m9 h9 => ?_)
                obtain ⟨rfl, h8⟩ := h9
                replace h8 := h8.symm
                subst h8
                show mV g x _ _ _ _ _ [.int (nI (8 * j + 20)), .ref (r + 1)]
                refine v_iconst (v := 0) (pc := 168) hX dX11_lives_168 (by decide) ?_
                refine v_iast (j := 8 * j + 20) (pc := 169) hX dX11_lives_169 (by simp only [mm]; exact hs.k1) rfl (by omega) (by decide) ?_
                refine v_aload_n (pc := 170) hX dX11_lives_170 rfl ?_
                refine v_get (v := .ref (r + 1)) (pc := 171) hX dX11_lives_171 (by simp only [mm]; exact hs.k) (ci := 12) (r := vwC12) rfl 5 (by decide) wd_1511 (fvA rfl (by simp [mm, hs.r1])) ?_
                refine v_iload_n (pc := 174) hX dX11_lives_174 rfl ?_
                refine v_iconst (v := 4) (pc := 175) hX dX11_lives_175 (by decide) ?_
                refine v_callS (z := yX11_of) (pc := 176) hX dX11_lives_176 (c_of2 hO ((sA (sA (sA m (r + 1) (8 * j + 15) (lat (gA m (r + 1) (8 * j + 15)) 1 (gA m (r + 1) 1))) (r + 1) (8 * j + 19) 0) (r + 1) (8 * j + 20) 0)) (nI j) j 4 rfl) wd_1626 wd_1627 wd_16 wd_1628 ⟨by decide, by decide, (by decide +kernel : (parseMethodDescriptor yX11_of.desc).map (fun d => d.parameters.length) = some 2)⟩ rfl (Nat.le_of_ble_eq_true rfl) ⟨⟨by decide, by decide⟩, by decide, by decide⟩ (fun E m9 h9 => h9.elim) (fun r9 m9 h9 => ?_)
                obtain ⟨rfl, h8⟩ := h9
                replace h8 := h8.symm
                subst h8
                show mV g x _ _ _ _ _ [.int (nI (8 * j + 17)), .ref (r + 1)]
                refine v_bipush (v := 10) (pc := 179) hX dX11_lives_179 (by decide) ?_
                refine v_iast (j := 8 * j + 17) (pc := 181) hX dX11_lives_181 (by simp only [mm]; exact hs.k1) rfl (by omega) (by decide) ?_
                refine v_iinc (w := nI (j + 1)) (pc := 182) hX dX11_lives_182 rfl (nI_1 _) (by decide) rfl ?_
                refine v_goto (tgt := 19) (pc := 185) hX dX11_lives_185 (by decide) ?_
                refine mV_sub (lv' := [(0, .ref r), (1, .int (nI (j + 1)))]) ⟨rfl, rfl, trivial⟩ ?_
                exact ih (j + 1)  ((sA (sA (sA (sA m (r + 1) (8 * j + 15) (lat (gA m (r + 1) (8 * j + 15)) 1 (gA m (r + 1) 1))) (r + 1) (8 * j + 19) 0) (r + 1) (8 * j + 20) 0) (r + 1) (8 * j + 17) 10)) (hs.to (by simp only [mm]) (by simp only [mm])) (((gA_n (by omega)).trans ((gA_n (by omega)).trans ((gA_n (by omega)).trans ((gA_n (by omega)).trans rfl)))).trans hN) (by omega) (by rw [X11_lives_l1, if_pos c2, if_neg c9, if_neg c10, if_pos c12, if_pos c13] at hp; exact hp)
              ·
                refine v_goto (tgt := 182) (pc := 143) hX dX11_lives_143 (by decide) ?_
                refine v_iinc (w := nI (j + 1)) (pc := 182) hX dX11_lives_182 rfl (nI_1 _) (by decide) rfl ?_
                refine v_goto (tgt := 19) (pc := 185) hX dX11_lives_185 (by decide) ?_
                refine mV_sub (lv' := [(0, .ref r), (1, .int (nI (j + 1)))]) ⟨rfl, rfl, trivial⟩ ?_
                exact ih (j + 1)  ((sA m (r + 1) (8 * j + 15) (lat (gA m (r + 1) (8 * j + 15)) 1 (gA m (r + 1) 1)))) (hs.to (by simp only [mm]) (by simp only [mm])) (((gA_n (by omega)).trans rfl).trans hN) (by omega) (by rw [X11_lives_l1, if_pos c2, if_neg c9, if_neg c10, if_pos c12, if_neg c13] at hp; exact hp)
            ·
              refine v_aload_n (pc := 122) hX dX11_lives_122 rfl ?_
              refine v_get (v := .ref (r + 1)) (pc := 123) hX dX11_lives_123 (by simp only [mm]; exact hs.k) (ci := 12) (r := vwC12) rfl 5 (by decide) wd_1511 (fvA rfl (by simp [mm, hs.r1])) ?_
              refine v_iload_n (pc := 126) hX dX11_lives_126 rfl ?_
              refine v_iconst (v := 4) (pc := 127) hX dX11_lives_127 (by decide) ?_
              refine v_callS (z := yX11_of) (pc := 128) hX dX11_lives_128 (c_of2 hO ((sA m (r + 1) (8 * j + 15) (lat (gA m (r + 1) (8 * j + 15)) 1 (gA m (r + 1) 1)))) (nI j) j 4 rfl) wd_1626 wd_1627 wd_16 wd_1628 ⟨by decide, by decide, (by decide +kernel : (parseMethodDescriptor yX11_of.desc).map (fun d => d.parameters.length) = some 2)⟩ rfl (Nat.le_of_ble_eq_true rfl) ⟨⟨by decide, by decide⟩, by decide, by decide⟩ (fun E m9 h9 => h9.elim) (fun r9 m9 h9 => ?_)
              obtain ⟨rfl, h8⟩ := h9
              replace h8 := h8.symm
              subst h8
              show mV g x _ _ _ _ _ [.int (nI (8 * j + 17)), .ref (r + 1)]
              refine v_dup2 (pc := 131) hX dX11_lives_131 rfl rfl ?_
              refine v_iald (j := 8 * j + 17) (v := (gA m (r + 1) (8 * j + 17))) (pc := 132) hX dX11_lives_132 (by simp only [mm]; exact hs.k1) rfl (by omega) (by decide) (((gA_n (by omega)).trans rfl)) ?_
              refine v_iconst (v := 1) (pc := 133) hX dX11_lives_133 (by decide) ?_
              refine v_isub (pc := 134) hX dX11_lives_134 ?_
              refine v_iast (j := 8 * j + 17) (pc := 135) hX dX11_lives_135 (by simp only [mm]; exact hs.k1) rfl (by omega) (by decide) ?_
              refine v_iload_n (pc := 136) hX dX11_lives_136 rfl ?_
              refine v_sipush (v := 700) (pc := 137) hX dX11_lives_137 (by decide) ?_
              refine v_icmp_ge (tgt := 146) (pc := 140) hX dX11_lives_140 (by decide) (fun c14 => ?_) (fun c14 => ?_)
              ·
                refine v_aload_n (pc := 146) hX dX11_lives_146 rfl ?_
                refine v_get (v := .ref (r + 1)) (pc := 147) hX dX11_lives_147 (by simp only [mm]; exact hs.k) (ci := 12) (r := vwC12) rfl 5 (by decide) wd_1511 (fvA rfl (by simp [mm, hs.r1])) ?_
                refine v_iload_n (pc := 150) hX dX11_lives_150 rfl ?_
                refine v_bipush (v := 6) (pc := 151) hX dX11_lives_151 (by decide) ?_
                refine v_callS (z := yX11_of) (pc := 153) hX dX11_lives_153 (c_of2 hO ((sA (sA m (r + 1) (8 * j + 15) (lat (gA m (r + 1) (8 * j + 15)) 1 (gA m (r + 1) 1))) (r + 1) (8 * j + 17) ((gA m (r + 1) (8 * j + 17)) - 1))) (nI j) j 6 rfl) wd_1626 wd_1627 wd_16 wd_1628 ⟨by decide, by decide, (by decide +kernel : (parseMethodDescriptor yX11_of.desc).map (fun d => d.parameters.length) = some 2)⟩ rfl (Nat.le_of_ble_eq_true rfl) ⟨⟨by decide, by decide⟩, by decide, by decide⟩ (fun E m9 h9 => h9.elim) (fun r9 m9 h9 => ?_)
                obtain ⟨rfl, h8⟩ := h9
                replace h8 := h8.symm
                subst h8
                show mV g x _ _ _ _ _ [.int (nI (8 * j + 19)), .ref (r + 1)]
                refine v_iconst (v := 0) (pc := 156) hX dX11_lives_156 (by decide) ?_
                refine v_iast (j := 8 * j + 19) (pc := 157) hX dX11_lives_157 (by simp only [mm]; exact hs.k1) rfl (by omega) (by decide) ?_
                refine v_aload_n (pc := 158) hX dX11_lives_158 rfl ?_
                refine v_get (v := .ref (r + 1)) (pc := 159) hX dX11_lives_159 (by simp only [mm]; exact hs.k) (ci := 12) (r := vwC12) rfl 5 (by decide) wd_1511 (fvA rfl (by simp [mm, hs.r1])) ?_
                refine v_iload_n (pc := 162) hX dX11_lives_162 rfl ?_
                refine v_bipush (v := 7) (pc := 163) hX dX11_lives_163 (by decide) ?_
                refine v_callS (z := yX11_of) (pc := 165) hX dX11_lives_165 (c_of2 hO ((sA (sA (sA m (r + 1) (8 * j + 15) (lat (gA m (r + 1) (8 * j + 15)) 1 (gA m (r + 1) 1))) (r + 1) (8 * j + 17) ((gA m (r + 1) (8 * j + 17)) - 1)) (r + 1) (8 * j + 19) 0)) (nI j) j 7 rfl) wd_1626 wd_1627 wd_16 wd_1628 ⟨by decide, by decide, (by decide +kernel : (parseMethodDescriptor yX11_of.desc).map (fun d => d.parameters.length) = some 2)⟩ rfl (Nat.le_of_ble_eq_true rfl) ⟨⟨by decide, by decide⟩, by decide, by decide⟩ (fun E m9 h9 => h9.elim) (fun r9 m9 h9 => ?_)
                obtain ⟨rfl, h8⟩ := h9
                replace h8 := h8.symm
                subst h8
                show mV g x _ _ _ _ _ [.int (nI (8 * j + 20)), .ref (r + 1)]
                refine v_iconst (v := 0) (pc := 168) hX dX11_lives_168 (by decide) ?_
                refine v_iast (j := 8 * j + 20) (pc := 169) hX dX11_lives_169 (by simp only [mm]; exact hs.k1) rfl (by omega) (by decide) ?_
                refine v_aload_n (pc := 170) hX dX11_lives_170 rfl ?_
                refine v_get (v := .ref (r + 1)) (pc := 171) hX dX11_lives_171 (by simp only [mm]; exact hs.k) (ci := 12) (r := vwC12) rfl 5 (by decide) wd_1511 (fvA rfl (by simp [mm, hs.r1])) ?_
                refine v_iload_n (pc := 174) hX dX11_lives_174 rfl ?_
                refine v_iconst (v := 4) (pc := 175) hX dX11_lives_175 (by decide) ?_
                refine v_callS (z := yX11_of) (pc := 176) hX dX11_lives_176 (c_of2 hO ((sA (sA (sA (sA m (r + 1) (8 * j + 15) (lat (gA m (r + 1) (8 * j + 15)) 1 (gA m (r + 1) 1))) (r + 1) (8 * j + 17) ((gA m (r + 1) (8 * j + 17)) - 1)) (r + 1) (8 * j + 19) 0) (r + 1) (8 * j + 20) 0)) (nI j) j 4 rfl) wd_1626 wd_1627 wd_16 wd_1628 ⟨by decide, by decide, (by decide +kernel : (parseMethodDescriptor yX11_of.desc).map (fun d => d.parameters.length) = some 2)⟩ rfl (Nat.le_of_ble_eq_true rfl) ⟨⟨by decide, by decide⟩, by decide, by decide⟩ (fun E m9 h9 => h9.elim) (fun r9 m9 h9 => ?_)
                obtain ⟨rfl, h8⟩ := h9
                replace h8 := h8.symm
                subst h8
                show mV g x _ _ _ _ _ [.int (nI (8 * j + 17)), .ref (r + 1)]
                refine v_bipush (v := 10) (pc := 179) hX dX11_lives_179 (by decide) ?_
                refine v_iast (j := 8 * j + 17) (pc := 181) hX dX11_lives_181 (by simp only [mm]; exact hs.k1) rfl (by omega) (by decide) ?_
                refine v_iinc (w := nI (j + 1)) (pc := 182) hX dX11_lives_182 rfl (nI_1 _) (by decide) rfl ?_
                refine v_goto (tgt := 19) (pc := 185) hX dX11_lives_185 (by decide) ?_
                refine mV_sub (lv' := [(0, .ref r), (1, .int (nI (j + 1)))]) ⟨rfl, rfl, trivial⟩ ?_
                exact ih (j + 1)  ((sA (sA (sA (sA (sA m (r + 1) (8 * j + 15) (lat (gA m (r + 1) (8 * j + 15)) 1 (gA m (r + 1) 1))) (r + 1) (8 * j + 17) ((gA m (r + 1) (8 * j + 17)) - 1)) (r + 1) (8 * j + 19) 0) (r + 1) (8 * j + 20) 0) (r + 1) (8 * j + 17) 10)) (hs.to (by simp only [mm]) (by simp only [mm])) (((gA_n (by omega)).trans ((gA_n (by omega)).trans ((gA_n (by omega)).trans ((gA_n (by omega)).trans ((gA_n (by omega)).trans rfl))))).trans hN) (by omega) (by rw [X11_lives_l1, if_pos c2, if_neg c9, if_neg c10, if_neg c12, if_pos c14] at hp; exact hp)
              ·
                refine v_goto (tgt := 182) (pc := 143) hX dX11_lives_143 (by decide) ?_
                refine v_iinc (w := nI (j + 1)) (pc := 182) hX dX11_lives_182 rfl (nI_1 _) (by decide) rfl ?_
                refine v_goto (tgt := 19) (pc := 185) hX dX11_lives_185 (by decide) ?_
                refine mV_sub (lv' := [(0, .ref r), (1, .int (nI (j + 1)))]) ⟨rfl, rfl, trivial⟩ ?_
                exact ih (j + 1)  ((sA (sA m (r + 1) (8 * j + 15) (lat (gA m (r + 1) (8 * j + 15)) 1 (gA m (r + 1) 1))) (r + 1) (8 * j + 17) ((gA m (r + 1) (8 * j + 17)) - 1))) (hs.to (by simp only [mm]) (by simp only [mm])) (((gA_n (by omega)).trans ((gA_n (by omega)).trans rfl)).trans hN) (by omega) (by rw [X11_lives_l1, if_pos c2, if_neg c9, if_neg c10, if_neg c12, if_neg c14] at hp; exact hp)
        ·
          refine v_goto (tgt := 182) (pc := 93) hX dX11_lives_93 (by decide) ?_
          refine v_iinc (w := nI (j + 1)) (pc := 182) hX dX11_lives_182 rfl (nI_1 _) (by decide) rfl ?_
          refine v_goto (tgt := 19) (pc := 185) hX dX11_lives_185 (by decide) ?_
          refine mV_sub (lv' := [(0, .ref r), (1, .int (nI (j + 1)))]) ⟨rfl, rfl, trivial⟩ ?_
          exact ih (j + 1)  ((sA m (r + 1) (8 * j + 15) (lat (gA m (r + 1) (8 * j + 15)) 1 (gA m (r + 1) 1)))) (hs.to (by simp only [mm]) (by simp only [mm])) (((gA_n (by omega)).trans rfl).trans hN) (by omega) (by rw [X11_lives_l1, if_pos c2, if_pos c9] at hp; exact hp)
theorem kK_X11_lives_l1 (g : mG) (r : Nat) (N : Nat) : ∀ (n j : Nat)  (m : mM), gK (X11_lives_l1 g r N n j  m) = gK m := by
  intro n
  induction n with
  | zero =>
    intro j  m
    rw [X11_lives_l1]
    repeat' split
    all_goals simp only [mm]
  | succ n ih =>
    intro j  m
    rw [X11_lives_l1]
    repeat' split
    all_goals simp only [mm, ih]
theorem kN_X11_lives_l1 (g : mG) (r : Nat) (N : Nat) : ∀ (n j : Nat)  (m : mM), gN (X11_lives_l1 g r N n j  m) = gN m := by
  intro n
  induction n with
  | zero =>
    intro j  m
    rw [X11_lives_l1]
    repeat' split
    all_goals simp only [mm]
  | succ n ih =>
    intro j  m
    rw [X11_lives_l1]
    repeat' split
    all_goals simp only [mm, ih]
theorem kI_X11_lives_l1 (g : mG) (r : Nat) (N : Nat) : ∀ (n j : Nat)  (m : mM), gI (X11_lives_l1 g r N n j  m) = gI m := by
  intro n
  induction n with
  | zero =>
    intro j  m
    rw [X11_lives_l1]
    repeat' split
    all_goals simp only [mm]
  | succ n ih =>
    intro j  m
    rw [X11_lives_l1]
    repeat' split
    all_goals simp only [mm, ih]
theorem kJ_X11_lives_l1 (g : mG) (r : Nat) (N : Nat) : ∀ (n j : Nat)  (m : mM), gJ (X11_lives_l1 g r N n j  m) = gJ m := by
  intro n
  induction n with
  | zero =>
    intro j  m
    rw [X11_lives_l1]
    repeat' split
    all_goals simp only [mm]
  | succ n ih =>
    intro j  m
    rw [X11_lives_l1]
    repeat' split
    all_goals simp only [mm, ih]
theorem kR_X11_lives_l1 (g : mG) (r : Nat) (N : Nat) : ∀ (n j : Nat)  (m : mM), gR (X11_lives_l1 g r N n j  m) = gR m := by
  intro n
  induction n with
  | zero =>
    intro j  m
    rw [X11_lives_l1]
    repeat' split
    all_goals simp only [mm]
  | succ n ih =>
    intro j  m
    rw [X11_lives_l1]
    repeat' split
    all_goals simp only [mm, ih]
theorem kQ_X11_lives_l1 (g : mG) (r : Nat) (N : Nat) : ∀ (n j : Nat)  (m : mM), gQ (X11_lives_l1 g r N n j  m) = gQ m := by
  intro n
  induction n with
  | zero =>
    intro j  m
    rw [X11_lives_l1]
    repeat' split
    all_goals simp only [mm]
  | succ n ih =>
    intro j  m
    rw [X11_lives_l1]
    repeat' split
    all_goals simp only [mm, ih]
theorem kL_X11_lives_l1 (g : mG) (r : Nat) (N : Nat) : ∀ (n j : Nat)  (m : mM), gL (X11_lives_l1 g r N n j  m) = gL m := by
  intro n
  induction n with
  | zero =>
    intro j  m
    rw [X11_lives_l1]
    repeat' split
    all_goals simp only [mm]
  | succ n ih =>
    intro j  m
    rw [X11_lives_l1]
    repeat' split
    all_goals simp only [mm, ih]
theorem kD_X11_lives_l1 (g : mG) (r : Nat) (N : Nat) : ∀ (n j : Nat)  (m : mM), gD (X11_lives_l1 g r N n j  m) = gD m := by
  intro n
  induction n with
  | zero =>
    intro j  m
    rw [X11_lives_l1]
    repeat' split
    all_goals simp only [mm]
  | succ n ih =>
    intro j  m
    rw [X11_lives_l1]
    repeat' split
    all_goals simp only [mm, ih]
theorem kA_X11_lives_l1 (g : mG) (r : Nat) (N : Nat) (c9 i9 : Nat) (h0 : c9 ≠ r + 1) : ∀ (n j : Nat)  (m : mM), gA (X11_lives_l1 g r N n j  m) c9 i9 = gA m c9 i9 := by
  intro n
  induction n with
  | zero =>
    intro j  m
    rw [X11_lives_l1]
    repeat' split
    all_goals simp [mm, h0]
  | succ n ih =>
    intro j  m
    rw [X11_lives_l1]
    repeat' split
    all_goals simp [mm, ih, h0]
def X11_lives_m (g : mG) (m : mM) (r : Nat) (N : Nat) : mM := X11_lives_l1 g r N N 0  ((X11_burns_m g ((sA m (r + 1) 0 ((gA m (r + 1) 0) + 1))) (r + 1) 85))
theorem kK_X11_lives (g : mG) (m : mM) (r : Nat) (N : Nat) : gK (X11_lives_m g m r N) = gK m := by
  unfold X11_lives_m
  repeat' split
  all_goals simp only [mm, kK_X11_burns, kK_X11_lives_l1]
theorem kN_X11_lives (g : mG) (m : mM) (r : Nat) (N : Nat) : gN (X11_lives_m g m r N) = gN m := by
  unfold X11_lives_m
  repeat' split
  all_goals simp only [mm, kN_X11_burns, kN_X11_lives_l1]
theorem kI_X11_lives (g : mG) (m : mM) (r : Nat) (N : Nat) : gI (X11_lives_m g m r N) = gI m := by
  unfold X11_lives_m
  repeat' split
  all_goals simp only [mm, kI_X11_burns, kI_X11_lives_l1]
theorem kJ_X11_lives (g : mG) (m : mM) (r : Nat) (N : Nat) : gJ (X11_lives_m g m r N) = gJ m := by
  unfold X11_lives_m
  repeat' split
  all_goals simp only [mm, kJ_X11_burns, kJ_X11_lives_l1]
theorem kR_X11_lives (g : mG) (m : mM) (r : Nat) (N : Nat) : gR (X11_lives_m g m r N) = gR m := by
  unfold X11_lives_m
  repeat' split
  all_goals simp only [mm, kR_X11_burns, kR_X11_lives_l1]
theorem kQ_X11_lives (g : mG) (m : mM) (r : Nat) (N : Nat) : gQ (X11_lives_m g m r N) = gQ m := by
  unfold X11_lives_m
  repeat' split
  all_goals simp only [mm, kQ_X11_burns, kQ_X11_lives_l1]
theorem kL_X11_lives (g : mG) (m : mM) (r : Nat) (N : Nat) : gL (X11_lives_m g m r N) = gL m := by
  unfold X11_lives_m
  repeat' split
  all_goals simp only [mm, kL_X11_burns, kL_X11_lives_l1]
theorem kD_X11_lives (g : mG) (m : mM) (r : Nat) (N : Nat) : gD (X11_lives_m g m r N) = gD m := by
  unfold X11_lives_m
  repeat' split
  all_goals simp only [mm, kD_X11_burns, kD_X11_lives_l1]
theorem kA_X11_lives (g : mG) (m : mM) (r : Nat) (N : Nat) (c9 i9 : Nat) (h0 : c9 ≠ r + 1) : gA (X11_lives_m g m r N) c9 i9 = gA m c9 i9 := by
  unfold X11_lives_m
  repeat' split
  all_goals simp [mm, kA_X11_burns, kA_X11_lives_l1, h0]
set_option maxHeartbeats 4000000 in
set_option maxRecDepth 100000 in
theorem c_X11_lives {l : Launch} {g : mG} (hO : mO l g) (m : mM) (r : Nat) (N : Nat) (hs : SR m r) (hN : gA m (r + 1) 5 = nI N) (hN8 : N ≤ 8) : mT l g yX11_lives (.code yX11_lives cX11_lives 3 (Option.none : Option FieldType)) 2 42 0 0 [.ref r] m (fun u m' => u = none ∧ m' = X11_lives_m g m r N) nX := by
  refine mT_of hO (by decide) (Nat.le_of_ble_eq_true rfl) (fun x hX hZ => ?_)
  show mV g x m 0 0 0 [(0, .ref r)] []
  refine v_aload_n (pc := 0) hX dX11_lives_0 rfl ?_
  refine v_get (v := .ref (r + 1)) (pc := 1) hX dX11_lives_1 hs.k (ci := 12) (r := vwC12) rfl 5 (by decide) wd_1511 (fvA rfl hs.r1) ?_
  refine v_iconst (v := 0) (pc := 4) hX dX11_lives_4 (by decide) ?_
  refine v_dup2 (pc := 5) hX dX11_lives_5 rfl rfl ?_
  refine v_iald (j := 0) (v := (gA m (r + 1) 0)) (pc := 6) hX dX11_lives_6 hs.k1 rfl (by decide) (by decide) rfl ?_
  refine v_iconst (v := 1) (pc := 7) hX dX11_lives_7 (by decide) ?_
  refine v_iadd (pc := 8) hX dX11_lives_8 ?_
  refine v_iast (j := 0) (pc := 9) hX dX11_lives_9 hs.k1 rfl (by decide) (by decide) ?_
  refine v_aload_n (pc := 10) hX dX11_lives_10 rfl ?_
  refine v_get (v := .ref (r + 1)) (pc := 11) hX dX11_lives_11 (by simp only [mm]; exact hs.k) (ci := 12) (r := vwC12) rfl 5 (by decide) wd_1511 (fvA rfl (by simp [mm, hs.r1])) ?_
  refine v_callS (z := yX11_burns) (pc := 14) hX dX11_lives_14 (c_X11_burns hO ((sA m (r + 1) 0 ((gA m (r + 1) 0) + 1))) (r + 1) 85 (by simp only [mm]; exact hs.k1) (by decide) (by decide)) wd_1623 wd_1624 wd_16 wd_1625 ⟨by decide, by decide, (by decide +kernel : (parseMethodDescriptor yX11_burns.desc).map (fun d => d.parameters.length) = some 1)⟩ rfl (Nat.le_of_ble_eq_true rfl) ⟨⟨by decide, by decide⟩, by decide, by decide⟩ (fun E m9 h9 => h9.elim) (fun r9 m9 h9 => ?_)
  obtain ⟨rfl, h8⟩ := h9
  replace h8 := h8.symm
  subst h8
  show mV g x _ _ _ _ _ []
  refine v_iconst (v := 0) (pc := 17) hX dX11_lives_17 (by decide) ?_
  refine v_istore_n (pc := 18) hX dX11_lives_18 (by decide) rfl ?_
  refine mV_sub (lv' := [(0, .ref r), (1, .int (nI 0))]) ⟨rfl, rfl, trivial⟩ ?_
  exact lp_X11_lives_l1 hO r N hN8 hX hZ N 0  ((X11_burns_m g ((sA m (r + 1) 0 ((gA m (r + 1) 0) + 1))) (r + 1) 85)) (hs.to (by simp only [mm, kK_X11_burns]) (by simp only [mm, kR_X11_burns])) (((bu_n (g := g) (n := 85) (by omega)).trans ((gA_n (by omega)).trans rfl)).trans hN) (by omega) ⟨rfl, (by rw [X11_lives_m])⟩
theorem li_l {g : mG} {r N i : Nat} (h : i = 5 ∨ i = 6) : ∀ (n j : Nat) (m : mM), gA (X11_lives_l1 g r N n j m) (r + 1) i = gA m (r + 1) i := by
  intro n
  induction n with
  | zero => intro j m; rw [X11_lives_l1]
  | succ n ih =>
    intro j m
    rw [X11_lives_l1]
    have e : ∀ (m : mM) (k : Nat) (v : Int32), 13 ≤ k → gA (sA m (r + 1) k v) (r + 1) i = gA m (r + 1) i := fun m k v hk => gA_n (by omega)
    repeat' split
    all_goals rw [ih]
    all_goals simp only [mm]
    all_goals (repeat rw [if_neg (by omega)])
theorem li_n {g : mG} {m : mM} {r N i : Nat} (h : i = 5 ∨ i = 6) : gA (X11_lives_m g m r N) (r + 1) i = gA m (r + 1) i := by
  unfold X11_lives_m
  rw [li_l h, bu_n (by omega)]
  exact gA_n (by omega)
theorem isI_0 {a b c : Int32} (h : ¬ isI a b c = 0) : ¬ a < b ∧ a ≤ c := by
  unfold isI at h
  split at h
  · exact absurd rfl h
  · rename_i h1
    split at h
    · exact absurd rfl h
    · rename_i h2
      exact ⟨h1, Int32.not_lt.mp h2⟩
theorem isI_T {a : Int32} (h : ¬ isI a 1 60 = 0) : a = nI a.toNatClampNeg ∧ a.toNatClampNeg ≤ 60 := min_T (isI_0 h).1 (isI_0 h).2
def X11_passes_l1 (g : mG) (r : Nat) (a : Int32) (N : Nat) : Nat → Nat → mM → Int32 × mM
  | 0, j, m => (gA m (r + 1) 1, m)
  | n + 1, j, m => X11_passes_l1 g r a N n (j + 1)  ((X11_lives_m g m r N))
set_option maxHeartbeats 4000000 in
set_option maxRecDepth 100000 in
theorem lp_X11_passes_l1 {l : Launch} {g : mG} {x : mCx} (hO : mO l g) (r : Nat) (a : Int32) (N : Nat) (hN8 : N ≤ 8) (hT : a = nI a.toNatClampNeg ∧ a.toNatClampNeg ≤ 60) {pst : Option Value → mM → Prop} {XX : String → mM → Prop} (hX : mX l g x cX11_passes yX11_passes { frames := 3, cells := 0, slots := 0, locals := 64 } 3) (hZ : mZ g x (Option.some FieldType.int) [] pst XX 0 0) : ∀ (n j : Nat)  (m : mM) (hs : SR m r) (hN : gA m (r + 1) 5 = nI N) (hj : j + n = a.toNatClampNeg) (hp : pst (some (.int ((X11_passes_l1 g r a N n j  m).1))) ((X11_passes_l1 g r a N n j  m).2)), mV g x m 0 0 18 [(0, .ref r), (1, .int a), (2, .int (nI j))] [] := by
  intro n
  induction n with
  | zero =>
    intro j  m hs hN hj hp
    refine v_iload_n (pc := 18) hX dX11_passes_18 rfl ?_
    refine v_iload_n (pc := 19) hX dX11_passes_19 rfl ?_
    refine v_icmp_ge (tgt := 33) (pc := 20) hX dX11_passes_20 (by decide) (fun c1 => ?_) (fun c1 => ?_)
    ·
      refine v_aload_n (pc := 33) hX dX11_passes_33 rfl ?_
      refine v_get (v := .ref (r + 1)) (pc := 34) hX dX11_passes_34 hs.k (ci := 12) (r := vwC12) rfl 5 (by decide) wd_1511 (fvA rfl hs.r1) ?_
      refine v_iconst (v := 1) (pc := 37) hX dX11_passes_37 (by decide) ?_
      refine v_iald (j := 1) (v := (gA m (r + 1) 1)) (pc := 38) hX dX11_passes_38 hs.k1 rfl (by decide) (by decide) rfl ?_
      exact v_iret (pc := 39) hX hZ dX11_passes_39 (by decide) (by decide) (by rw [X11_passes_l1] at hp; exact hp)
    · exact absurd (by rw [hT.1]; exact nI_le (by omega) (by have := hT.2; omega)) c1
  | succ n ih =>
    intro j  m hs hN hj hp
    refine v_iload_n (pc := 18) hX dX11_passes_18 rfl ?_
    refine v_iload_n (pc := 19) hX dX11_passes_19 rfl ?_
    refine v_icmp_ge (tgt := 33) (pc := 20) hX dX11_passes_20 (by decide) (fun c1 => ?_) (fun c1 => ?_)
    · exact absurd c1 (by rw [hT.1]; exact nI_ge (by omega) (by have := hT.2; omega))
    ·
      refine v_aload_n (pc := 23) hX dX11_passes_23 rfl ?_
      refine v_callV (z := yX11_lives) (pc := 24) hX dX11_passes_24 (c_X11_lives hO m r N hs hN hN8) hs.k rfl wd_1619 wd_1621 wp_23 wd_16 wd_1622 ⟨by decide, by decide, (by decide +kernel : (parseMethodDescriptor yX11_lives.desc).map (fun d => d.parameters.length) = some 0)⟩ rfl (Nat.le_of_ble_eq_true rfl) ⟨⟨by decide, by decide⟩, by decide, by decide⟩ (fun E m9 h9 => h9.elim) (fun r9 m9 h9 => ?_)
      obtain ⟨rfl, h8⟩ := h9
      replace h8 := h8.symm
      subst h8
      show mV g x _ _ _ _ _ []
      refine v_iinc (w := nI (j + 1)) (pc := 27) hX dX11_passes_27 rfl (nI_1 _) (by decide) rfl ?_
      refine v_goto (tgt := 18) (pc := 30) hX dX11_passes_30 (by decide) ?_
      refine mV_sub (lv' := [(0, .ref r), (1, .int a), (2, .int (nI (j + 1)))]) ⟨rfl, rfl, rfl, trivial⟩ ?_
      exact ih (j + 1)  ((X11_lives_m g m r N)) (hs.to (by simp only [mm, kK_X11_lives]) (by simp only [mm, kR_X11_lives])) (((li_n (g := g) (N := N) (by omega)).trans rfl).trans hN) (by omega) (by rw [X11_passes_l1] at hp; exact hp)
theorem kK_X11_passes_l1 (g : mG) (r : Nat) (a : Int32) (N : Nat) : ∀ (n j : Nat)  (m : mM), gK ((X11_passes_l1 g r a N n j  m).2) = gK m := by
  intro n
  induction n with
  | zero =>
    intro j  m
    rw [X11_passes_l1]
    repeat' split
    all_goals simp only [mm, kK_X11_lives]
  | succ n ih =>
    intro j  m
    rw [X11_passes_l1]
    repeat' split
    all_goals simp only [mm, ih, kK_X11_lives]
theorem kN_X11_passes_l1 (g : mG) (r : Nat) (a : Int32) (N : Nat) : ∀ (n j : Nat)  (m : mM), gN ((X11_passes_l1 g r a N n j  m).2) = gN m := by
  intro n
  induction n with
  | zero =>
    intro j  m
    rw [X11_passes_l1]
    repeat' split
    all_goals simp only [mm, kN_X11_lives]
  | succ n ih =>
    intro j  m
    rw [X11_passes_l1]
    repeat' split
    all_goals simp only [mm, ih, kN_X11_lives]
theorem kI_X11_passes_l1 (g : mG) (r : Nat) (a : Int32) (N : Nat) : ∀ (n j : Nat)  (m : mM), gI ((X11_passes_l1 g r a N n j  m).2) = gI m := by
  intro n
  induction n with
  | zero =>
    intro j  m
    rw [X11_passes_l1]
    repeat' split
    all_goals simp only [mm, kI_X11_lives]
  | succ n ih =>
    intro j  m
    rw [X11_passes_l1]
    repeat' split
    all_goals simp only [mm, ih, kI_X11_lives]
theorem kJ_X11_passes_l1 (g : mG) (r : Nat) (a : Int32) (N : Nat) : ∀ (n j : Nat)  (m : mM), gJ ((X11_passes_l1 g r a N n j  m).2) = gJ m := by
  intro n
  induction n with
  | zero =>
    intro j  m
    rw [X11_passes_l1]
    repeat' split
    all_goals simp only [mm, kJ_X11_lives]
  | succ n ih =>
    intro j  m
    rw [X11_passes_l1]
    repeat' split
    all_goals simp only [mm, ih, kJ_X11_lives]
theorem kR_X11_passes_l1 (g : mG) (r : Nat) (a : Int32) (N : Nat) : ∀ (n j : Nat)  (m : mM), gR ((X11_passes_l1 g r a N n j  m).2) = gR m := by
  intro n
  induction n with
  | zero =>
    intro j  m
    rw [X11_passes_l1]
    repeat' split
    all_goals simp only [mm, kR_X11_lives]
  | succ n ih =>
    intro j  m
    rw [X11_passes_l1]
    repeat' split
    all_goals simp only [mm, ih, kR_X11_lives]
theorem kQ_X11_passes_l1 (g : mG) (r : Nat) (a : Int32) (N : Nat) : ∀ (n j : Nat)  (m : mM), gQ ((X11_passes_l1 g r a N n j  m).2) = gQ m := by
  intro n
  induction n with
  | zero =>
    intro j  m
    rw [X11_passes_l1]
    repeat' split
    all_goals simp only [mm, kQ_X11_lives]
  | succ n ih =>
    intro j  m
    rw [X11_passes_l1]
    repeat' split
    all_goals simp only [mm, ih, kQ_X11_lives]
theorem kL_X11_passes_l1 (g : mG) (r : Nat) (a : Int32) (N : Nat) : ∀ (n j : Nat)  (m : mM), gL ((X11_passes_l1 g r a N n j  m).2) = gL m := by
  intro n
  induction n with
  | zero =>
    intro j  m
    rw [X11_passes_l1]
    repeat' split
    all_goals simp only [mm, kL_X11_lives]
  | succ n ih =>
    intro j  m
    rw [X11_passes_l1]
    repeat' split
    all_goals simp only [mm, ih, kL_X11_lives]
theorem kD_X11_passes_l1 (g : mG) (r : Nat) (a : Int32) (N : Nat) : ∀ (n j : Nat)  (m : mM), gD ((X11_passes_l1 g r a N n j  m).2) = gD m := by
  intro n
  induction n with
  | zero =>
    intro j  m
    rw [X11_passes_l1]
    repeat' split
    all_goals simp only [mm, kD_X11_lives]
  | succ n ih =>
    intro j  m
    rw [X11_passes_l1]
    repeat' split
    all_goals simp only [mm, ih, kD_X11_lives]
theorem kA_X11_passes_l1 (g : mG) (r : Nat) (a : Int32) (N : Nat) (c9 i9 : Nat) (h0 : c9 ≠ r + 1) : ∀ (n j : Nat)  (m : mM), gA ((X11_passes_l1 g r a N n j  m).2) c9 i9 = gA m c9 i9 := by
  intro n
  induction n with
  | zero =>
    intro j  m
    rw [X11_passes_l1]
    repeat' split
    all_goals simp [mm, kA_X11_lives, h0]
  | succ n ih =>
    intro j  m
    rw [X11_passes_l1]
    repeat' split
    all_goals simp [mm, ih, kA_X11_lives, h0]
def X11_passes_r (g : mG) (m : mM) (r : Nat) (a : Int32) (N : Nat) : Int32 := (if (isI a 1 60) = 0 then ((0, (sI m 384 r 1))) else (X11_passes_l1 g r a N a.toNatClampNeg 0  m)).1
def X11_passes_m (g : mG) (m : mM) (r : Nat) (a : Int32) (N : Nat) : mM := (if (isI a 1 60) = 0 then ((0, (sI m 384 r 1))) else (X11_passes_l1 g r a N a.toNatClampNeg 0  m)).2
theorem kK_X11_passes (g : mG) (m : mM) (r : Nat) (a : Int32) (N : Nat) : gK (X11_passes_m g m r a N) = gK m := by
  unfold X11_passes_m
  repeat' split
  all_goals simp only [mm, kK_X11_passes_l1]
theorem kN_X11_passes (g : mG) (m : mM) (r : Nat) (a : Int32) (N : Nat) : gN (X11_passes_m g m r a N) = gN m := by
  unfold X11_passes_m
  repeat' split
  all_goals simp only [mm, kN_X11_passes_l1]
theorem kI_X11_passes (g : mG) (m : mM) (r : Nat) (a : Int32) (N : Nat) (k a9 : Nat) (h0 : k ≠ 384) : gI (X11_passes_m g m r a N) k a9 = gI m k a9 := by
  unfold X11_passes_m
  repeat' split
  all_goals simp [mm, kI_X11_passes_l1, h0]
theorem kJ_X11_passes (g : mG) (m : mM) (r : Nat) (a : Int32) (N : Nat) : gJ (X11_passes_m g m r a N) = gJ m := by
  unfold X11_passes_m
  repeat' split
  all_goals simp only [mm, kJ_X11_passes_l1]
theorem kR_X11_passes (g : mG) (m : mM) (r : Nat) (a : Int32) (N : Nat) : gR (X11_passes_m g m r a N) = gR m := by
  unfold X11_passes_m
  repeat' split
  all_goals simp only [mm, kR_X11_passes_l1]
theorem kQ_X11_passes (g : mG) (m : mM) (r : Nat) (a : Int32) (N : Nat) : gQ (X11_passes_m g m r a N) = gQ m := by
  unfold X11_passes_m
  repeat' split
  all_goals simp only [mm, kQ_X11_passes_l1]
theorem kL_X11_passes (g : mG) (m : mM) (r : Nat) (a : Int32) (N : Nat) : gL (X11_passes_m g m r a N) = gL m := by
  unfold X11_passes_m
  repeat' split
  all_goals simp only [mm, kL_X11_passes_l1]
theorem kD_X11_passes (g : mG) (m : mM) (r : Nat) (a : Int32) (N : Nat) : gD (X11_passes_m g m r a N) = gD m := by
  unfold X11_passes_m
  repeat' split
  all_goals simp only [mm, kD_X11_passes_l1]
theorem kA_X11_passes (g : mG) (m : mM) (r : Nat) (a : Int32) (N : Nat) (c9 i9 : Nat) (h0 : c9 ≠ r + 1) : gA (X11_passes_m g m r a N) c9 i9 = gA m c9 i9 := by
  unfold X11_passes_m
  repeat' split
  all_goals simp [mm, kA_X11_passes_l1, h0]
set_option maxHeartbeats 4000000 in
set_option maxRecDepth 100000 in
theorem c_X11_passes {l : Launch} {g : mG} (hO : mO l g) (m : mM) (r : Nat) (a : Int32) (N : Nat) (hs : SR m r) (hN : gA m (r + 1) 5 = nI N) (hN8 : N ≤ 8) : mT l g yX11_passes (.code yX11_passes cX11_passes 3 (Option.some FieldType.int)) 3 64 0 0 [.ref r, .int a] m (fun u m' => u = some (.int (X11_passes_r g m r a N)) ∧ m' = X11_passes_m g m r a N) nX := by
  refine mT_of hO (by decide) (Nat.le_of_ble_eq_true rfl) (fun x hX hZ => ?_)
  show mV g x m 0 0 0 [(0, .ref r), (1, .int a)] []
  refine v_iload_n (pc := 0) hX dX11_passes_0 rfl ?_
  refine v_iconst (v := 1) (pc := 1) hX dX11_passes_1 (by decide) ?_
  refine v_bipush (v := 60) (pc := 2) hX dX11_passes_2 (by decide) ?_
  refine v_callS (z := yX11_isIn) (pc := 4) hX dX11_passes_4 (c_isI hO m a 1 60) wd_1592 wd_1593 wd_16 wd_1594 ⟨by decide, by decide, (by decide +kernel : (parseMethodDescriptor yX11_isIn.desc).map (fun d => d.parameters.length) = some 3)⟩ rfl (Nat.le_of_ble_eq_true rfl) ⟨⟨by decide, by decide⟩, by decide, by decide⟩ (fun E m9 h9 => h9.elim) (fun r9 m9 h9 => ?_)
  obtain ⟨rfl, h8⟩ := h9
  replace h8 := h8.symm
  subst h8
  show mV g x _ _ _ _ _ [.int (isI a 1 60)]
  refine v_if_ne (tgt := 16) (pc := 7) hX dX11_passes_7 (by decide) (fun c1 => ?_) (fun c1 => ?_)
  ·
    have hT := isI_T (a := a) (by assumption)
    refine v_iconst (v := 0) (pc := 16) hX dX11_passes_16 (by decide) ?_
    refine v_istore_n (pc := 17) hX dX11_passes_17 (by decide) rfl ?_
    refine mV_sub (lv' := [(0, .ref r), (1, .int a), (2, .int (nI 0))]) ⟨rfl, rfl, rfl, trivial⟩ ?_
    exact lp_X11_passes_l1 hO r a N hN8 hT hX hZ a.toNatClampNeg 0  m hs hN (by omega) ⟨(by rw [X11_passes_r, if_neg c1]), (by rw [X11_passes_m, if_neg c1])⟩
  ·
    refine v_aload_n (pc := 10) hX dX11_passes_10 rfl ?_
    refine v_iconst (v := 1) (pc := 11) hX dX11_passes_11 (by decide) ?_
    refine v_callV (z := yX11_fail) (pc := 12) hX dX11_passes_12 (c_fail2 hO m r 1 hs) hs.k rfl wd_1595 wd_1597 wp_19 wd_16 wd_1598 ⟨by decide, by decide, (by decide +kernel : (parseMethodDescriptor yX11_fail.desc).map (fun d => d.parameters.length) = some 1)⟩ rfl (Nat.le_of_ble_eq_true rfl) ⟨⟨by decide, by decide⟩, by decide, by decide⟩ (fun E m9 h9 => h9.elim) (fun r9 m9 h9 => ?_)
    obtain ⟨rfl, h8⟩ := h9
    replace h8 := h8.symm
    subst h8
    show mV g x _ _ _ _ _ [.int 0]
    exact v_iret (pc := 15) hX hZ dX11_passes_15 (by decide) (by decide) ⟨(by rw [X11_passes_r, if_pos c1]), (by rw [X11_passes_m, if_pos c1])⟩
