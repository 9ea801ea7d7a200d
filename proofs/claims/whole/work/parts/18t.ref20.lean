def X11_command_m (g : mG) (m : mM) (r : Nat) (N : Nat) (H : Nat) : mM := if (gI (X11_word_m g m r ) 404 r) = 0 then (if (X11_word_r g m r ) = 2 then (if (gI (X11_letter_m g ((X11_word_m g m r )) r ) 404 r) = 0 then (if (gI (X11_letter_m g ((X11_word_m g m r )) r ) 405 r) = 0 then ((sA (X11_letter_m g ((X11_word_m g m r )) r ) (r + 9) 0 (X11_letter_r g ((X11_word_m g m r )) r ))) else ((X11_does_m g ((sA (X11_letter_m g ((X11_word_m g m r )) r ) (r + 9) 0 (X11_letter_r g ((X11_word_m g m r )) r ))) r (X11_word_r g m r ) N H))) else ((sA (X11_letter_m g ((X11_word_m g m r )) r ) (r + 9) 0 (X11_letter_r g ((X11_word_m g m r )) r )))) else (if (X11_word_r g m r ) = 1 then (if (gI (X11_digits_m g ((X11_word_m g m r )) r 1 ) 404 r) = 0 then (if (gI (X11_digits_m g ((X11_word_m g m r )) r 1 ) 405 r) = 0 then ((sA (X11_digits_m g ((X11_word_m g m r )) r 1 ) (r + 9) 0 (X11_digits_r g ((X11_word_m g m r )) r 1 ))) else ((X11_does_m g ((sA (X11_digits_m g ((X11_word_m g m r )) r 1 ) (r + 9) 0 (X11_digits_r g ((X11_word_m g m r )) r 1 ))) r (X11_word_r g m r ) N H))) else ((sA (X11_digits_m g ((X11_word_m g m r )) r 1 ) (r + 9) 0 (X11_digits_r g ((X11_word_m g m r )) r 1 )))) else (if (X11_word_r g m r ) = 3 then (if (gI (X11_digits_m g ((X11_word_m g m r )) r 1 ) 404 r) = 0 then (if (gI (X11_digits_m g ((X11_word_m g m r )) r 1 ) 405 r) = 0 then ((sA (X11_digits_m g ((X11_word_m g m r )) r 1 ) (r + 9) 0 (X11_digits_r g ((X11_word_m g m r )) r 1 ))) else ((X11_does_m g ((sA (X11_digits_m g ((X11_word_m g m r )) r 1 ) (r + 9) 0 (X11_digits_r g ((X11_word_m g m r )) r 1 ))) r (X11_word_r g m r ) N H))) else ((sA (X11_digits_m g ((X11_word_m g m r )) r 1 ) (r + 9) 0 (X11_digits_r g ((X11_word_m g m r )) r 1 )))) else (if (X11_word_r g m r ) = 6 then (if (gI (X11_digits_m g ((X11_word_m g m r )) r 2 ) 404 r) = 0 then (if (gI (X11_behind_m g ((sA (X11_digits_m g ((X11_word_m g m r )) r 2 ) (r + 9) 0 (X11_digits_r g ((X11_word_m g m r )) r 2 ))) r 1 ) 404 r) = 0 then (if (gI (X11_behind_m g ((sA (X11_digits_m g ((X11_word_m g m r )) r 2 ) (r + 9) 0 (X11_digits_r g ((X11_word_m g m r )) r 2 ))) r 1 ) 405 r) = 0 then ((sA (X11_behind_m g ((sA (X11_digits_m g ((X11_word_m g m r )) r 2 ) (r + 9) 0 (X11_digits_r g ((X11_word_m g m r )) r 2 ))) r 1 ) (r + 9) 1 (X11_behind_r g ((sA (X11_digits_m g ((X11_word_m g m r )) r 2 ) (r + 9) 0 (X11_digits_r g ((X11_word_m g m r )) r 2 ))) r 1 ))) else ((X11_does_m g ((sA (X11_behind_m g ((sA (X11_digits_m g ((X11_word_m g m r )) r 2 ) (r + 9) 0 (X11_digits_r g ((X11_word_m g m r )) r 2 ))) r 1 ) (r + 9) 1 (X11_behind_r g ((sA (X11_digits_m g ((X11_word_m g m r )) r 2 ) (r + 9) 0 (X11_digits_r g ((X11_word_m g m r )) r 2 ))) r 1 ))) r (X11_word_r g m r ) N H))) else ((sA (X11_behind_m g ((sA (X11_digits_m g ((X11_word_m g m r )) r 2 ) (r + 9) 0 (X11_digits_r g ((X11_word_m g m r )) r 2 ))) r 1 ) (r + 9) 1 (X11_behind_r g ((sA (X11_digits_m g ((X11_word_m g m r )) r 2 ) (r + 9) 0 (X11_digits_r g ((X11_word_m g m r )) r 2 ))) r 1 )))) else ((sA (X11_digits_m g ((X11_word_m g m r )) r 2 ) (r + 9) 0 (X11_digits_r g ((X11_word_m g m r )) r 2 )))) else (if (X11_word_r g m r ) = 9 then (if (gI (X11_digits_m g ((X11_word_m g m r )) r 2 ) 404 r) = 0 then (if (gI (X11_behind_m g ((sA (X11_digits_m g ((X11_word_m g m r )) r 2 ) (r + 9) 0 (X11_digits_r g ((X11_word_m g m r )) r 2 ))) r 2 ) 404 r) = 0 then (if (gI (X11_behind_m g ((sA (X11_behind_m g ((sA (X11_digits_m g ((X11_word_m g m r )) r 2 ) (r + 9) 0 (X11_digits_r g ((X11_word_m g m r )) r 2 ))) r 2 ) (r + 9) 1 (X11_behind_r g ((sA (X11_digits_m g ((X11_word_m g m r )) r 2 ) (r + 9) 0 (X11_digits_r g ((X11_word_m g m r )) r 2 ))) r 2 ))) r 2 ) 404 r) = 0 then (if (gI (X11_behind_m g ((sA (X11_behind_m g ((sA (X11_behind_m g ((sA (X11_digits_m g ((X11_word_m g m r )) r 2 ) (r + 9) 0 (X11_digits_r g ((X11_word_m g m r )) r 2 ))) r 2 ) (r + 9) 1 (X11_behind_r g ((sA (X11_digits_m g ((X11_word_m g m r )) r 2 ) (r + 9) 0 (X11_digits_r g ((X11_word_m g m r )) r 2 ))) r 2 ))) r 2 ) (r + 9) 2 (X11_behind_r g ((sA (X11_behind_m g ((sA (X11_digits_m g ((X11_word_m g m r )) r 2 ) (r + 9) 0 (X11_digits_r g ((X11_word_m g m r )) r 2 ))) r 2 ) (r + 9) 1 (X11_behind_r g ((sA (X11_digits_m g ((X11_word_m g m r )) r 2 ) (r + 9) 0 (X11_digits_r g ((X11_word_m g m r )) r 2 ))) r 2 ))) r 2 ))) r 2 ) 404 r) = 0 then (if (gI (X11_behind_m g ((sA (X11_behind_m g ((sA (X11_behind_m g ((sA (X11_digits_m g ((X11_word_m g m r )) r 2 ) (r + 9) 0 (X11_digits_r g ((X11_word_m g m r )) r 2 ))) r 2 ) (r + 9) 1 (X11_behind_r g ((sA (X11_digits_m g ((X11_word_m g m r )) r 2 ) (r + 9) 0 (X11_digits_r g ((X11_word_m g m r )) r 2 ))) r 2 ))) r 2 ) (r + 9) 2 (X11_behind_r g ((sA (X11_behind_m g ((sA (X11_digits_m g ((X11_word_m g m r )) r 2 ) (r + 9) 0 (X11_digits_r g ((X11_word_m g m r )) r 2 ))) r 2 ) (r + 9) 1 (X11_behind_r g ((sA (X11_digits_m g ((X11_word_m g m r )) r 2 ) (r + 9) 0 (X11_digits_r g ((X11_word_m g m r )) r 2 ))) r 2 ))) r 2 ))) r 2 ) 405 r) = 0 then ((sA (X11_behind_m g ((sA (X11_behind_m g ((sA (X11_behind_m g ((sA (X11_digits_m g ((X11_word_m g m r )) r 2 ) (r + 9) 0 (X11_digits_r g ((X11_word_m g m r )) r 2 ))) r 2 ) (r + 9) 1 (X11_behind_r g ((sA (X11_digits_m g ((X11_word_m g m r )) r 2 ) (r + 9) 0 (X11_digits_r g ((X11_word_m g m r )) r 2 ))) r 2 ))) r 2 ) (r + 9) 2 (X11_behind_r g ((sA (X11_behind_m g ((sA (X11_digits_m g ((X11_word_m g m r )) r 2 ) (r + 9) 0 (X11_digits_r g ((X11_word_m g m r )) r 2 ))) r 2 ) (r + 9) 1 (X11_behind_r g ((sA (X11_digits_m g ((X11_word_m g m r )) r 2 ) (r + 9) 0 (X11_digits_r g ((X11_word_m g m r )) r 2 ))) r 2 ))) r 2 ))) r 2 ) (r + 9) 3 (X11_behind_r g ((sA (X11_behind_m g ((sA (X11_behind_m g ((sA (X11_digits_m g ((X11_word_m g m r )) r 2 ) (r + 9) 0 (X11_digits_r g ((X11_word_m g m r )) r 2 ))) r 2 ) (r + 9) 1 (X11_behind_r g ((sA (X11_digits_m g ((X11_word_m g m r )) r 2 ) (r + 9) 0 (X11_digits_r g ((X11_word_m g m r )) r 2 ))) r 2 ))) r 2 ) (r + 9) 2 (X11_behind_r g ((sA (X11_behind_m g ((sA (X11_digits_m g ((X11_word_m g m r )) r 2 ) (r + 9) 0 (X11_digits_r g ((X11_word_m g m r )) r 2 ))) r 2 ) (r + 9) 1 (X11_behind_r g ((sA (X11_digits_m g ((X11_word_m g m r )) r 2 ) (r + 9) 0 (X11_digits_r g ((X11_word_m g m r )) r 2 ))) r 2 ))) r 2 ))) r 2 ))) else ((X11_does_m g ((sA (X11_behind_m g ((sA (X11_behind_m g ((sA (X11_behind_m g ((sA (X11_digits_m g ((X11_word_m g m r )) r 2 ) (r + 9) 0 (X11_digits_r g ((X11_word_m g m r )) r 2 ))) r 2 ) (r + 9) 1 (X11_behind_r g ((sA (X11_digits_m g ((X11_word_m g m r )) r 2 ) (r + 9) 0 (X11_digits_r g ((X11_word_m g m r )) r 2 ))) r 2 ))) r 2 ) (r + 9) 2 (X11_behind_r g ((sA (X11_behind_m g ((sA (X11_digits_m g ((X11_word_m g m r )) r 2 ) (r + 9) 0 (X11_digits_r g ((X11_word_m g m r )) r 2 ))) r 2 ) (r + 9) 1 (X11_behind_r g ((sA (X11_digits_m g ((X11_word_m g m r )) r 2 ) (r + 9) 0 (X11_digits_r g ((X11_word_m g m r )) r 2 ))) r 2 ))) r 2 ))) r 2 ) (r + 9) 3 (X11_behind_r g ((sA (X11_behind_m g ((sA (X11_behind_m g ((sA (X11_digits_m g ((X11_word_m g m r )) r 2 ) (r + 9) 0 (X11_digits_r g ((X11_word_m g m r )) r 2 ))) r 2 ) (r + 9) 1 (X11_behind_r g ((sA (X11_digits_m g ((X11_word_m g m r )) r 2 ) (r + 9) 0 (X11_digits_r g ((X11_word_m g m r )) r 2 ))) r 2 ))) r 2 ) (r + 9) 2 (X11_behind_r g ((sA (X11_behind_m g ((sA (X11_digits_m g ((X11_word_m g m r )) r 2 ) (r + 9) 0 (X11_digits_r g ((X11_word_m g m r )) r 2 ))) r 2 ) (r + 9) 1 (X11_behind_r g ((sA (X11_digits_m g ((X11_word_m g m r )) r 2 ) (r + 9) 0 (X11_digits_r g ((X11_word_m g m r )) r 2 ))) r 2 ))) r 2 ))) r 2 ))) r (X11_word_r g m r ) N H))) else ((sA (X11_behind_m g ((sA (X11_behind_m g ((sA (X11_behind_m g ((sA (X11_digits_m g ((X11_word_m g m r )) r 2 ) (r + 9) 0 (X11_digits_r g ((X11_word_m g m r )) r 2 ))) r 2 ) (r + 9) 1 (X11_behind_r g ((sA (X11_digits_m g ((X11_word_m g m r )) r 2 ) (r + 9) 0 (X11_digits_r g ((X11_word_m g m r )) r 2 ))) r 2 ))) r 2 ) (r + 9) 2 (X11_behind_r g ((sA (X11_behind_m g ((sA (X11_digits_m g ((X11_word_m g m r )) r 2 ) (r + 9) 0 (X11_digits_r g ((X11_word_m g m r )) r 2 ))) r 2 ) (r + 9) 1 (X11_behind_r g ((sA (X11_digits_m g ((X11_word_m g m r )) r 2 ) (r + 9) 0 (X11_digits_r g ((X11_word_m g m r )) r 2 ))) r 2 ))) r 2 ))) r 2 ) (r + 9) 3 (X11_behind_r g ((sA (X11_behind_m g ((sA (X11_behind_m g ((sA (X11_digits_m g ((X11_word_m g m r )) r 2 ) (r + 9) 0 (X11_digits_r g ((X11_word_m g m r )) r 2 ))) r 2 ) (r + 9) 1 (X11_behind_r g ((sA (X11_digits_m g ((X11_word_m g m r )) r 2 ) (r + 9) 0 (X11_digits_r g ((X11_word_m g m r )) r 2 ))) r 2 ))) r 2 ) (r + 9) 2 (X11_behind_r g ((sA (X11_behind_m g ((sA (X11_digits_m g ((X11_word_m g m r )) r 2 ) (r + 9) 0 (X11_digits_r g ((X11_word_m g m r )) r 2 ))) r 2 ) (r + 9) 1 (X11_behind_r g ((sA (X11_digits_m g ((X11_word_m g m r )) r 2 ) (r + 9) 0 (X11_digits_r g ((X11_word_m g m r )) r 2 ))) r 2 ))) r 2 ))) r 2 )))) else ((sA (X11_behind_m g ((sA (X11_behind_m g ((sA (X11_digits_m g ((X11_word_m g m r )) r 2 ) (r + 9) 0 (X11_digits_r g ((X11_word_m g m r )) r 2 ))) r 2 ) (r + 9) 1 (X11_behind_r g ((sA (X11_digits_m g ((X11_word_m g m r )) r 2 ) (r + 9) 0 (X11_digits_r g ((X11_word_m g m r )) r 2 ))) r 2 ))) r 2 ) (r + 9) 2 (X11_behind_r g ((sA (X11_behind_m g ((sA (X11_digits_m g ((X11_word_m g m r )) r 2 ) (r + 9) 0 (X11_digits_r g ((X11_word_m g m r )) r 2 ))) r 2 ) (r + 9) 1 (X11_behind_r g ((sA (X11_digits_m g ((X11_word_m g m r )) r 2 ) (r + 9) 0 (X11_digits_r g ((X11_word_m g m r )) r 2 ))) r 2 ))) r 2 )))) else ((sA (X11_behind_m g ((sA (X11_digits_m g ((X11_word_m g m r )) r 2 ) (r + 9) 0 (X11_digits_r g ((X11_word_m g m r )) r 2 ))) r 2 ) (r + 9) 1 (X11_behind_r g ((sA (X11_digits_m g ((X11_word_m g m r )) r 2 ) (r + 9) 0 (X11_digits_r g ((X11_word_m g m r )) r 2 ))) r 2 )))) else ((sA (X11_digits_m g ((X11_word_m g m r )) r 2 ) (r + 9) 0 (X11_digits_r g ((X11_word_m g m r )) r 2 )))) else (if (gI (X11_digits_m g ((X11_word_m g m r )) r 2 ) 404 r) = 0 then (if (gI (X11_digits_m g ((X11_word_m g m r )) r 2 ) 405 r) = 0 then ((sA (X11_digits_m g ((X11_word_m g m r )) r 2 ) (r + 9) 0 (X11_digits_r g ((X11_word_m g m r )) r 2 ))) else ((X11_does_m g ((sA (X11_digits_m g ((X11_word_m g m r )) r 2 ) (r + 9) 0 (X11_digits_r g ((X11_word_m g m r )) r 2 ))) r (X11_word_r g m r ) N H))) else ((sA (X11_digits_m g ((X11_word_m g m r )) r 2 ) (r + 9) 0 (X11_digits_r g ((X11_word_m g m r )) r 2 ))))))))) else ((X11_word_m g m r ))
theorem kK_X11_command (g : mG) (m : mM) (r : Nat) (N : Nat) (H : Nat) : gK (X11_command_m g m r N H) = gK m := by
  unfold X11_command_m
  repeat' split
  all_goals simp only [mm, kK_X11_behind, kK_X11_digits, kK_X11_does, kK_X11_letter, kK_X11_word]
theorem kN_X11_command (g : mG) (m : mM) (r : Nat) (N : Nat) (H : Nat) : gN (X11_command_m g m r N H) = gN m := by
  unfold X11_command_m
  repeat' split
  all_goals simp only [mm, kN_X11_behind, kN_X11_digits, kN_X11_does, kN_X11_letter, kN_X11_word]
theorem kI_X11_command (g : mG) (m : mM) (r : Nat) (N : Nat) (H : Nat) (k a9 : Nat) (h0 : k ≠ 384) (h1 : k ≠ 401) (h2 : k ≠ 404) : gI (X11_command_m g m r N H) k a9 = gI m k a9 := by
  unfold X11_command_m
  repeat' split
  all_goals simp [mm, kI_X11_behind, kI_X11_digits, kI_X11_does, kI_X11_letter, kI_X11_word, h0, h1, h2]
theorem kJ_X11_command (g : mG) (m : mM) (r : Nat) (N : Nat) (H : Nat) : gJ (X11_command_m g m r N H) = gJ m := by
  unfold X11_command_m
  repeat' split
  all_goals simp only [mm, kJ_X11_behind, kJ_X11_digits, kJ_X11_does, kJ_X11_letter, kJ_X11_word]
theorem kR_X11_command (g : mG) (m : mM) (r : Nat) (N : Nat) (H : Nat) : gR (X11_command_m g m r N H) = gR m := by
  unfold X11_command_m
  repeat' split
  all_goals simp only [mm, kR_X11_behind, kR_X11_digits, kR_X11_does, kR_X11_letter, kR_X11_word]
theorem kQ_X11_command (g : mG) (m : mM) (r : Nat) (N : Nat) (H : Nat) : gQ (X11_command_m g m r N H) = gQ m := by
  unfold X11_command_m
  repeat' split
  all_goals simp only [mm, kQ_X11_behind, kQ_X11_digits, kQ_X11_does, kQ_X11_letter, kQ_X11_word]
theorem kL_X11_command (g : mG) (m : mM) (r : Nat) (N : Nat) (H : Nat) : gL (X11_command_m g m r N H) = gL m := by
  unfold X11_command_m
  repeat' split
  all_goals simp only [mm, kL_X11_behind, kL_X11_digits, kL_X11_does, kL_X11_letter, kL_X11_word]
theorem kD_X11_command (g : mG) (m : mM) (r : Nat) (N : Nat) (H : Nat) : gD (X11_command_m g m r N H) = gD m := by
  unfold X11_command_m
  repeat' split
  all_goals simp only [mm, kD_X11_behind, kD_X11_digits, kD_X11_does, kD_X11_letter, kD_X11_word]
theorem kA_X11_command (g : mG) (m : mM) (r : Nat) (N : Nat) (H : Nat) (c9 i9 : Nat) (h0 : c9 ≠ r + 1) (h1 : c9 ≠ r + 8) (h2 : c9 ≠ r + 9) : gA (X11_command_m g m r N H) c9 i9 = gA m c9 i9 := by
  unfold X11_command_m
  repeat' split
  all_goals simp [mm, kA_X11_behind, kA_X11_digits, kA_X11_does, kA_X11_letter, kA_X11_word, h0, h1, h2]
set_option maxHeartbeats 4000000 in
set_option maxRecDepth 100000 in
theorem c_X11_command {l : Launch} {g : mG} (hO : mO l g) (m : mM) (r : Nat) (N : Nat) (H : Nat) (hs : SR m r) (hN : gA m (r + 1) 5 = nI N) (hN8 : N ≤ 8) (hH : gA m (r + 1) 6 = nI H) (hH4 : H ≤ 4) (hHe : okI (gI m 401 r) 60) (hEn : okI (gI m 402 r) 60) (hW0 : gI m 404 r = 0) (hwd : WD m r) : mT l g yX11_command (.code yX11_command cX11_command 3 (Option.none : Option FieldType)) 5 112 0 0 [.ref r] m (fun u m' => u = none ∧ m' = X11_command_m g m r N H) nX := by
  refine mT_of hO (by decide) (Nat.le_of_ble_eq_true rfl) (fun x hX hZ => ?_)
  show mV g x m 0 0 0 [(0, .ref r)] []
  refine v_aload_n (pc := 0) hX dX11_command_0 rfl ?_
  refine v_callV (z := yX11_word) (pc := 1) hX dX11_command_1 (c_X11_word hO m r  hs hHe hEn hW0 hwd) hs.k rfl wd_1893 wd_1895 wp_47 wd_16 wd_1896 ⟨by decide, by decide, (by decide +kernel : (parseMethodDescriptor yX11_word.desc).map (fun d => d.parameters.length) = some 0)⟩ rfl (Nat.le_of_ble_eq_true rfl) ⟨⟨by decide, by decide⟩, by decide, by decide⟩ (fun E m9 h9 => h9.elim) (fun r9 m9 h9 => ?_)
  obtain ⟨rfl, h8⟩ := h9
  replace h8 := h8.symm
  subst h8
  show mV g x _ _ _ _ _ [.int (X11_word_r g m r )]
  refine v_istore_n (pc := 4) hX dX11_command_4 (by decide) rfl ?_
  refine v_aload_n (pc := 5) hX dX11_command_5 rfl ?_
  refine v_get (v := .int (gI (X11_word_m g m r ) 404 r)) (pc := 6) hX dX11_command_6 (by simp only [mm, kK_X11_word]; exact hs.k) (ci := 12) (r := vwC12) rfl 20 (by decide) wd_1526 rfl ?_
  refine v_if_eq (tgt := 13) (pc := 9) hX dX11_command_9 (by decide) (fun c1 => ?_) (fun c1 => ?_)
  ·
    refine v_aload_n (pc := 13) hX dX11_command_13 rfl ?_
    refine v_get (v := .ref (r + 9)) (pc := 14) hX dX11_command_14 (by simp only [mm, kK_X11_word]; exact hs.k) (ci := 12) (r := vwC12) rfl 13 (by decide) wd_1519 (fvA rfl (by simp [mm, kR_X11_word, hs.r9])) ?_
    refine v_iconst (v := 0) (pc := 17) hX dX11_command_17 (by decide) ?_
    refine v_iload_n (pc := 18) hX dX11_command_18 rfl ?_
    refine v_iconst (v := 2) (pc := 19) hX dX11_command_19 (by decide) ?_
    refine v_icmp_ne (tgt := 30) (pc := 20) hX dX11_command_20 (by decide) (fun c2 => ?_) (fun c2 => ?_)
    ·
      refine v_aload_n (pc := 30) hX dX11_command_30 rfl ?_
      refine v_iload_n (pc := 31) hX dX11_command_31 rfl ?_
      refine v_iconst (v := 1) (pc := 32) hX dX11_command_32 (by decide) ?_
      refine v_icmp_eq (tgt := 41) (pc := 33) hX dX11_command_33 (by decide) (fun c3 => ?_) (fun c3 => ?_)
      ·
        refine v_iconst (v := 1) (pc := 41) hX dX11_command_41 (by decide) ?_
        refine v_goto (tgt := 46) (pc := 42) hX dX11_command_42 (by decide) ?_
        have pg1 : PG m ((X11_word_m g m r)) r := (PG.rf hHe).tr (wd_PG (g := g) (PG.rf hHe).1 ((PG.rf hHe).en hEn))
        have pg2 : PG m ((X11_word_m g m r)) r := (PG.rf hHe).tr (wd_PG (g := g) (PG.rf hHe).1 ((PG.rf hHe).en hEn))
        refine v_callV (z := yX11_digits) (pc := 46) hX dX11_command_46 (c_X11_digits hO ((X11_word_m g m r )) r 1  (hs.to (by simp only [mm, kK_X11_word]) (by simp only [mm, kR_X11_word])) pg1.1 (pg2.en hEn) (by assumption) hmo) (by simp only [mm, kK_X11_word]; exact hs.k) rfl wd_1905 wd_1907 wp_50 wd_16 wd_1908 ⟨by decide, by decide, (by decide +kernel : (parseMethodDescriptor yX11_digits.desc).map (fun d => d.parameters.length) = some 1)⟩ rfl (Nat.le_of_ble_eq_true rfl) ⟨⟨by decide, by decide⟩, by decide, by decide⟩ (fun E m9 h9 => h9.elim) (fun r9 m9 h9 => ?_)
        obtain ⟨rfl, h8⟩ := h9
        replace h8 := h8.symm
        subst h8
        show mV g x _ _ _ _ _ [.int (X11_digits_r g ((X11_word_m g m r )) r 1 ), .int 0, .ref (r + 9)]
        refine v_iast (j := 0) (pc := 49) hX dX11_command_49 (by simp only [mm, kK_X11_digits, kK_X11_word]; exact hs.k9) rfl (by decide) (by decide) ?_
        refine v_iload_n (pc := 50) hX dX11_command_50 rfl ?_
        refine v_bipush (v := 6) (pc := 51) hX dX11_command_51 (by decide) ?_
        refine v_icmp_ne (tgt := 74) (pc := 53) hX dX11_command_53 (by decide) (fun c4 => ?_) (fun c4 => ?_)
        ·
          refine v_iconst (v := 1) (pc := 74) hX dX11_command_74 (by decide) ?_
          refine v_istore_n (pc := 75) hX dX11_command_75 (by decide) rfl ?_
          refine v_iload_n (pc := 76) hX dX11_command_76 rfl ?_
          refine v_iconst (v := 4) (pc := 77) hX dX11_command_77 (by decide) ?_
          refine v_icmp_ge (tgt := 111) (pc := 78) hX dX11_command_78 (by decide) (fun c5 => ?_) (fun c5 => ?_)
          · exact absurd c5 (by decide)
          ·
            refine v_iload_n (pc := 81) hX dX11_command_81 rfl ?_
            refine v_bipush (v := 9) (pc := 82) hX dX11_command_82 (by decide) ?_
            refine v_icmp_ne (tgt := 111) (pc := 84) hX dX11_command_84 (by decide) (fun c6 => ?_) (fun c6 => ?_)
            ·
              refine v_aload_n (pc := 111) hX dX11_command_111 rfl ?_
              refine v_get (v := .int (gI (X11_digits_m g ((X11_word_m g m r )) r 1 ) 404 r)) (pc := 112) hX dX11_command_112 (by simp only [mm, kK_X11_digits, kK_X11_word]; exact hs.k) (ci := 12) (r := vwC12) rfl 20 (by decide) wd_1526 (by show Value.int _ = Value.int _; simp [mm]) ?_
              refine v_if_ne (tgt := 125) (pc := 115) hX dX11_command_115 (by decide) (fun c7 => ?_) (fun c7 => ?_)
              ·
                exact v_vret (pc := 125) hX hZ dX11_command_125 (by decide) (by decide) ⟨rfl, (by rw [X11_command_m, if_pos c1, if_neg c2, if_pos c3, if_neg c7])⟩
              ·
                refine v_aload_n (pc := 118) hX dX11_command_118 rfl ?_
                refine v_get (v := .int (gI (X11_digits_m g ((X11_word_m g m r )) r 1 ) 405 r)) (pc := 119) hX dX11_command_119 (by simp only [mm, kK_X11_digits, kK_X11_word]; exact hs.k) (ci := 12) (r := vwC12) rfl 21 (by decide) wd_1527 (by show Value.int _ = Value.int _; simp [mm]) ?_
                refine v_if_ne (tgt := 126) (pc := 122) hX dX11_command_122 (by decide) (fun c8 => ?_) (fun c8 => ?_)
                ·
                  refine v_aload_n (pc := 126) hX dX11_command_126 rfl ?_
                  refine v_iload_n (pc := 127) hX dX11_command_127 rfl ?_
                  refine v_callV (z := yX11_does) (pc := 128) hX dX11_command_128 (c_X11_does hO ((sA (X11_digits_m g ((X11_word_m g m r )) r 1 ) (r + 9) 0 (X11_digits_r g ((X11_word_m g m r )) r 1 ))) r (X11_word_r g m r ) N H (hs.to (by simp only [mm, kK_X11_digits, kK_X11_word]) (by simp only [mm, kR_X11_digits, kR_X11_word])) (((gA_n (by omega)).trans ((congrFun (congrFun (kA_X11_digits g (X11_word_m g m r) r 1) _) _).trans ((kA_X11_word g m r (r + 1) (5) (by omega)).trans rfl))).trans hN) hN8 (((gA_n (by omega)).trans ((congrFun (congrFun (kA_X11_digits g (X11_word_m g m r) r 1) _) _).trans ((kA_X11_word g m r (r + 1) (6) (by omega)).trans rfl))).trans hH) hH4) (by simp only [mm, kK_X11_digits, kK_X11_word]; exact hs.k) rfl wd_1917 wd_1919 wp_53 wd_16 wd_1920 ⟨by decide, by decide, (by decide +kernel : (parseMethodDescriptor yX11_does.desc).map (fun d => d.parameters.length) = some 1)⟩ rfl (Nat.le_of_ble_eq_true rfl) ⟨⟨by decide, by decide⟩, by decide, by decide⟩ (fun E m9 h9 => h9.elim) (fun r9 m9 h9 => ?_)
                  obtain ⟨rfl, h8⟩ := h9
                  replace h8 := h8.symm
                  subst h8
                  show mV g x _ _ _ _ _ [.int (X11_does_r g ((sA (X11_digits_m g ((X11_word_m g m r )) r 1 ) (r + 9) 0 (X11_digits_r g ((X11_word_m g m r )) r 1 ))) r (X11_word_r g m r ) N H)]
                  refine v_istore_n (pc := 131) hX dX11_command_131 (by decide) rfl ?_
                  exact v_vret (pc := 132) hX hZ dX11_command_132 (by decide) (by decide) ⟨rfl, (by rw [X11_command_m, if_pos c1, if_neg c2, if_pos c3, if_pos c7, if_neg c8])⟩
                ·
                  exact v_vret (pc := 125) hX hZ dX11_command_125 (by decide) (by decide) ⟨rfl, (by rw [X11_command_m, if_pos c1, if_neg c2, if_pos c3, if_pos c7, if_pos c8])⟩
            · exact absurd c6 ((by rw [c3]; decide))
        · exact absurd c4 ((by rw [c3]; decide))
      ·
        refine v_iload_n (pc := 36) hX dX11_command_36 rfl ?_
        refine v_iconst (v := 3) (pc := 37) hX dX11_command_37 (by decide) ?_
        refine v_icmp_ne (tgt := 45) (pc := 38) hX dX11_command_38 (by decide) (fun c9 => ?_) (fun c9 => ?_)
        ·
          refine v_iconst (v := 2) (pc := 45) hX dX11_command_45 (by decide) ?_
          have pg3 : PG m ((X11_word_m g m r)) r := (PG.rf hHe).tr (wd_PG (g := g) (PG.rf hHe).1 ((PG.rf hHe).en hEn))
          have pg4 : PG m ((X11_word_m g m r)) r := (PG.rf hHe).tr (wd_PG (g := g) (PG.rf hHe).1 ((PG.rf hHe).en hEn))
          refine v_callV (z := yX11_digits) (pc := 46) hX dX11_command_46 (c_X11_digits hO ((X11_word_m g m r )) r 2  (hs.to (by simp only [mm, kK_X11_word]) (by simp only [mm, kR_X11_word])) pg3.1 (pg4.en hEn) (by assumption) hmo) (by simp only [mm, kK_X11_word]; exact hs.k) rfl wd_1905 wd_1907 wp_50 wd_16 wd_1908 ⟨by decide, by decide, (by decide +kernel : (parseMethodDescriptor yX11_digits.desc).map (fun d => d.parameters.length) = some 1)⟩ rfl (Nat.le_of_ble_eq_true rfl) ⟨⟨by decide, by decide⟩, by decide, by decide⟩ (fun E m9 h9 => h9.elim) (fun r9 m9 h9 => ?_)
          obtain ⟨rfl, h8⟩ := h9
          replace h8 := h8.symm
          subst h8
          show mV g x _ _ _ _ _ [.int (X11_digits_r g ((X11_word_m g m r )) r 2 ), .int 0, .ref (r + 9)]
          refine v_iast (j := 0) (pc := 49) hX dX11_command_49 (by simp only [mm, kK_X11_digits, kK_X11_word]; exact hs.k9) rfl (by decide) (by decide) ?_
          refine v_iload_n (pc := 50) hX dX11_command_50 rfl ?_
          refine v_bipush (v := 6) (pc := 51) hX dX11_command_51 (by decide) ?_
          refine v_icmp_ne (tgt := 74) (pc := 53) hX dX11_command_53 (by decide) (fun c10 => ?_) (fun c10 => ?_)
          ·
            refine v_iconst (v := 1) (pc := 74) hX dX11_command_74 (by decide) ?_
            refine v_istore_n (pc := 75) hX dX11_command_75 (by decide) rfl ?_
            refine v_iload_n (pc := 76) hX dX11_command_76 rfl ?_
            refine v_iconst (v := 4) (pc := 77) hX dX11_command_77 (by decide) ?_
            refine v_icmp_ge (tgt := 111) (pc := 78) hX dX11_command_78 (by decide) (fun c11 => ?_) (fun c11 => ?_)
            · exact absurd c11 (by decide)
            ·
              refine v_iload_n (pc := 81) hX dX11_command_81 rfl ?_
              refine v_bipush (v := 9) (pc := 82) hX dX11_command_82 (by decide) ?_
              refine v_icmp_ne (tgt := 111) (pc := 84) hX dX11_command_84 (by decide) (fun c12 => ?_) (fun c12 => ?_)
              ·
                refine v_aload_n (pc := 111) hX dX11_command_111 rfl ?_
                refine v_get (v := .int (gI (X11_digits_m g ((X11_word_m g m r )) r 2 ) 404 r)) (pc := 112) hX dX11_command_112 (by simp only [mm, kK_X11_digits, kK_X11_word]; exact hs.k) (ci := 12) (r := vwC12) rfl 20 (by decide) wd_1526 (by show Value.int _ = Value.int _; simp [mm]) ?_
                refine v_if_ne (tgt := 125) (pc := 115) hX dX11_command_115 (by decide) (fun c13 => ?_) (fun c13 => ?_)
                ·
                  exact v_vret (pc := 125) hX hZ dX11_command_125 (by decide) (by decide) ⟨rfl, (by rw [X11_command_m, if_pos c1, if_neg c2, if_neg c3, if_neg c9, if_neg c10, if_neg c12, if_neg c13])⟩
                ·
                  refine v_aload_n (pc := 118) hX dX11_command_118 rfl ?_
                  refine v_get (v := .int (gI (X11_digits_m g ((X11_word_m g m r )) r 2 ) 405 r)) (pc := 119) hX dX11_command_119 (by simp only [mm, kK_X11_digits, kK_X11_word]; exact hs.k) (ci := 12) (r := vwC12) rfl 21 (by decide) wd_1527 (by show Value.int _ = Value.int _; simp [mm]) ?_
                  refine v_if_ne (tgt := 126) (pc := 122) hX dX11_command_122 (by decide) (fun c14 => ?_) (fun c14 => ?_)
                  ·
                    refine v_aload_n (pc := 126) hX dX11_command_126 rfl ?_
                    refine v_iload_n (pc := 127) hX dX11_command_127 rfl ?_
                    refine v_callV (z := yX11_does) (pc := 128) hX dX11_command_128 (c_X11_does hO ((sA (X11_digits_m g ((X11_word_m g m r )) r 2 ) (r + 9) 0 (X11_digits_r g ((X11_word_m g m r )) r 2 ))) r (X11_word_r g m r ) N H (hs.to (by simp only [mm, kK_X11_digits, kK_X11_word]) (by simp only [mm, kR_X11_digits, kR_X11_word])) (((gA_n (by omega)).trans ((congrFun (congrFun (kA_X11_digits g (X11_word_m g m r) r 2) _) _).trans ((kA_X11_word g m r (r + 1) (5) (by omega)).trans rfl))).trans hN) hN8 (((gA_n (by omega)).trans ((congrFun (congrFun (kA_X11_digits g (X11_word_m g m r) r 2) _) _).trans ((kA_X11_word g m r (r + 1) (6) (by omega)).trans rfl))).trans hH) hH4) (by simp only [mm, kK_X11_digits, kK_X11_word]; exact hs.k) rfl wd_1917 wd_1919 wp_53 wd_16 wd_1920 ⟨by decide, by decide, (by decide +kernel : (parseMethodDescriptor yX11_does.desc).map (fun d => d.parameters.length) = some 1)⟩ rfl (Nat.le_of_ble_eq_true rfl) ⟨⟨by decide, by decide⟩, by decide, by decide⟩ (fun E m9 h9 => h9.elim) (fun r9 m9 h9 => ?_)
                    obtain ⟨rfl, h8⟩ := h9
                    replace h8 := h8.symm
                    subst h8
                    show mV g x _ _ _ _ _ [.int (X11_does_r g ((sA (X11_digits_m g ((X11_word_m g m r )) r 2 ) (r + 9) 0 (X11_digits_r g ((X11_word_m g m r )) r 2 ))) r (X11_word_r g m r ) N H)]
                    refine v_istore_n (pc := 131) hX dX11_command_131 (by decide) rfl ?_
                    exact v_vret (pc := 132) hX hZ dX11_command_132 (by decide) (by decide) ⟨rfl, (by rw [X11_command_m, if_pos c1, if_neg c2, if_neg c3, if_neg c9, if_neg c10, if_neg c12, if_pos c13, if_neg c14])⟩
                  ·
                    exact v_vret (pc := 125) hX hZ dX11_command_125 (by decide) (by decide) ⟨rfl, (by rw [X11_command_m, if_pos c1, if_neg c2, if_neg c3, if_neg c9, if_neg c10, if_neg c12, if_pos c13, if_pos c14])⟩
              ·
                refine v_aload_n (pc := 87) hX dX11_command_87 rfl ?_
                refine v_get (v := .int (gI (X11_digits_m g ((X11_word_m g m r )) r 2 ) 404 r)) (pc := 88) hX dX11_command_88 (by simp only [mm, kK_X11_digits, kK_X11_word]; exact hs.k) (ci := 12) (r := vwC12) rfl 20 (by decide) wd_1526 (by show Value.int _ = Value.int _; simp [mm]) ?_
                refine v_if_ne (tgt := 111) (pc := 91) hX dX11_command_91 (by decide) (fun c15 => ?_) (fun c15 => ?_)
                ·
                  refine v_aload_n (pc := 111) hX dX11_command_111 rfl ?_
                  refine v_get (v := .int (gI (X11_digits_m g ((X11_word_m g m r )) r 2 ) 404 r)) (pc := 112) hX dX11_command_112 (by simp only [mm, kK_X11_digits, kK_X11_word]; exact hs.k) (ci := 12) (r := vwC12) rfl 20 (by decide) wd_1526 (by show Value.int _ = Value.int _; simp [mm]) ?_
                  refine v_if_ne (tgt := 125) (pc := 115) hX dX11_command_115 (by decide) (fun c16 => ?_) (fun c16 => ?_)
                  ·
                    exact v_vret (pc := 125) hX hZ dX11_command_125 (by decide) (by decide) ⟨rfl, (by rw [X11_command_m, if_pos c1, if_neg c2, if_neg c3, if_neg c9, if_neg c10, if_pos c12, if_neg c15])⟩
                  · exact absurd c16 (c15)
                ·
                  refine v_aload_n (pc := 94) hX dX11_command_94 rfl ?_
                  refine v_get (v := .ref (r + 9)) (pc := 95) hX dX11_command_95 (by simp only [mm, kK_X11_digits, kK_X11_word]; exact hs.k) (ci := 12) (r := vwC12) rfl 13 (by decide) wd_1519 (fvA rfl (by simp [mm, kR_X11_digits, kR_X11_word, hs.r9])) ?_
                  refine v_iload_n (pc := 98) hX dX11_command_98 rfl ?_
                  refine v_aload_n (pc := 99) hX dX11_command_99 rfl ?_
                  refine v_iconst (v := 2) (pc := 100) hX dX11_command_100 (by decide) ?_
                  have pg5 : PG m ((X11_word_m g m r)) r := (PG.rf hHe).tr (wd_PG (g := g) (PG.rf hHe).1 ((PG.rf hHe).en hEn))
                  have pg6 : PG m ((X11_digits_m g (X11_word_m g m r) r 2)) r := pg5.tr (dg_PG (g := g) pg5.1 (pg5.en hEn))
                  have pg7 : PG m ((sA (X11_digits_m g (X11_word_m g m r) r 2) (r + 9) 0 (X11_digits_r g (X11_word_m g m r) r 2))) r := pg6.cg rfl rfl
                  have pg8 : PG m ((X11_word_m g m r)) r := (PG.rf hHe).tr (wd_PG (g := g) (PG.rf hHe).1 ((PG.rf hHe).en hEn))
                  have pg9 : PG m ((X11_digits_m g (X11_word_m g m r) r 2)) r := pg8.tr (dg_PG (g := g) pg8.1 (pg8.en hEn))
                  have pg10 : PG m ((sA (X11_digits_m g (X11_word_m g m r) r 2) (r + 9) 0 (X11_digits_r g (X11_word_m g m r) r 2))) r := pg9.cg rfl rfl
                  refine v_callV (z := yX11_behind) (pc := 101) hX dX11_command_101 (c_X11_behind hO ((sA (X11_digits_m g ((X11_word_m g m r )) r 2 ) (r + 9) 0 (X11_digits_r g ((X11_word_m g m r )) r 2 ))) r 2  (hs.to (by simp only [mm, kK_X11_digits, kK_X11_word]) (by simp only [mm, kR_X11_digits, kR_X11_word])) pg7.1 (pg10.en hEn) hmo) (by simp only [mm, kK_X11_digits, kK_X11_word]; exact hs.k) rfl wd_1909 wd_1911 wp_51 wd_16 wd_1912 ⟨by decide, by decide, (by decide +kernel : (parseMethodDescriptor yX11_behind.desc).map (fun d => d.parameters.length) = some 1)⟩ rfl (Nat.le_of_ble_eq_true rfl) ⟨⟨by decide, by decide⟩, by decide, by decide⟩ (fun E m9 h9 => h9.elim) (fun r9 m9 h9 => ?_)
                  obtain ⟨rfl, h8⟩ := h9
                  replace h8 := h8.symm
                  subst h8
                  show mV g x _ _ _ _ _ [.int (X11_behind_r g ((sA (X11_digits_m g ((X11_word_m g m r )) r 2 ) (r + 9) 0 (X11_digits_r g ((X11_word_m g m r )) r 2 ))) r 2 ), .int 1, .ref (r + 9)]
                  refine v_iast (j := 1) (pc := 104) hX dX11_command_104 (by simp only [mm, kK_X11_behind, kK_X11_digits, kK_X11_word]; exact hs.k9) rfl (by decide) (by decide) ?_
                  refine v_iinc (w := 1 + 1) (pc := 105) hX dX11_command_105 rfl rfl (by decide) rfl ?_
                  refine v_goto (tgt := 76) (pc := 108) hX dX11_command_108 (by decide) ?_
                  refine v_iload_n (pc := 76) hX dX11_command_76 rfl ?_
                  refine v_iconst (v := 4) (pc := 77) hX dX11_command_77 (by decide) ?_
                  refine v_icmp_ge (tgt := 111) (pc := 78) hX dX11_command_78 (by decide) (fun c17 => ?_) (fun c17 => ?_)
                  · exact absurd c17 (by decide)
                  ·
                    refine v_iload_n (pc := 81) hX dX11_command_81 rfl ?_
                    refine v_bipush (v := 9) (pc := 82) hX dX11_command_82 (by decide) ?_
                    refine v_icmp_ne (tgt := 111) (pc := 84) hX dX11_command_84 (by decide) (fun c18 => ?_) (fun c18 => ?_)
                    · exact absurd (c12) c18
                    ·
                      refine v_aload_n (pc := 87) hX dX11_command_87 rfl ?_
                      refine v_get (v := .int (gI (X11_behind_m g ((sA (X11_digits_m g ((X11_word_m g m r )) r 2 ) (r + 9) 0 (X11_digits_r g ((X11_word_m g m r )) r 2 ))) r 2 ) 404 r)) (pc := 88) hX dX11_command_88 (by simp only [mm, kK_X11_behind, kK_X11_digits, kK_X11_word]; exact hs.k) (ci := 12) (r := vwC12) rfl 20 (by decide) wd_1526 (by show Value.int _ = Value.int _; simp [mm]) ?_
                      refine v_if_ne (tgt := 111) (pc := 91) hX dX11_command_91 (by decide) (fun c19 => ?_) (fun c19 => ?_)
                      ·
                        refine v_aload_n (pc := 111) hX dX11_command_111 rfl ?_
                        refine v_get (v := .int (gI (X11_behind_m g ((sA (X11_digits_m g ((X11_word_m g m r )) r 2 ) (r + 9) 0 (X11_digits_r g ((X11_word_m g m r )) r 2 ))) r 2 ) 404 r)) (pc := 112) hX dX11_command_112 (by simp only [mm, kK_X11_behind, kK_X11_digits, kK_X11_word]; exact hs.k) (ci := 12) (r := vwC12) rfl 20 (by decide) wd_1526 (by show Value.int _ = Value.int _; simp [mm]) ?_
                        refine v_if_ne (tgt := 125) (pc := 115) hX dX11_command_115 (by decide) (fun c20 => ?_) (fun c20 => ?_)
                        ·
                          exact v_vret (pc := 125) hX hZ dX11_command_125 (by decide) (by decide) ⟨rfl, (by rw [X11_command_m, if_pos c1, if_neg c2, if_neg c3, if_neg c9, if_neg c10, if_pos c12, if_pos c15, if_neg c19])⟩
                        · exact absurd c20 (c19)
                      ·
                        refine v_aload_n (pc := 94) hX dX11_command_94 rfl ?_
                        refine v_get (v := .ref (r + 9)) (pc := 95) hX dX11_command_95 (by simp only [mm, kK_X11_behind, kK_X11_digits, kK_X11_word]; exact hs.k) (ci := 12) (r := vwC12) rfl 13 (by decide) wd_1519 (fvA rfl (by simp [mm, kR_X11_behind, kR_X11_digits, kR_X11_word, hs.r9])) ?_
                        refine v_iload_n (pc := 98) hX dX11_command_98 rfl ?_
                        refine v_aload_n (pc := 99) hX dX11_command_99 rfl ?_
                        refine v_iconst (v := 2) (pc := 100) hX dX11_command_100 (by decide) ?_
                        have pg11 : PG m ((X11_word_m g m r)) r := (PG.rf hHe).tr (wd_PG (g := g) (PG.rf hHe).1 ((PG.rf hHe).en hEn))
                        have pg12 : PG m ((X11_digits_m g (X11_word_m g m r) r 2)) r := pg11.tr (dg_PG (g := g) pg11.1 (pg11.en hEn))
                        have pg13 : PG m ((sA (X11_digits_m g (X11_word_m g m r) r 2) (r + 9) 0 (X11_digits_r g (X11_word_m g m r) r 2))) r := pg12.cg rfl rfl
                        have pg14 : PG m ((X11_behind_m g (sA (X11_digits_m g (X11_word_m g m r) r 2) (r + 9) 0 (X11_digits_r g (X11_word_m g m r) r 2)) r 2)) r := pg13.tr (bh_PG (g := g) pg13.1 (pg13.en hEn))
                        have pg15 : PG m ((sA (X11_behind_m g (sA (X11_digits_m g (X11_word_m g m r) r 2) (r + 9) 0 (X11_digits_r g (X11_word_m g m r) r 2)) r 2) (r + 9) 1 (X11_behind_r g (sA (X11_digits_m g (X11_word_m g m r) r 2) (r + 9) 0 (X11_digits_r g (X11_word_m g m r) r 2)) r 2))) r := pg14.cg rfl rfl
                        have pg16 : PG m ((X11_word_m g m r)) r := (PG.rf hHe).tr (wd_PG (g := g) (PG.rf hHe).1 ((PG.rf hHe).en hEn))
                        have pg17 : PG m ((X11_digits_m g (X11_word_m g m r) r 2)) r := pg16.tr (dg_PG (g := g) pg16.1 (pg16.en hEn))
                        have pg18 : PG m ((sA (X11_digits_m g (X11_word_m g m r) r 2) (r + 9) 0 (X11_digits_r g (X11_word_m g m r) r 2))) r := pg17.cg rfl rfl
                        have pg19 : PG m ((X11_behind_m g (sA (X11_digits_m g (X11_word_m g m r) r 2) (r + 9) 0 (X11_digits_r g (X11_word_m g m r) r 2)) r 2)) r := pg18.tr (bh_PG (g := g) pg18.1 (pg18.en hEn))
                        have pg20 : PG m ((sA (X11_behind_m g (sA (X11_digits_m g (X11_word_m g m r) r 2) (r + 9) 0 (X11_digits_r g (X11_word_m g m r) r 2)) r 2) (r + 9) 1 (X11_behind_r g (sA (X11_digits_m g (X11_word_m g m r) r 2) (r + 9) 0 (X11_digits_r g (X11_word_m g m r) r 2)) r 2))) r := pg19.cg rfl rfl
                        refine v_callV (z := yX11_behind) (pc := 101) hX dX11_command_101 (c_X11_behind hO ((sA (X11_behind_m g ((sA (X11_digits_m g ((X11_word_m g m r )) r 2 ) (r + 9) 0 (X11_digits_r g ((X11_word_m g m r )) r 2 ))) r 2 ) (r + 9) 1 (X11_behind_r g ((sA (X11_digits_m g ((X11_word_m g m r )) r 2 ) (r + 9) 0 (X11_digits_r g ((X11_word_m g m r )) r 2 ))) r 2 ))) r 2  (hs.to (by simp only [mm, kK_X11_behind, kK_X11_digits, kK_X11_word]) (by simp only [mm, kR_X11_behind, kR_X11_digits, kR_X11_word])) pg15.1 (pg20.en hEn) hmo) (by simp only [mm, kK_X11_behind, kK_X11_digits, kK_X11_word]; exact hs.k) rfl wd_1909 wd_1911 wp_51 wd_16 wd_1912 ⟨by decide, by decide, (by decide +kernel : (parseMethodDescriptor yX11_behind.desc).map (fun d => d.parameters.length) = some 1)⟩ rfl (Nat.le_of_ble_eq_true rfl) ⟨⟨by decide, by decide⟩, by decide, by decide⟩ (fun E m9 h9 => h9.elim) (fun r9 m9 h9 => ?_)
                        obtain ⟨rfl, h8⟩ := h9
                        replace h8 := h8.symm
                        subst h8
                        show mV g x _ _ _ _ _ [.int (X11_behind_r g ((sA (X11_behind_m g ((sA (X11_digits_m g ((X11_word_m g m r )) r 2 ) (r + 9) 0 (X11_digits_r g ((X11_word_m g m r )) r 2 ))) r 2 ) (r + 9) 1 (X11_behind_r g ((sA (X11_digits_m g ((X11_word_m g m r )) r 2 ) (r + 9) 0 (X11_digits_r g ((X11_word_m g m r )) r 2 ))) r 2 ))) r 2 ), .int (1 + 1), .ref (r + 9)]
                        refine v_iast (j := 2) (pc := 104) hX dX11_command_104 (by simp only [mm, kK_X11_behind, kK_X11_digits, kK_X11_word]; exact hs.k9) (by decide) (by decide) (by decide) ?_
                        refine v_iinc (w := (1 + 1) + 1) (pc := 105) hX dX11_command_105 rfl rfl (by decide) rfl ?_
                        refine v_goto (tgt := 76) (pc := 108) hX dX11_command_108 (by decide) ?_
                        refine v_iload_n (pc := 76) hX dX11_command_76 rfl ?_
                        refine v_iconst (v := 4) (pc := 77) hX dX11_command_77 (by decide) ?_
                        refine v_icmp_ge (tgt := 111) (pc := 78) hX dX11_command_78 (by decide) (fun c21 => ?_) (fun c21 => ?_)
                        · exact absurd c21 (by decide)
                        ·
                          refine v_iload_n (pc := 81) hX dX11_command_81 rfl ?_
                          refine v_bipush (v := 9) (pc := 82) hX dX11_command_82 (by decide) ?_
                          refine v_icmp_ne (tgt := 111) (pc := 84) hX dX11_command_84 (by decide) (fun c22 => ?_) (fun c22 => ?_)
                          · exact absurd (c12) c22
                          ·
                            refine v_aload_n (pc := 87) hX dX11_command_87 rfl ?_
                            refine v_get (v := .int (gI (X11_behind_m g ((sA (X11_behind_m g ((sA (X11_digits_m g ((X11_word_m g m r )) r 2 ) (r + 9) 0 (X11_digits_r g ((X11_word_m g m r )) r 2 ))) r 2 ) (r + 9) 1 (X11_behind_r g ((sA (X11_digits_m g ((X11_word_m g m r )) r 2 ) (r + 9) 0 (X11_digits_r g ((X11_word_m g m r )) r 2 ))) r 2 ))) r 2 ) 404 r)) (pc := 88) hX dX11_command_88 (by simp only [mm, kK_X11_behind, kK_X11_digits, kK_X11_word]; exact hs.k) (ci := 12) (r := vwC12) rfl 20 (by decide) wd_1526 (by show Value.int _ = Value.int _; simp [mm]) ?_
                            refine v_if_ne (tgt := 111) (pc := 91) hX dX11_command_91 (by decide) (fun c23 => ?_) (fun c23 => ?_)
                            ·
                              refine v_aload_n (pc := 111) hX dX11_command_111 rfl ?_
                              refine v_get (v := .int (gI (X11_behind_m g ((sA (X11_behind_m g ((sA (X11_digits_m g ((X11_word_m g m r )) r 2 ) (r + 9) 0 (X11_digits_r g ((X11_word_m g m r )) r 2 ))) r 2 ) (r + 9) 1 (X11_behind_r g ((sA (X11_digits_m g ((X11_word_m g m r )) r 2 ) (r + 9) 0 (X11_digits_r g ((X11_word_m g m r )) r 2 ))) r 2 ))) r 2 ) 404 r)) (pc := 112) hX dX11_command_112 (by simp only [mm, kK_X11_behind, kK_X11_digits, kK_X11_word]; exact hs.k) (ci := 12) (r := vwC12) rfl 20 (by decide) wd_1526 (by show Value.int _ = Value.int _; simp [mm]) ?_
                              refine v_if_ne (tgt := 125) (pc := 115) hX dX11_command_115 (by decide) (fun c24 => ?_) (fun c24 => ?_)
                              ·
                                exact v_vret (pc := 125) hX hZ dX11_command_125 (by decide) (by decide) ⟨rfl, (by rw [X11_command_m, if_pos c1, if_neg c2, if_neg c3, if_neg c9, if_neg c10, if_pos c12, if_pos c15, if_pos c19, if_neg c23])⟩
                              · exact absurd c24 (c23)
                            ·
                              refine v_aload_n (pc := 94) hX dX11_command_94 rfl ?_
                              refine v_get (v := .ref (r + 9)) (pc := 95) hX dX11_command_95 (by simp only [mm, kK_X11_behind, kK_X11_digits, kK_X11_word]; exact hs.k) (ci := 12) (r := vwC12) rfl 13 (by decide) wd_1519 (fvA rfl (by simp [mm, kR_X11_behind, kR_X11_digits, kR_X11_word, hs.r9])) ?_
                              refine v_iload_n (pc := 98) hX dX11_command_98 rfl ?_
                              refine v_aload_n (pc := 99) hX dX11_command_99 rfl ?_
                              refine v_iconst (v := 2) (pc := 100) hX dX11_command_100 (by decide) ?_
                              have pg21 : PG m ((X11_word_m g m r)) r := (PG.rf hHe).tr (wd_PG (g := g) (PG.rf hHe).1 ((PG.rf hHe).en hEn))
                              have pg22 : PG m ((X11_digits_m g (X11_word_m g m r) r 2)) r := pg21.tr (dg_PG (g := g) pg21.1 (pg21.en hEn))
                              have pg23 : PG m ((sA (X11_digits_m g (X11_word_m g m r) r 2) (r + 9) 0 (X11_digits_r g (X11_word_m g m r) r 2))) r := pg22.cg rfl rfl
                              have pg24 : PG m ((X11_behind_m g (sA (X11_digits_m g (X11_word_m g m r) r 2) (r + 9) 0 (X11_digits_r g (X11_word_m g m r) r 2)) r 2)) r := pg23.tr (bh_PG (g := g) pg23.1 (pg23.en hEn))
                              have pg25 : PG m ((sA (X11_behind_m g (sA (X11_digits_m g (X11_word_m g m r) r 2) (r + 9) 0 (X11_digits_r g (X11_word_m g m r) r 2)) r 2) (r + 9) 1 (X11_behind_r g (sA (X11_digits_m g (X11_word_m g m r) r 2) (r + 9) 0 (X11_digits_r g (X11_word_m g m r) r 2)) r 2))) r := pg24.cg rfl rfl
                              have pg26 : PG m ((X11_behind_m g (sA (X11_behind_m g (sA (X11_digits_m g (X11_word_m g m r) r 2) (r + 9) 0 (X11_digits_r g (X11_word_m g m r) r 2)) r 2) (r + 9) 1 (X11_behind_r g (sA (X11_digits_m g (X11_word_m g m r) r 2) (r + 9) 0 (X11_digits_r g (X11_word_m g m r) r 2)) r 2)) r 2)) r := pg25.tr (bh_PG (g := g) pg25.1 (pg25.en hEn))
                              have pg27 : PG m ((sA (X11_behind_m g (sA (X11_behind_m g (sA (X11_digits_m g (X11_word_m g m r) r 2) (r + 9) 0 (X11_digits_r g (X11_word_m g m r) r 2)) r 2) (r + 9) 1 (X11_behind_r g (sA (X11_digits_m g (X11_word_m g m r) r 2) (r + 9) 0 (X11_digits_r g (X11_word_m g m r) r 2)) r 2)) r 2) (r + 9) 2 (X11_behind_r g (sA (X11_behind_m g (sA (X11_digits_m g (X11_word_m g m r) r 2) (r + 9) 0 (X11_digits_r g (X11_word_m g m r) r 2)) r 2) (r + 9) 1 (X11_behind_r g (sA (X11_digits_m g (X11_word_m g m r) r 2) (r + 9) 0 (X11_digits_r g (X11_word_m g m r) r 2)) r 2)) r 2))) r := pg26.cg rfl rfl
                              have pg28 : PG m ((X11_word_m g m r)) r := (PG.rf hHe).tr (wd_PG (g := g) (PG.rf hHe).1 ((PG.rf hHe).en hEn))
                              have pg29 : PG m ((X11_digits_m g (X11_word_m g m r) r 2)) r := pg28.tr (dg_PG (g := g) pg28.1 (pg28.en hEn))
                              have pg30 : PG m ((sA (X11_digits_m g (X11_word_m g m r) r 2) (r + 9) 0 (X11_digits_r g (X11_word_m g m r) r 2))) r := pg29.cg rfl rfl
                              have pg31 : PG m ((X11_behind_m g (sA (X11_digits_m g (X11_word_m g m r) r 2) (r + 9) 0 (X11_digits_r g (X11_word_m g m r) r 2)) r 2)) r := pg30.tr (bh_PG (g := g) pg30.1 (pg30.en hEn))
                              have pg32 : PG m ((sA (X11_behind_m g (sA (X11_digits_m g (X11_word_m g m r) r 2) (r + 9) 0 (X11_digits_r g (X11_word_m g m r) r 2)) r 2) (r + 9) 1 (X11_behind_r g (sA (X11_digits_m g (X11_word_m g m r) r 2) (r + 9) 0 (X11_digits_r g (X11_word_m g m r) r 2)) r 2))) r := pg31.cg rfl rfl
                              have pg33 : PG m ((X11_behind_m g (sA (X11_behind_m g (sA (X11_digits_m g (X11_word_m g m r) r 2) (r + 9) 0 (X11_digits_r g (X11_word_m g m r) r 2)) r 2) (r + 9) 1 (X11_behind_r g (sA (X11_digits_m g (X11_word_m g m r) r 2) (r + 9) 0 (X11_digits_r g (X11_word_m g m r) r 2)) r 2)) r 2)) r := pg32.tr (bh_PG (g := g) pg32.1 (pg32.en hEn))
                              have pg34 : PG m ((sA (X11_behind_m g (sA (X11_behind_m g (sA (X11_digits_m g (X11_word_m g m r) r 2) (r + 9) 0 (X11_digits_r g (X11_word_m g m r) r 2)) r 2) (r + 9) 1 (X11_behind_r g (sA (X11_digits_m g (X11_word_m g m r) r 2) (r + 9) 0 (X11_digits_r g (X11_word_m g m r) r 2)) r 2)) r 2) (r + 9) 2 (X11_behind_r g (sA (X11_behind_m g (sA (X11_digits_m g (X11_word_m g m r) r 2) (r + 9) 0 (X11_digits_r g (X11_word_m g m r) r 2)) r 2) (r + 9) 1 (X11_behind_r g (sA (X11_digits_m g (X11_word_m g m r) r 2) (r + 9) 0 (X11_digits_r g (X11_word_m g m r) r 2)) r 2)) r 2))) r := pg33.cg rfl rfl
                              refine v_callV (z := yX11_behind) (pc := 101) hX dX11_command_101 (c_X11_behind hO ((sA (X11_behind_m g ((sA (X11_behind_m g ((sA (X11_digits_m g ((X11_word_m g m r )) r 2 ) (r + 9) 0 (X11_digits_r g ((X11_word_m g m r )) r 2 ))) r 2 ) (r + 9) 1 (X11_behind_r g ((sA (X11_digits_m g ((X11_word_m g m r )) r 2 ) (r + 9) 0 (X11_digits_r g ((X11_word_m g m r )) r 2 ))) r 2 ))) r 2 ) (r + 9) 2 (X11_behind_r g ((sA (X11_behind_m g ((sA (X11_digits_m g ((X11_word_m g m r )) r 2 ) (r + 9) 0 (X11_digits_r g ((X11_word_m g m r )) r 2 ))) r 2 ) (r + 9) 1 (X11_behind_r g ((sA (X11_digits_m g ((X11_word_m g m r )) r 2 ) (r + 9) 0 (X11_digits_r g ((X11_word_m g m r )) r 2 ))) r 2 ))) r 2 ))) r 2  (hs.to (by simp only [mm, kK_X11_behind, kK_X11_digits, kK_X11_word]) (by simp only [mm, kR_X11_behind, kR_X11_digits, kR_X11_word])) pg27.1 (pg34.en hEn) hmo) (by simp only [mm, kK_X11_behind, kK_X11_digits, kK_X11_word]; exact hs.k) rfl wd_1909 wd_1911 wp_51 wd_16 wd_1912 ⟨by decide, by decide, (by decide +kernel : (parseMethodDescriptor yX11_behind.desc).map (fun d => d.parameters.length) = some 1)⟩ rfl (Nat.le_of_ble_eq_true rfl) ⟨⟨by decide, by decide⟩, by decide, by decide⟩ (fun E m9 h9 => h9.elim) (fun r9 m9 h9 => ?_)
                              obtain ⟨rfl, h8⟩ := h9
                              replace h8 := h8.symm
                              subst h8
                              show mV g x _ _ _ _ _ [.int (X11_behind_r g ((sA (X11_behind_m g ((sA (X11_behind_m g ((sA (X11_digits_m g ((X11_word_m g m r )) r 2 ) (r + 9) 0 (X11_digits_r g ((X11_word_m g m r )) r 2 ))) r 2 ) (r + 9) 1 (X11_behind_r g ((sA (X11_digits_m g ((X11_word_m g m r )) r 2 ) (r + 9) 0 (X11_digits_r g ((X11_word_m g m r )) r 2 ))) r 2 ))) r 2 ) (r + 9) 2 (X11_behind_r g ((sA (X11_behind_m g ((sA (X11_digits_m g ((X11_word_m g m r )) r 2 ) (r + 9) 0 (X11_digits_r g ((X11_word_m g m r )) r 2 ))) r 2 ) (r + 9) 1 (X11_behind_r g ((sA (X11_digits_m g ((X11_word_m g m r )) r 2 ) (r + 9) 0 (X11_digits_r g ((X11_word_m g m r )) r 2 ))) r 2 ))) r 2 ))) r 2 ), .int ((1 + 1) + 1), .ref (r + 9)]
                              refine v_iast (j := 3) (pc := 104) hX dX11_command_104 (by simp only [mm, kK_X11_behind, kK_X11_digits, kK_X11_word]; exact hs.k9) (by decide) (by decide) (by decide) ?_
                              refine v_iinc (w := ((1 + 1) + 1) + 1) (pc := 105) hX dX11_command_105 rfl rfl (by decide) rfl ?_
                              refine v_goto (tgt := 76) (pc := 108) hX dX11_command_108 (by decide) ?_
                              refine v_iload_n (pc := 76) hX dX11_command_76 rfl ?_
                              refine v_iconst (v := 4) (pc := 77) hX dX11_command_77 (by decide) ?_
                              refine v_icmp_ge (tgt := 111) (pc := 78) hX dX11_command_78 (by decide) (fun c25 => ?_) (fun c25 => ?_)
                              ·
                                refine v_aload_n (pc := 111) hX dX11_command_111 rfl ?_
                                refine v_get (v := .int (gI (X11_behind_m g ((sA (X11_behind_m g ((sA (X11_behind_m g ((sA (X11_digits_m g ((X11_word_m g m r )) r 2 ) (r + 9) 0 (X11_digits_r g ((X11_word_m g m r )) r 2 ))) r 2 ) (r + 9) 1 (X11_behind_r g ((sA (X11_digits_m g ((X11_word_m g m r )) r 2 ) (r + 9) 0 (X11_digits_r g ((X11_word_m g m r )) r 2 ))) r 2 ))) r 2 ) (r + 9) 2 (X11_behind_r g ((sA (X11_behind_m g ((sA (X11_digits_m g ((X11_word_m g m r )) r 2 ) (r + 9) 0 (X11_digits_r g ((X11_word_m g m r )) r 2 ))) r 2 ) (r + 9) 1 (X11_behind_r g ((sA (X11_digits_m g ((X11_word_m g m r )) r 2 ) (r + 9) 0 (X11_digits_r g ((X11_word_m g m r )) r 2 ))) r 2 ))) r 2 ))) r 2 ) 404 r)) (pc := 112) hX dX11_command_112 (by simp only [mm, kK_X11_behind, kK_X11_digits, kK_X11_word]; exact hs.k) (ci := 12) (r := vwC12) rfl 20 (by decide) wd_1526 (by show Value.int _ = Value.int _; simp [mm]) ?_
                                refine v_if_ne (tgt := 125) (pc := 115) hX dX11_command_115 (by decide) (fun c26 => ?_) (fun c26 => ?_)
                                ·
                                  exact v_vret (pc := 125) hX hZ dX11_command_125 (by decide) (by decide) ⟨rfl, (by rw [X11_command_m, if_pos c1, if_neg c2, if_neg c3, if_neg c9, if_neg c10, if_pos c12, if_pos c15, if_pos c19, if_pos c23, if_neg c26])⟩
                                ·
                                  refine v_aload_n (pc := 118) hX dX11_command_118 rfl ?_
                                  refine v_get (v := .int (gI (X11_behind_m g ((sA (X11_behind_m g ((sA (X11_behind_m g ((sA (X11_digits_m g ((X11_word_m g m r )) r 2 ) (r + 9) 0 (X11_digits_r g ((X11_word_m g m r )) r 2 ))) r 2 ) (r + 9) 1 (X11_behind_r g ((sA (X11_digits_m g ((X11_word_m g m r )) r 2 ) (r + 9) 0 (X11_digits_r g ((X11_word_m g m r )) r 2 ))) r 2 ))) r 2 ) (r + 9) 2 (X11_behind_r g ((sA (X11_behind_m g ((sA (X11_digits_m g ((X11_word_m g m r )) r 2 ) (r + 9) 0 (X11_digits_r g ((X11_word_m g m r )) r 2 ))) r 2 ) (r + 9) 1 (X11_behind_r g ((sA (X11_digits_m g ((X11_word_m g m r )) r 2 ) (r + 9) 0 (X11_digits_r g ((X11_word_m g m r )) r 2 ))) r 2 ))) r 2 ))) r 2 ) 405 r)) (pc := 119) hX dX11_command_119 (by simp only [mm, kK_X11_behind, kK_X11_digits, kK_X11_word]; exact hs.k) (ci := 12) (r := vwC12) rfl 21 (by decide) wd_1527 (by show Value.int _ = Value.int _; simp [mm]) ?_
                                  refine v_if_ne (tgt := 126) (pc := 122) hX dX11_command_122 (by decide) (fun c27 => ?_) (fun c27 => ?_)
                                  ·
                                    refine v_aload_n (pc := 126) hX dX11_command_126 rfl ?_
                                    refine v_iload_n (pc := 127) hX dX11_command_127 rfl ?_
                                    refine v_callV (z := yX11_does) (pc := 128) hX dX11_command_128 (c_X11_does hO ((sA (X11_behind_m g ((sA (X11_behind_m g ((sA (X11_behind_m g ((sA (X11_digits_m g ((X11_word_m g m r )) r 2 ) (r + 9) 0 (X11_digits_r g ((X11_word_m g m r )) r 2 ))) r 2 ) (r + 9) 1 (X11_behind_r g ((sA (X11_digits_m g ((X11_word_m g m r )) r 2 ) (r + 9) 0 (X11_digits_r g ((X11_word_m g m r )) r 2 ))) r 2 ))) r 2 ) (r + 9) 2 (X11_behind_r g ((sA (X11_behind_m g ((sA (X11_digits_m g ((X11_word_m g m r )) r 2 ) (r + 9) 0 (X11_digits_r g ((X11_word_m g m r )) r 2 ))) r 2 ) (r + 9) 1 (X11_behind_r g ((sA (X11_digits_m g ((X11_word_m g m r )) r 2 ) (r + 9) 0 (X11_digits_r g ((X11_word_m g m r )) r 2 ))) r 2 ))) r 2 ))) r 2 ) (r + 9) 3 (X11_behind_r g ((sA (X11_behind_m g ((sA (X11_behind_m g ((sA (X11_digits_m g ((X11_word_m g m r )) r 2 ) (r + 9) 0 (X11_digits_r g ((X11_word_m g m r )) r 2 ))) r 2 ) (r + 9) 1 (X11_behind_r g ((sA (X11_digits_m g ((X11_word_m g m r )) r 2 ) (r + 9) 0 (X11_digits_r g ((X11_word_m g m r )) r 2 ))) r 2 ))) r 2 ) (r + 9) 2 (X11_behind_r g ((sA (X11_behind_m g ((sA (X11_digits_m g ((X11_word_m g m r )) r 2 ) (r + 9) 0 (X11_digits_r g ((X11_word_m g m r )) r 2 ))) r 2 ) (r + 9) 1 (X11_behind_r g ((sA (X11_digits_m g ((X11_word_m g m r )) r 2 ) (r + 9) 0 (X11_digits_r g ((X11_word_m g m r )) r 2 ))) r 2 ))) r 2 ))) r 2 ))) r (X11_word_r g m r ) N H (hs.to (by simp only [mm, kK_X11_behind, kK_X11_digits, kK_X11_word]) (by simp only [mm, kR_X11_behind, kR_X11_digits, kR_X11_word])) (((gA_n (by omega)).trans ((congrFun (congrFun (kA_X11_behind g (sA (X11_behind_m g (sA (X11_behind_m g (sA (X11_digits_m g (X11_word_m g m r) r 2) (r + 9) 0 (X11_digits_r g (X11_word_m g m r) r 2)) r 2) (r + 9) 1 (X11_behind_r g (sA (X11_digits_m g (X11_word_m g m r) r 2) (r + 9) 0 (X11_digits_r g (X11_word_m g m r) r 2)) r 2)) r 2) (r + 9) 2 (X11_behind_r g (sA (X11_behind_m g (sA (X11_digits_m g (X11_word_m g m r) r 2) (r + 9) 0 (X11_digits_r g (X11_word_m g m r) r 2)) r 2) (r + 9) 1 (X11_behind_r g (sA (X11_digits_m g (X11_word_m g m r) r 2) (r + 9) 0 (X11_digits_r g (X11_word_m g m r) r 2)) r 2)) r 2)) r 2) _) _).trans ((gA_n (by omega)).trans ((congrFun (congrFun (kA_X11_behind g (sA (X11_behind_m g (sA (X11_digits_m g (X11_word_m g m r) r 2) (r + 9) 0 (X11_digits_r g (X11_word_m g m r) r 2)) r 2) (r + 9) 1 (X11_behind_r g (sA (X11_digits_m g (X11_word_m g m r) r 2) (r + 9) 0 (X11_digits_r g (X11_word_m g m r) r 2)) r 2)) r 2) _) _).trans ((gA_n (by omega)).trans ((congrFun (congrFun (kA_X11_behind g (sA (X11_digits_m g (X11_word_m g m r) r 2) (r + 9) 0 (X11_digits_r g (X11_word_m g m r) r 2)) r 2) _) _).trans ((gA_n (by omega)).trans ((congrFun (congrFun (kA_X11_digits g (X11_word_m g m r) r 2) _) _).trans ((kA_X11_word g m r (r + 1) (5) (by omega)).trans rfl))))))))).trans hN) hN8 (((gA_n (by omega)).trans ((congrFun (congrFun (kA_X11_behind g (sA (X11_behind_m g (sA (X11_behind_m g (sA (X11_digits_m g (X11_word_m g m r) r 2) (r + 9) 0 (X11_digits_r g (X11_word_m g m r) r 2)) r 2) (r + 9) 1 (X11_behind_r g (sA (X11_digits_m g (X11_word_m g m r) r 2) (r + 9) 0 (X11_digits_r g (X11_word_m g m r) r 2)) r 2)) r 2) (r + 9) 2 (X11_behind_r g (sA (X11_behind_m g (sA (X11_digits_m g (X11_word_m g m r) r 2) (r + 9) 0 (X11_digits_r g (X11_word_m g m r) r 2)) r 2) (r + 9) 1 (X11_behind_r g (sA (X11_digits_m g (X11_word_m g m r) r 2) (r + 9) 0 (X11_digits_r g (X11_word_m g m r) r 2)) r 2)) r 2)) r 2) _) _).trans ((gA_n (by omega)).trans ((congrFun (congrFun (kA_X11_behind g (sA (X11_behind_m g (sA (X11_digits_m g (X11_word_m g m r) r 2) (r + 9) 0 (X11_digits_r g (X11_word_m g m r) r 2)) r 2) (r + 9) 1 (X11_behind_r g (sA (X11_digits_m g (X11_word_m g m r) r 2) (r + 9) 0 (X11_digits_r g (X11_word_m g m r) r 2)) r 2)) r 2) _) _).trans ((gA_n (by omega)).trans ((congrFun (congrFun (kA_X11_behind g (sA (X11_digits_m g (X11_word_m g m r) r 2) (r + 9) 0 (X11_digits_r g (X11_word_m g m r) r 2)) r 2) _) _).trans ((gA_n (by omega)).trans ((congrFun (congrFun (kA_X11_digits g (X11_word_m g m r) r 2) _) _).trans ((kA_X11_word g m r (r + 1) (6) (by omega)).trans rfl))))))))).trans hH) hH4) (by simp only [mm, kK_X11_behind, kK_X11_digits, kK_X11_word]; exact hs.k) rfl wd_1917 wd_1919 wp_53 wd_16 wd_1920 ⟨by decide, by decide, (by decide +kernel : (parseMethodDescriptor yX11_does.desc).map (fun d => d.parameters.length) = some 1)⟩ rfl (Nat.le_of_ble_eq_true rfl) ⟨⟨by decide, by decide⟩, by decide, by decide⟩ (fun E m9 h9 => h9.elim) (fun r9 m9 h9 => ?_)
                                    obtain ⟨rfl, h8⟩ := h9
                                    replace h8 := h8.symm
                                    subst h8
                                    show mV g x _ _ _ _ _ [.int (X11_does_r g ((sA (X11_behind_m g ((sA (X11_behind_m g ((sA (X11_behind_m g ((sA (X11_digits_m g ((X11_word_m g m r )) r 2 ) (r + 9) 0 (X11_digits_r g ((X11_word_m g m r )) r 2 ))) r 2 ) (r + 9) 1 (X11_behind_r g ((sA (X11_digits_m g ((X11_word_m g m r )) r 2 ) (r + 9) 0 (X11_digits_r g ((X11_word_m g m r )) r 2 ))) r 2 ))) r 2 ) (r + 9) 2 (X11_behind_r g ((sA (X11_behind_m g ((sA (X11_digits_m g ((X11_word_m g m r )) r 2 ) (r + 9) 0 (X11_digits_r g ((X11_word_m g m r )) r 2 ))) r 2 ) (r + 9) 1 (X11_behind_r g ((sA (X11_digits_m g ((X11_word_m g m r )) r 2 ) (r + 9) 0 (X11_digits_r g ((X11_word_m g m r )) r 2 ))) r 2 ))) r 2 ))) r 2 ) (r + 9) 3 (X11_behind_r g ((sA (X11_behind_m g ((sA (X11_behind_m g ((sA (X11_digits_m g ((X11_word_m g m r )) r 2 ) (r + 9) 0 (X11_digits_r g ((X11_word_m g m r )) r 2 ))) r 2 ) (r + 9) 1 (X11_behind_r g ((sA (X11_digits_m g ((X11_word_m g m r )) r 2 ) (r + 9) 0 (X11_digits_r g ((X11_word_m g m r )) r 2 ))) r 2 ))) r 2 ) (r + 9) 2 (X11_behind_r g ((sA (X11_behind_m g ((sA (X11_digits_m g ((X11_word_m g m r )) r 2 ) (r + 9) 0 (X11_digits_r g ((X11_word_m g m r )) r 2 ))) r 2 ) (r + 9) 1 (X11_behind_r g ((sA (X11_digits_m g ((X11_word_m g m r )) r 2 ) (r + 9) 0 (X11_digits_r g ((X11_word_m g m r )) r 2 ))) r 2 ))) r 2 ))) r 2 ))) r (X11_word_r g m r ) N H)]
                                    refine v_istore_n (pc := 131) hX dX11_command_131 (by decide) rfl ?_
                                    exact v_vret (pc := 132) hX hZ dX11_command_132 (by decide) (by decide) ⟨rfl, (by rw [X11_command_m, if_pos c1, if_neg c2, if_neg c3, if_neg c9, if_neg c10, if_pos c12, if_pos c15, if_pos c19, if_pos c23, if_pos c26, if_neg c27])⟩
                                  ·
                                    exact v_vret (pc := 125) hX hZ dX11_command_125 (by decide) (by decide) ⟨rfl, (by rw [X11_command_m, if_pos c1, if_neg c2, if_neg c3, if_neg c9, if_neg c10, if_pos c12, if_pos c15, if_pos c19, if_pos c23, if_pos c26, if_pos c27])⟩
                              · exact absurd (by decide) c25
          ·
            refine v_aload_n (pc := 56) hX dX11_command_56 rfl ?_
            refine v_get (v := .int (gI (X11_digits_m g ((X11_word_m g m r )) r 2 ) 404 r)) (pc := 57) hX dX11_command_57 (by simp only [mm, kK_X11_digits, kK_X11_word]; exact hs.k) (ci := 12) (r := vwC12) rfl 20 (by decide) wd_1526 (by show Value.int _ = Value.int _; simp [mm]) ?_
            refine v_if_ne (tgt := 74) (pc := 60) hX dX11_command_60 (by decide) (fun c28 => ?_) (fun c28 => ?_)
            ·
              refine v_iconst (v := 1) (pc := 74) hX dX11_command_74 (by decide) ?_
              refine v_istore_n (pc := 75) hX dX11_command_75 (by decide) rfl ?_
              refine v_iload_n (pc := 76) hX dX11_command_76 rfl ?_
              refine v_iconst (v := 4) (pc := 77) hX dX11_command_77 (by decide) ?_
              refine v_icmp_ge (tgt := 111) (pc := 78) hX dX11_command_78 (by decide) (fun c29 => ?_) (fun c29 => ?_)
              · exact absurd c29 (by decide)
              ·
                refine v_iload_n (pc := 81) hX dX11_command_81 rfl ?_
                refine v_bipush (v := 9) (pc := 82) hX dX11_command_82 (by decide) ?_
                refine v_icmp_ne (tgt := 111) (pc := 84) hX dX11_command_84 (by decide) (fun c30 => ?_) (fun c30 => ?_)
                ·
                  refine v_aload_n (pc := 111) hX dX11_command_111 rfl ?_
                  refine v_get (v := .int (gI (X11_digits_m g ((X11_word_m g m r )) r 2 ) 404 r)) (pc := 112) hX dX11_command_112 (by simp only [mm, kK_X11_digits, kK_X11_word]; exact hs.k) (ci := 12) (r := vwC12) rfl 20 (by decide) wd_1526 (by show Value.int _ = Value.int _; simp [mm]) ?_
                  refine v_if_ne (tgt := 125) (pc := 115) hX dX11_command_115 (by decide) (fun c31 => ?_) (fun c31 => ?_)
                  ·
                    exact v_vret (pc := 125) hX hZ dX11_command_125 (by decide) (by decide) ⟨rfl, (by rw [X11_command_m, if_pos c1, if_neg c2, if_neg c3, if_neg c9, if_pos c10, if_neg c28])⟩
                  · exact absurd c31 (c28)
                · exact absurd c30 ((by rw [c10]; decide))
            ·
              refine v_aload_n (pc := 63) hX dX11_command_63 rfl ?_
              refine v_get (v := .ref (r + 9)) (pc := 64) hX dX11_command_64 (by simp only [mm, kK_X11_digits, kK_X11_word]; exact hs.k) (ci := 12) (r := vwC12) rfl 13 (by decide) wd_1519 (fvA rfl (by simp [mm, kR_X11_digits, kR_X11_word, hs.r9])) ?_
              refine v_iconst (v := 1) (pc := 67) hX dX11_command_67 (by decide) ?_
              refine v_aload_n (pc := 68) hX dX11_command_68 rfl ?_
              refine v_iconst (v := 1) (pc := 69) hX dX11_command_69 (by decide) ?_
              have pg35 : PG m ((X11_word_m g m r)) r := (PG.rf hHe).tr (wd_PG (g := g) (PG.rf hHe).1 ((PG.rf hHe).en hEn))
              have pg36 : PG m ((X11_digits_m g (X11_word_m g m r) r 2)) r := pg35.tr (dg_PG (g := g) pg35.1 (pg35.en hEn))
              have pg37 : PG m ((sA (X11_digits_m g (X11_word_m g m r) r 2) (r + 9) 0 (X11_digits_r g (X11_word_m g m r) r 2))) r := pg36.cg rfl rfl
              have pg38 : PG m ((X11_word_m g m r)) r := (PG.rf hHe).tr (wd_PG (g := g) (PG.rf hHe).1 ((PG.rf hHe).en hEn))
              have pg39 : PG m ((X11_digits_m g (X11_word_m g m r) r 2)) r := pg38.tr (dg_PG (g := g) pg38.1 (pg38.en hEn))
              have pg40 : PG m ((sA (X11_digits_m g (X11_word_m g m r) r 2) (r + 9) 0 (X11_digits_r g (X11_word_m g m r) r 2))) r := pg39.cg rfl rfl
              refine v_callV (z := yX11_behind) (pc := 70) hX dX11_command_70 (c_X11_behind hO ((sA (X11_digits_m g ((X11_word_m g m r )) r 2 ) (r + 9) 0 (X11_digits_r g ((X11_word_m g m r )) r 2 ))) r 1  (hs.to (by simp only [mm, kK_X11_digits, kK_X11_word]) (by simp only [mm, kR_X11_digits, kR_X11_word])) pg37.1 (pg40.en hEn) hmo) (by simp only [mm, kK_X11_digits, kK_X11_word]; exact hs.k) rfl wd_1909 wd_1911 wp_51 wd_16 wd_1912 ⟨by decide, by decide, (by decide +kernel : (parseMethodDescriptor yX11_behind.desc).map (fun d => d.parameters.length) = some 1)⟩ rfl (Nat.le_of_ble_eq_true rfl) ⟨⟨by decide, by decide⟩, by decide, by decide⟩ (fun E m9 h9 => h9.elim) (fun r9 m9 h9 => ?_)
              obtain ⟨rfl, h8⟩ := h9
              replace h8 := h8.symm
              subst h8
              show mV g x _ _ _ _ _ [.int (X11_behind_r g ((sA (X11_digits_m g ((X11_word_m g m r )) r 2 ) (r + 9) 0 (X11_digits_r g ((X11_word_m g m r )) r 2 ))) r 1 ), .int 1, .ref (r + 9)]
              refine v_iast (j := 1) (pc := 73) hX dX11_command_73 (by simp only [mm, kK_X11_behind, kK_X11_digits, kK_X11_word]; exact hs.k9) rfl (by decide) (by decide) ?_
              refine v_iconst (v := 1) (pc := 74) hX dX11_command_74 (by decide) ?_
              refine v_istore_n (pc := 75) hX dX11_command_75 (by decide) rfl ?_
              refine v_iload_n (pc := 76) hX dX11_command_76 rfl ?_
              refine v_iconst (v := 4) (pc := 77) hX dX11_command_77 (by decide) ?_
              refine v_icmp_ge (tgt := 111) (pc := 78) hX dX11_command_78 (by decide) (fun c32 => ?_) (fun c32 => ?_)
              · exact absurd c32 (by decide)
              ·
                refine v_iload_n (pc := 81) hX dX11_command_81 rfl ?_
                refine v_bipush (v := 9) (pc := 82) hX dX11_command_82 (by decide) ?_
                refine v_icmp_ne (tgt := 111) (pc := 84) hX dX11_command_84 (by decide) (fun c33 => ?_) (fun c33 => ?_)
                ·
                  refine v_aload_n (pc := 111) hX dX11_command_111 rfl ?_
                  refine v_get (v := .int (gI (X11_behind_m g ((sA (X11_digits_m g ((X11_word_m g m r )) r 2 ) (r + 9) 0 (X11_digits_r g ((X11_word_m g m r )) r 2 ))) r 1 ) 404 r)) (pc := 112) hX dX11_command_112 (by simp only [mm, kK_X11_behind, kK_X11_digits, kK_X11_word]; exact hs.k) (ci := 12) (r := vwC12) rfl 20 (by decide) wd_1526 (by show Value.int _ = Value.int _; simp [mm]) ?_
                  refine v_if_ne (tgt := 125) (pc := 115) hX dX11_command_115 (by decide) (fun c34 => ?_) (fun c34 => ?_)
                  ·
                    exact v_vret (pc := 125) hX hZ dX11_command_125 (by decide) (by decide) ⟨rfl, (by rw [X11_command_m, if_pos c1, if_neg c2, if_neg c3, if_neg c9, if_pos c10, if_pos c28, if_neg c34])⟩
                  ·
                    refine v_aload_n (pc := 118) hX dX11_command_118 rfl ?_
                    refine v_get (v := .int (gI (X11_behind_m g ((sA (X11_digits_m g ((X11_word_m g m r )) r 2 ) (r + 9) 0 (X11_digits_r g ((X11_word_m g m r )) r 2 ))) r 1 ) 405 r)) (pc := 119) hX dX11_command_119 (by simp only [mm, kK_X11_behind, kK_X11_digits, kK_X11_word]; exact hs.k) (ci := 12) (r := vwC12) rfl 21 (by decide) wd_1527 (by show Value.int _ = Value.int _; simp [mm]) ?_
                    refine v_if_ne (tgt := 126) (pc := 122) hX dX11_command_122 (by decide) (fun c35 => ?_) (fun c35 => ?_)
                    ·
                      refine v_aload_n (pc := 126) hX dX11_command_126 rfl ?_
                      refine v_iload_n (pc := 127) hX dX11_command_127 rfl ?_
                      refine v_callV (z := yX11_does) (pc := 128) hX dX11_command_128 (c_X11_does hO ((sA (X11_behind_m g ((sA (X11_digits_m g ((X11_word_m g m r )) r 2 ) (r + 9) 0 (X11_digits_r g ((X11_word_m g m r )) r 2 ))) r 1 ) (r + 9) 1 (X11_behind_r g ((sA (X11_digits_m g ((X11_word_m g m r )) r 2 ) (r + 9) 0 (X11_digits_r g ((X11_word_m g m r )) r 2 ))) r 1 ))) r (X11_word_r g m r ) N H (hs.to (by simp only [mm, kK_X11_behind, kK_X11_digits, kK_X11_word]) (by simp only [mm, kR_X11_behind, kR_X11_digits, kR_X11_word])) (((gA_n (by omega)).trans ((congrFun (congrFun (kA_X11_behind g (sA (X11_digits_m g (X11_word_m g m r) r 2) (r + 9) 0 (X11_digits_r g (X11_word_m g m r) r 2)) r 1) _) _).trans ((gA_n (by omega)).trans ((congrFun (congrFun (kA_X11_digits g (X11_word_m g m r) r 2) _) _).trans ((kA_X11_word g m r (r + 1) (5) (by omega)).trans rfl))))).trans hN) hN8 (((gA_n (by omega)).trans ((congrFun (congrFun (kA_X11_behind g (sA (X11_digits_m g (X11_word_m g m r) r 2) (r + 9) 0 (X11_digits_r g (X11_word_m g m r) r 2)) r 1) _) _).trans ((gA_n (by omega)).trans ((congrFun (congrFun (kA_X11_digits g (X11_word_m g m r) r 2) _) _).trans ((kA_X11_word g m r (r + 1) (6) (by omega)).trans rfl))))).trans hH) hH4) (by simp only [mm, kK_X11_behind, kK_X11_digits, kK_X11_word]; exact hs.k) rfl wd_1917 wd_1919 wp_53 wd_16 wd_1920 ⟨by decide, by decide, (by decide +kernel : (parseMethodDescriptor yX11_does.desc).map (fun d => d.parameters.length) = some 1)⟩ rfl (Nat.le_of_ble_eq_true rfl) ⟨⟨by decide, by decide⟩, by decide, by decide⟩ (fun E m9 h9 => h9.elim) (fun r9 m9 h9 => ?_)
                      obtain ⟨rfl, h8⟩ := h9
                      replace h8 := h8.symm
                      subst h8
                      show mV g x _ _ _ _ _ [.int (X11_does_r g ((sA (X11_behind_m g ((sA (X11_digits_m g ((X11_word_m g m r )) r 2 ) (r + 9) 0 (X11_digits_r g ((X11_word_m g m r )) r 2 ))) r 1 ) (r + 9) 1 (X11_behind_r g ((sA (X11_digits_m g ((X11_word_m g m r )) r 2 ) (r + 9) 0 (X11_digits_r g ((X11_word_m g m r )) r 2 ))) r 1 ))) r (X11_word_r g m r ) N H)]
                      refine v_istore_n (pc := 131) hX dX11_command_131 (by decide) rfl ?_
                      exact v_vret (pc := 132) hX hZ dX11_command_132 (by decide) (by decide) ⟨rfl, (by rw [X11_command_m, if_pos c1, if_neg c2, if_neg c3, if_neg c9, if_pos c10, if_pos c28, if_pos c34, if_neg c35])⟩
                    ·
                      exact v_vret (pc := 125) hX hZ dX11_command_125 (by decide) (by decide) ⟨rfl, (by rw [X11_command_m, if_pos c1, if_neg c2, if_neg c3, if_neg c9, if_pos c10, if_pos c28, if_pos c34, if_pos c35])⟩
                · exact absurd c33 ((by rw [c10]; decide))
        ·
          refine v_iconst (v := 1) (pc := 41) hX dX11_command_41 (by decide) ?_
          refine v_goto (tgt := 46) (pc := 42) hX dX11_command_42 (by decide) ?_
          have pg41 : PG m ((X11_word_m g m r)) r := (PG.rf hHe).tr (wd_PG (g := g) (PG.rf hHe).1 ((PG.rf hHe).en hEn))
          have pg42 : PG m ((X11_word_m g m r)) r := (PG.rf hHe).tr (wd_PG (g := g) (PG.rf hHe).1 ((PG.rf hHe).en hEn))
          refine v_callV (z := yX11_digits) (pc := 46) hX dX11_command_46 (c_X11_digits hO ((X11_word_m g m r )) r 1  (hs.to (by simp only [mm, kK_X11_word]) (by simp only [mm, kR_X11_word])) pg41.1 (pg42.en hEn) (by assumption) hmo) (by simp only [mm, kK_X11_word]; exact hs.k) rfl wd_1905 wd_1907 wp_50 wd_16 wd_1908 ⟨by decide, by decide, (by decide +kernel : (parseMethodDescriptor yX11_digits.desc).map (fun d => d.parameters.length) = some 1)⟩ rfl (Nat.le_of_ble_eq_true rfl) ⟨⟨by decide, by decide⟩, by decide, by decide⟩ (fun E m9 h9 => h9.elim) (fun r9 m9 h9 => ?_)
          obtain ⟨rfl, h8⟩ := h9
          replace h8 := h8.symm
          subst h8
          show mV g x _ _ _ _ _ [.int (X11_digits_r g ((X11_word_m g m r )) r 1 ), .int 0, .ref (r + 9)]
          refine v_iast (j := 0) (pc := 49) hX dX11_command_49 (by simp only [mm, kK_X11_digits, kK_X11_word]; exact hs.k9) rfl (by decide) (by decide) ?_
          refine v_iload_n (pc := 50) hX dX11_command_50 rfl ?_
          refine v_bipush (v := 6) (pc := 51) hX dX11_command_51 (by decide) ?_
          refine v_icmp_ne (tgt := 74) (pc := 53) hX dX11_command_53 (by decide) (fun c36 => ?_) (fun c36 => ?_)
          ·
            refine v_iconst (v := 1) (pc := 74) hX dX11_command_74 (by decide) ?_
            refine v_istore_n (pc := 75) hX dX11_command_75 (by decide) rfl ?_
            refine v_iload_n (pc := 76) hX dX11_command_76 rfl ?_
            refine v_iconst (v := 4) (pc := 77) hX dX11_command_77 (by decide) ?_
            refine v_icmp_ge (tgt := 111) (pc := 78) hX dX11_command_78 (by decide) (fun c37 => ?_) (fun c37 => ?_)
            · exact absurd c37 (by decide)
            ·
              refine v_iload_n (pc := 81) hX dX11_command_81 rfl ?_
              refine v_bipush (v := 9) (pc := 82) hX dX11_command_82 (by decide) ?_
              refine v_icmp_ne (tgt := 111) (pc := 84) hX dX11_command_84 (by decide) (fun c38 => ?_) (fun c38 => ?_)
              ·
                refine v_aload_n (pc := 111) hX dX11_command_111 rfl ?_
                refine v_get (v := .int (gI (X11_digits_m g ((X11_word_m g m r )) r 1 ) 404 r)) (pc := 112) hX dX11_command_112 (by simp only [mm, kK_X11_digits, kK_X11_word]; exact hs.k) (ci := 12) (r := vwC12) rfl 20 (by decide) wd_1526 (by show Value.int _ = Value.int _; simp [mm]) ?_
                refine v_if_ne (tgt := 125) (pc := 115) hX dX11_command_115 (by decide) (fun c39 => ?_) (fun c39 => ?_)
                ·
                  exact v_vret (pc := 125) hX hZ dX11_command_125 (by decide) (by decide) ⟨rfl, (by rw [X11_command_m, if_pos c1, if_neg c2, if_neg c3, if_pos c9, if_neg c39])⟩
                ·
                  refine v_aload_n (pc := 118) hX dX11_command_118 rfl ?_
                  refine v_get (v := .int (gI (X11_digits_m g ((X11_word_m g m r )) r 1 ) 405 r)) (pc := 119) hX dX11_command_119 (by simp only [mm, kK_X11_digits, kK_X11_word]; exact hs.k) (ci := 12) (r := vwC12) rfl 21 (by decide) wd_1527 (by show Value.int _ = Value.int _; simp [mm]) ?_
                  refine v_if_ne (tgt := 126) (pc := 122) hX dX11_command_122 (by decide) (fun c40 => ?_) (fun c40 => ?_)
                  ·
                    refine v_aload_n (pc := 126) hX dX11_command_126 rfl ?_
                    refine v_iload_n (pc := 127) hX dX11_command_127 rfl ?_
                    refine v_callV (z := yX11_does) (pc := 128) hX dX11_command_128 (c_X11_does hO ((sA (X11_digits_m g ((X11_word_m g m r )) r 1 ) (r + 9) 0 (X11_digits_r g ((X11_word_m g m r )) r 1 ))) r (X11_word_r g m r ) N H (hs.to (by simp only [mm, kK_X11_digits, kK_X11_word]) (by simp only [mm, kR_X11_digits, kR_X11_word])) (((gA_n (by omega)).trans ((congrFun (congrFun (kA_X11_digits g (X11_word_m g m r) r 1) _) _).trans ((kA_X11_word g m r (r + 1) (5) (by omega)).trans rfl))).trans hN) hN8 (((gA_n (by omega)).trans ((congrFun (congrFun (kA_X11_digits g (X11_word_m g m r) r 1) _) _).trans ((kA_X11_word g m r (r + 1) (6) (by omega)).trans rfl))).trans hH) hH4) (by simp only [mm, kK_X11_digits, kK_X11_word]; exact hs.k) rfl wd_1917 wd_1919 wp_53 wd_16 wd_1920 ⟨by decide, by decide, (by decide +kernel : (parseMethodDescriptor yX11_does.desc).map (fun d => d.parameters.length) = some 1)⟩ rfl (Nat.le_of_ble_eq_true rfl) ⟨⟨by decide, by decide⟩, by decide, by decide⟩ (fun E m9 h9 => h9.elim) (fun r9 m9 h9 => ?_)
                    obtain ⟨rfl, h8⟩ := h9
                    replace h8 := h8.symm
                    subst h8
                    show mV g x _ _ _ _ _ [.int (X11_does_r g ((sA (X11_digits_m g ((X11_word_m g m r )) r 1 ) (r + 9) 0 (X11_digits_r g ((X11_word_m g m r )) r 1 ))) r (X11_word_r g m r ) N H)]
                    refine v_istore_n (pc := 131) hX dX11_command_131 (by decide) rfl ?_
                    exact v_vret (pc := 132) hX hZ dX11_command_132 (by decide) (by decide) ⟨rfl, (by rw [X11_command_m, if_pos c1, if_neg c2, if_neg c3, if_pos c9, if_pos c39, if_neg c40])⟩
                  ·
                    exact v_vret (pc := 125) hX hZ dX11_command_125 (by decide) (by decide) ⟨rfl, (by rw [X11_command_m, if_pos c1, if_neg c2, if_neg c3, if_pos c9, if_pos c39, if_pos c40])⟩
              · exact absurd c38 ((by rw [c9]; decide))
          · exact absurd c36 ((by rw [c9]; decide))
    ·
      refine v_aload_n (pc := 23) hX dX11_command_23 rfl ?_
      have pg43 : PG m ((X11_word_m g m r)) r := (PG.rf hHe).tr (wd_PG (g := g) (PG.rf hHe).1 ((PG.rf hHe).en hEn))
      have pg44 : PG m ((X11_word_m g m r)) r := (PG.rf hHe).tr (wd_PG (g := g) (PG.rf hHe).1 ((PG.rf hHe).en hEn))
      refine v_callV (z := yX11_letter) (pc := 24) hX dX11_command_24 (c_X11_letter hO ((X11_word_m g m r )) r  (hs.to (by simp only [mm, kK_X11_word]) (by simp only [mm, kR_X11_word])) pg43.1 (pg44.en hEn) (by assumption)) (by simp only [mm, kK_X11_word]; exact hs.k) rfl wd_1901 wd_1903 wp_49 wd_16 wd_1904 ⟨by decide, by decide, (by decide +kernel : (parseMethodDescriptor yX11_letter.desc).map (fun d => d.parameters.length) = some 0)⟩ rfl (Nat.le_of_ble_eq_true rfl) ⟨⟨by decide, by decide⟩, by decide, by decide⟩ (fun E m9 h9 => h9.elim) (fun r9 m9 h9 => ?_)
      obtain ⟨rfl, h8⟩ := h9
      replace h8 := h8.symm
      subst h8
      show mV g x _ _ _ _ _ [.int (X11_letter_r g ((X11_word_m g m r )) r ), .int 0, .ref (r + 9)]
      refine v_goto (tgt := 49) (pc := 27) hX dX11_command_27 (by decide) ?_
      refine v_iast (j := 0) (pc := 49) hX dX11_command_49 (by simp only [mm, kK_X11_letter, kK_X11_word]; exact hs.k9) rfl (by decide) (by decide) ?_
      refine v_iload_n (pc := 50) hX dX11_command_50 rfl ?_
      refine v_bipush (v := 6) (pc := 51) hX dX11_command_51 (by decide) ?_
      refine v_icmp_ne (tgt := 74) (pc := 53) hX dX11_command_53 (by decide) (fun c41 => ?_) (fun c41 => ?_)
      ·
        refine v_iconst (v := 1) (pc := 74) hX dX11_command_74 (by decide) ?_
        refine v_istore_n (pc := 75) hX dX11_command_75 (by decide) rfl ?_
        refine v_iload_n (pc := 76) hX dX11_command_76 rfl ?_
        refine v_iconst (v := 4) (pc := 77) hX dX11_command_77 (by decide) ?_
        refine v_icmp_ge (tgt := 111) (pc := 78) hX dX11_command_78 (by decide) (fun c42 => ?_) (fun c42 => ?_)
        · exact absurd c42 (by decide)
        ·
          refine v_iload_n (pc := 81) hX dX11_command_81 rfl ?_
          refine v_bipush (v := 9) (pc := 82) hX dX11_command_82 (by decide) ?_
          refine v_icmp_ne (tgt := 111) (pc := 84) hX dX11_command_84 (by decide) (fun c43 => ?_) (fun c43 => ?_)
          ·
            refine v_aload_n (pc := 111) hX dX11_command_111 rfl ?_
            refine v_get (v := .int (gI (X11_letter_m g ((X11_word_m g m r )) r ) 404 r)) (pc := 112) hX dX11_command_112 (by simp only [mm, kK_X11_letter, kK_X11_word]; exact hs.k) (ci := 12) (r := vwC12) rfl 20 (by decide) wd_1526 (by show Value.int _ = Value.int _; simp [mm]) ?_
            refine v_if_ne (tgt := 125) (pc := 115) hX dX11_command_115 (by decide) (fun c44 => ?_) (fun c44 => ?_)
            ·
              exact v_vret (pc := 125) hX hZ dX11_command_125 (by decide) (by decide) ⟨rfl, (by rw [X11_command_m, if_pos c1, if_pos c2, if_neg c44])⟩
            ·
              refine v_aload_n (pc := 118) hX dX11_command_118 rfl ?_
              refine v_get (v := .int (gI (X11_letter_m g ((X11_word_m g m r )) r ) 405 r)) (pc := 119) hX dX11_command_119 (by simp only [mm, kK_X11_letter, kK_X11_word]; exact hs.k) (ci := 12) (r := vwC12) rfl 21 (by decide) wd_1527 (by show Value.int _ = Value.int _; simp [mm]) ?_
              refine v_if_ne (tgt := 126) (pc := 122) hX dX11_command_122 (by decide) (fun c45 => ?_) (fun c45 => ?_)
              ·
                refine v_aload_n (pc := 126) hX dX11_command_126 rfl ?_
                refine v_iload_n (pc := 127) hX dX11_command_127 rfl ?_
                refine v_callV (z := yX11_does) (pc := 128) hX dX11_command_128 (c_X11_does hO ((sA (X11_letter_m g ((X11_word_m g m r )) r ) (r + 9) 0 (X11_letter_r g ((X11_word_m g m r )) r ))) r (X11_word_r g m r ) N H (hs.to (by simp only [mm, kK_X11_letter, kK_X11_word]) (by simp only [mm, kR_X11_letter, kR_X11_word])) (((gA_n (by omega)).trans ((congrFun (congrFun (kA_X11_letter g (X11_word_m g m r) r) _) _).trans ((kA_X11_word g m r (r + 1) (5) (by omega)).trans rfl))).trans hN) hN8 (((gA_n (by omega)).trans ((congrFun (congrFun (kA_X11_letter g (X11_word_m g m r) r) _) _).trans ((kA_X11_word g m r (r + 1) (6) (by omega)).trans rfl))).trans hH) hH4) (by simp only [mm, kK_X11_letter, kK_X11_word]; exact hs.k) rfl wd_1917 wd_1919 wp_53 wd_16 wd_1920 ⟨by decide, by decide, (by decide +kernel : (parseMethodDescriptor yX11_does.desc).map (fun d => d.parameters.length) = some 1)⟩ rfl (Nat.le_of_ble_eq_true rfl) ⟨⟨by decide, by decide⟩, by decide, by decide⟩ (fun E m9 h9 => h9.elim) (fun r9 m9 h9 => ?_)
                obtain ⟨rfl, h8⟩ := h9
                replace h8 := h8.symm
                subst h8
                show mV g x _ _ _ _ _ [.int (X11_does_r g ((sA (X11_letter_m g ((X11_word_m g m r )) r ) (r + 9) 0 (X11_letter_r g ((X11_word_m g m r )) r ))) r (X11_word_r g m r ) N H)]
                refine v_istore_n (pc := 131) hX dX11_command_131 (by decide) rfl ?_
                exact v_vret (pc := 132) hX hZ dX11_command_132 (by decide) (by decide) ⟨rfl, (by rw [X11_command_m, if_pos c1, if_pos c2, if_pos c44, if_neg c45])⟩
              ·
                exact v_vret (pc := 125) hX hZ dX11_command_125 (by decide) (by decide) ⟨rfl, (by rw [X11_command_m, if_pos c1, if_pos c2, if_pos c44, if_pos c45])⟩
          · exact absurd c43 ((by rw [c2]; decide))
      · exact absurd c41 ((by rw [c2]; decide))
  ·
    exact v_vret (pc := 12) hX hZ dX11_command_12 (by decide) (by decide) ⟨rfl, (by rw [X11_command_m, if_neg c1])⟩
