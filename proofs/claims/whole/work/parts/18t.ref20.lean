def X11_cL_m (g : mG) (m : mM) (r : Nat)  : mM := sA (X11_letter_m g m r) (r + 9) 0 (X11_letter_r g m r)
theorem kK_X11_cL (g : mG) (m : mM) (r : Nat)  : gK (X11_cL_m g m r ) = gK m := by
  unfold X11_cL_m
  simp only [mm, kK_X11_letter]
theorem kN_X11_cL (g : mG) (m : mM) (r : Nat)  : gN (X11_cL_m g m r ) = gN m := by
  unfold X11_cL_m
  simp only [mm, kN_X11_letter]
theorem kJ_X11_cL (g : mG) (m : mM) (r : Nat)  : gJ (X11_cL_m g m r ) = gJ m := by
  unfold X11_cL_m
  simp only [mm, kJ_X11_letter]
theorem kR_X11_cL (g : mG) (m : mM) (r : Nat)  : gR (X11_cL_m g m r ) = gR m := by
  unfold X11_cL_m
  simp only [mm, kR_X11_letter]
theorem kQ_X11_cL (g : mG) (m : mM) (r : Nat)  : gQ (X11_cL_m g m r ) = gQ m := by
  unfold X11_cL_m
  simp only [mm, kQ_X11_letter]
theorem kL_X11_cL (g : mG) (m : mM) (r : Nat)  : gL (X11_cL_m g m r ) = gL m := by
  unfold X11_cL_m
  simp only [mm, kL_X11_letter]
theorem kD_X11_cL (g : mG) (m : mM) (r : Nat)  : gD (X11_cL_m g m r ) = gD m := by
  unfold X11_cL_m
  simp only [mm, kD_X11_letter]
theorem kI_X11_cL (g : mG) (m : mM) (r : Nat)  (ky a9 : Nat) (h1 : ky ≠ 401) (h2 : ky ≠ 404) : gI (X11_cL_m g m r ) ky a9 = gI m ky a9 := by
  unfold X11_cL_m
  simp [mm, kI_X11_letter, h1, h2]
theorem kA_X11_cL (g : mG) (m : mM) (r : Nat)  (c9 i9 : Nat) (h0 : c9 ≠ r + 9) : gA (X11_cL_m g m r ) c9 i9 = gA m c9 i9 := by
  unfold X11_cL_m
  simp [mm, kA_X11_letter, h0]
def X11_cD_m (g : mG) (m : mM) (r : Nat) (mo : Nat) : mM := sA (X11_digits_m g m r mo) (r + 9) 0 (X11_digits_r g m r mo)
theorem kK_X11_cD (g : mG) (m : mM) (r : Nat) (mo : Nat) : gK (X11_cD_m g m r mo) = gK m := by
  unfold X11_cD_m
  simp only [mm, kK_X11_digits]
theorem kN_X11_cD (g : mG) (m : mM) (r : Nat) (mo : Nat) : gN (X11_cD_m g m r mo) = gN m := by
  unfold X11_cD_m
  simp only [mm, kN_X11_digits]
theorem kJ_X11_cD (g : mG) (m : mM) (r : Nat) (mo : Nat) : gJ (X11_cD_m g m r mo) = gJ m := by
  unfold X11_cD_m
  simp only [mm, kJ_X11_digits]
theorem kR_X11_cD (g : mG) (m : mM) (r : Nat) (mo : Nat) : gR (X11_cD_m g m r mo) = gR m := by
  unfold X11_cD_m
  simp only [mm, kR_X11_digits]
theorem kQ_X11_cD (g : mG) (m : mM) (r : Nat) (mo : Nat) : gQ (X11_cD_m g m r mo) = gQ m := by
  unfold X11_cD_m
  simp only [mm, kQ_X11_digits]
theorem kL_X11_cD (g : mG) (m : mM) (r : Nat) (mo : Nat) : gL (X11_cD_m g m r mo) = gL m := by
  unfold X11_cD_m
  simp only [mm, kL_X11_digits]
theorem kD_X11_cD (g : mG) (m : mM) (r : Nat) (mo : Nat) : gD (X11_cD_m g m r mo) = gD m := by
  unfold X11_cD_m
  simp only [mm, kD_X11_digits]
theorem kI_X11_cD (g : mG) (m : mM) (r : Nat) (mo : Nat) (ky a9 : Nat) (h1 : ky ≠ 401) (h2 : ky ≠ 404) : gI (X11_cD_m g m r mo) ky a9 = gI m ky a9 := by
  unfold X11_cD_m
  simp [mm, kI_X11_digits, h1, h2]
theorem kA_X11_cD (g : mG) (m : mM) (r : Nat) (mo : Nat) (c9 i9 : Nat) (h0 : c9 ≠ r + 9) : gA (X11_cD_m g m r mo) c9 i9 = gA m c9 i9 := by
  unfold X11_cD_m
  simp [mm, kA_X11_digits, h0]
def X11_cB_m (g : mG) (m : mM) (r : Nat) (mo : Nat) (i : Nat) : mM := sA (X11_behind_m g m r mo) (r + 9) i (X11_behind_r g m r mo)
theorem kK_X11_cB (g : mG) (m : mM) (r : Nat) (mo : Nat) (i : Nat) : gK (X11_cB_m g m r mo i) = gK m := by
  unfold X11_cB_m
  simp only [mm, kK_X11_behind]
theorem kN_X11_cB (g : mG) (m : mM) (r : Nat) (mo : Nat) (i : Nat) : gN (X11_cB_m g m r mo i) = gN m := by
  unfold X11_cB_m
  simp only [mm, kN_X11_behind]
theorem kJ_X11_cB (g : mG) (m : mM) (r : Nat) (mo : Nat) (i : Nat) : gJ (X11_cB_m g m r mo i) = gJ m := by
  unfold X11_cB_m
  simp only [mm, kJ_X11_behind]
theorem kR_X11_cB (g : mG) (m : mM) (r : Nat) (mo : Nat) (i : Nat) : gR (X11_cB_m g m r mo i) = gR m := by
  unfold X11_cB_m
  simp only [mm, kR_X11_behind]
theorem kQ_X11_cB (g : mG) (m : mM) (r : Nat) (mo : Nat) (i : Nat) : gQ (X11_cB_m g m r mo i) = gQ m := by
  unfold X11_cB_m
  simp only [mm, kQ_X11_behind]
theorem kL_X11_cB (g : mG) (m : mM) (r : Nat) (mo : Nat) (i : Nat) : gL (X11_cB_m g m r mo i) = gL m := by
  unfold X11_cB_m
  simp only [mm, kL_X11_behind]
theorem kD_X11_cB (g : mG) (m : mM) (r : Nat) (mo : Nat) (i : Nat) : gD (X11_cB_m g m r mo i) = gD m := by
  unfold X11_cB_m
  simp only [mm, kD_X11_behind]
theorem kI_X11_cB (g : mG) (m : mM) (r : Nat) (mo : Nat) (i : Nat) (ky a9 : Nat) (h1 : ky ≠ 401) (h2 : ky ≠ 404) : gI (X11_cB_m g m r mo i) ky a9 = gI m ky a9 := by
  unfold X11_cB_m
  simp [mm, kI_X11_behind, h1, h2]
theorem kA_X11_cB (g : mG) (m : mM) (r : Nat) (mo : Nat) (i : Nat) (c9 i9 : Nat) (h0 : c9 ≠ r + 9) : gA (X11_cB_m g m r mo i) c9 i9 = gA m c9 i9 := by
  unfold X11_cB_m
  simp [mm, kA_X11_behind, h0]
section
variable {g : mG} {m m1 : mM} {r : Nat}
theorem PG.sA {q i : Nat} {v : Int32} (h : PG m m1 r) : PG m (sA m1 q i v) r := h
theorem PG.cL (h : PG m m1 r) (hE : okI (gI m 402 r) 60) : PG m (X11_cL_m g m1 r) r := PG.sA (h.tr (lt_PG h.1 (h.en hE)))
theorem PG.cD {mo : Nat} (h : PG m m1 r) (hE : okI (gI m 402 r) 60) : PG m (X11_cD_m g m1 r mo) r := PG.sA (h.tr (dg_PG h.1 (h.en hE)))
theorem PG.cB {mo i : Nat} (h : PG m m1 r) (hE : okI (gI m 402 r) 60) : PG m (X11_cB_m g m1 r mo i) r := PG.sA (h.tr (bh_PG h.1 (h.en hE)))
theorem PG.wd (hH : okI (gI m 401 r) 60) (hE : okI (gI m 402 r) 60) : PG m (X11_word_m g m r) r := wd_PG hH hE
end
def X11_command_m (g : mG) (m : mM) (r : Nat) (N : Nat) (H : Nat) : mM := if (gI (X11_word_m g m r ) 404 r) = 0 then (if (X11_word_r g m r ) = 2 then (if (gI (X11_cL_m g ((X11_word_m g m r)) r) 404 r) = 0 then (if (gI (X11_cL_m g ((X11_word_m g m r)) r) 405 r) = 0 then ((X11_cL_m g ((X11_word_m g m r)) r)) else ((X11_does_m g ((X11_cL_m g ((X11_word_m g m r)) r)) r (X11_word_r g m r ) N H))) else ((X11_cL_m g ((X11_word_m g m r)) r))) else (if (X11_word_r g m r ) = 1 then (if (gI (X11_cD_m g ((X11_word_m g m r)) r 1) 404 r) = 0 then (if (gI (X11_cD_m g ((X11_word_m g m r)) r 1) 405 r) = 0 then ((X11_cD_m g ((X11_word_m g m r)) r 1)) else ((X11_does_m g ((X11_cD_m g ((X11_word_m g m r)) r 1)) r (X11_word_r g m r ) N H))) else ((X11_cD_m g ((X11_word_m g m r)) r 1))) else (if (X11_word_r g m r ) = 3 then (if (gI (X11_cD_m g ((X11_word_m g m r)) r 1) 404 r) = 0 then (if (gI (X11_cD_m g ((X11_word_m g m r)) r 1) 405 r) = 0 then ((X11_cD_m g ((X11_word_m g m r)) r 1)) else ((X11_does_m g ((X11_cD_m g ((X11_word_m g m r)) r 1)) r (X11_word_r g m r ) N H))) else ((X11_cD_m g ((X11_word_m g m r)) r 1))) else (if (X11_word_r g m r ) = 6 then (if (gI (X11_cD_m g ((X11_word_m g m r)) r 2) 404 r) = 0 then (if (gI (X11_cB_m g ((X11_cD_m g (X11_word_m g m r) r 2)) r 1 1) 404 r) = 0 then (if (gI (X11_cB_m g ((X11_cD_m g (X11_word_m g m r) r 2)) r 1 1) 405 r) = 0 then ((X11_cB_m g ((X11_cD_m g (X11_word_m g m r) r 2)) r 1 1)) else ((X11_does_m g ((X11_cB_m g ((X11_cD_m g (X11_word_m g m r) r 2)) r 1 1)) r (X11_word_r g m r ) N H))) else ((X11_cB_m g ((X11_cD_m g (X11_word_m g m r) r 2)) r 1 1))) else ((X11_cD_m g ((X11_word_m g m r)) r 2))) else (if (X11_word_r g m r ) = 9 then (if (gI (X11_cD_m g ((X11_word_m g m r)) r 2) 404 r) = 0 then (if (gI (X11_cB_m g ((X11_cD_m g (X11_word_m g m r) r 2)) r 2 1) 404 r) = 0 then (if (gI (X11_cB_m g ((X11_cB_m g (X11_cD_m g (X11_word_m g m r) r 2) r 2 1)) r 2 2) 404 r) = 0 then (if (gI (X11_cB_m g ((X11_cB_m g (X11_cB_m g (X11_cD_m g (X11_word_m g m r) r 2) r 2 1) r 2 2)) r 2 3) 404 r) = 0 then (if (gI (X11_cB_m g ((X11_cB_m g (X11_cB_m g (X11_cD_m g (X11_word_m g m r) r 2) r 2 1) r 2 2)) r 2 3) 405 r) = 0 then ((X11_cB_m g ((X11_cB_m g (X11_cB_m g (X11_cD_m g (X11_word_m g m r) r 2) r 2 1) r 2 2)) r 2 3)) else ((X11_does_m g ((X11_cB_m g ((X11_cB_m g (X11_cB_m g (X11_cD_m g (X11_word_m g m r) r 2) r 2 1) r 2 2)) r 2 3)) r (X11_word_r g m r ) N H))) else ((X11_cB_m g ((X11_cB_m g (X11_cB_m g (X11_cD_m g (X11_word_m g m r) r 2) r 2 1) r 2 2)) r 2 3))) else ((X11_cB_m g ((X11_cB_m g (X11_cD_m g (X11_word_m g m r) r 2) r 2 1)) r 2 2))) else ((X11_cB_m g ((X11_cD_m g (X11_word_m g m r) r 2)) r 2 1))) else ((X11_cD_m g ((X11_word_m g m r)) r 2))) else (if (gI (X11_cD_m g ((X11_word_m g m r)) r 2) 404 r) = 0 then (if (gI (X11_cD_m g ((X11_word_m g m r)) r 2) 405 r) = 0 then ((X11_cD_m g ((X11_word_m g m r)) r 2)) else ((X11_does_m g ((X11_cD_m g ((X11_word_m g m r)) r 2)) r (X11_word_r g m r ) N H))) else ((X11_cD_m g ((X11_word_m g m r)) r 2)))))))) else ((X11_word_m g m r ))
theorem kK_X11_command (g : mG) (m : mM) (r : Nat) (N : Nat) (H : Nat) : gK (X11_command_m g m r N H) = gK m := by
  unfold X11_command_m
  repeat' with_reducible refine it_x gK ?_ ?_
  all_goals simp only [mm, kK_X11_cB, kK_X11_cD, kK_X11_cL, kK_X11_does, kK_X11_word]
theorem kN_X11_command (g : mG) (m : mM) (r : Nat) (N : Nat) (H : Nat) : gN (X11_command_m g m r N H) = gN m := by
  unfold X11_command_m
  repeat' with_reducible refine it_x gN ?_ ?_
  all_goals simp only [mm, kN_X11_cB, kN_X11_cD, kN_X11_cL, kN_X11_does, kN_X11_word]
theorem kI_X11_command (g : mG) (m : mM) (r : Nat) (N : Nat) (H : Nat) (k a9 : Nat) (h0 : k ≠ 384) (h1 : k ≠ 401) (h2 : k ≠ 404) : gI (X11_command_m g m r N H) k a9 = gI m k a9 := by
  unfold X11_command_m
  repeat' with_reducible refine it_x (fun q => gI q k a9) ?_ ?_
  all_goals simp [mm, kI_X11_cB, kI_X11_cD, kI_X11_cL, kI_X11_does, kI_X11_word, h0, h1, h2]
theorem kJ_X11_command (g : mG) (m : mM) (r : Nat) (N : Nat) (H : Nat) : gJ (X11_command_m g m r N H) = gJ m := by
  unfold X11_command_m
  repeat' with_reducible refine it_x gJ ?_ ?_
  all_goals simp only [mm, kJ_X11_cB, kJ_X11_cD, kJ_X11_cL, kJ_X11_does, kJ_X11_word]
theorem kR_X11_command (g : mG) (m : mM) (r : Nat) (N : Nat) (H : Nat) : gR (X11_command_m g m r N H) = gR m := by
  unfold X11_command_m
  repeat' with_reducible refine it_x gR ?_ ?_
  all_goals simp only [mm, kR_X11_cB, kR_X11_cD, kR_X11_cL, kR_X11_does, kR_X11_word]
theorem kQ_X11_command (g : mG) (m : mM) (r : Nat) (N : Nat) (H : Nat) : gQ (X11_command_m g m r N H) = gQ m := by
  unfold X11_command_m
  repeat' with_reducible refine it_x gQ ?_ ?_
  all_goals simp only [mm, kQ_X11_cB, kQ_X11_cD, kQ_X11_cL, kQ_X11_does, kQ_X11_word]
theorem kL_X11_command (g : mG) (m : mM) (r : Nat) (N : Nat) (H : Nat) : gL (X11_command_m g m r N H) = gL m := by
  unfold X11_command_m
  repeat' with_reducible refine it_x gL ?_ ?_
  all_goals simp only [mm, kL_X11_cB, kL_X11_cD, kL_X11_cL, kL_X11_does, kL_X11_word]
theorem kD_X11_command (g : mG) (m : mM) (r : Nat) (N : Nat) (H : Nat) : gD (X11_command_m g m r N H) = gD m := by
  unfold X11_command_m
  repeat' with_reducible refine it_x gD ?_ ?_
  all_goals simp only [mm, kD_X11_cB, kD_X11_cD, kD_X11_cL, kD_X11_does, kD_X11_word]
theorem kA_X11_command (g : mG) (m : mM) (r : Nat) (N : Nat) (H : Nat) (c9 i9 : Nat) (h0 : c9 ≠ r + 1) (h1 : c9 ≠ r + 8) (h2 : c9 ≠ r + 9) : gA (X11_command_m g m r N H) c9 i9 = gA m c9 i9 := by
  unfold X11_command_m
  repeat' with_reducible refine it_x (fun q => gA q c9 i9) ?_ ?_
  all_goals simp [mm, kA_X11_cB, kA_X11_cD, kA_X11_cL, kA_X11_does, kA_X11_word, h0, h1, h2]
set_option maxHeartbeats 4000000 in
set_option maxRecDepth 100000 in
theorem c_X11_command {l : Launch} {g : mG} (hO : mO l g) (m : mM) (r : Nat) (N : Nat) (H : Nat) (hs : SR m r) (hN : gA m (r + 1) 5 = nI N) (hN8 : N ≤ 8) (hH : gA m (r + 1) 6 = nI H) (hH4 : H ≤ 4) (hHe : okI (gI m 401 r) 60) (hEn : okI (gI m 402 r) 60) (hW0 : gI m 404 r = 0) (hwd : WD m r) : mT l g yX11_command (.code yX11_command cX11_command 3 (Option.none : Option FieldType)) 5 112 0 0 [.ref r] m (fun u m' => u = none ∧ m' = X11_command_m g m r N H) nX := by
  refine mT_of hO (by decide) (Nat.le_of_ble_eq_true rfl) (fun x hX hZ => ?_)
  show mV g x m 0 0 0 [(0, .ref r)] []
  refine v_aload_n (pc := 0) hX dX11_command_0 rfl ?_
  refine v_callV (z := yX11_word) (pc := 1) hX dX11_command_1 (c_X11_word hO m r  hs hHe hEn hW0 hwd) hs.k rfl wd_1893 wd_1895 wp_47 wd_16 wd_1896 ⟨by decide, by decide, (by decide +kernel : (parseMethodDescriptor yX11_word.desc).map (fun d => d.parameters.length) = some 0)⟩ rfl (Nat.le_of_ble_eq_true rfl) ⟨⟨by decide, by decide⟩, by decide, by decide⟩ (fun E m9 h9 => h9.elim) (fun r9 m9 h9 => ?_)
  obtain ⟨rfl, h8⟩ := h9
  replace h8 := h8.symm
  subst h8
  show mV g x _ _ _ _ _ [.int (X11_word_r g m r )]
  refine v_istore_n (pc := 4) hX dX11_command_4 (by decide) rfl ?_
  refine v_aload_n (pc := 5) hX dX11_command_5 rfl ?_
  refine v_get (v := .int (gI (X11_word_m g m r ) 404 r)) (pc := 6) hX dX11_command_6 (by simp only [mm, kK_X11_word]; exact hs.k) (ci := 12) (r := vwC12) rfl 20 (by decide) wd_1526 rfl ?_
  refine v_if_eq (tgt := 13) (pc := 9) hX dX11_command_9 (by decide) (fun c1 => ?_) (fun c1 => ?_)
  ·
    refine v_aload_n (pc := 13) hX dX11_command_13 rfl ?_
    refine v_get (v := .ref (r + 9)) (pc := 14) hX dX11_command_14 (by simp only [mm, kK_X11_word]; exact hs.k) (ci := 12) (r := vwC12) rfl 13 (by decide) wd_1519 (fvA rfl (by simp [mm, kR_X11_word, hs.r9])) ?_
    refine v_iconst (v := 0) (pc := 17) hX dX11_command_17 (by decide) ?_
    refine v_iload_n (pc := 18) hX dX11_command_18 rfl ?_
    refine v_iconst (v := 2) (pc := 19) hX dX11_command_19 (by decide) ?_
    refine v_icmp_ne (tgt := 30) (pc := 20) hX dX11_command_20 (by decide) (fun c2 => ?_) (fun c2 => ?_)
    ·
      refine v_aload_n (pc := 30) hX dX11_command_30 rfl ?_
      refine v_iload_n (pc := 31) hX dX11_command_31 rfl ?_
      refine v_iconst (v := 1) (pc := 32) hX dX11_command_32 (by decide) ?_
      refine v_icmp_eq (tgt := 41) (pc := 33) hX dX11_command_33 (by decide) (fun c3 => ?_) (fun c3 => ?_)
      ·
        refine v_iconst (v := 1) (pc := 41) hX dX11_command_41 (by decide) ?_
        refine v_goto (tgt := 46) (pc := 42) hX dX11_command_42 (by decide) ?_
        refine v_callV (z := yX11_digits) (pc := 46) hX dX11_command_46 (c_X11_digits hO ((X11_word_m g m r )) r 1  (hs.to (by simp only [mm, kK_X11_word]) (by simp only [mm, kR_X11_word])) (PG.wd (g := g) hHe hEn).1 ((PG.wd (g := g) hHe hEn).en hEn) (by assumption) (by decide)) (by simp only [mm, kK_X11_word]; exact hs.k) rfl wd_1905 wd_1907 wp_50 wd_16 wd_1908 ⟨by decide, by decide, (by decide +kernel : (parseMethodDescriptor yX11_digits.desc).map (fun d => d.parameters.length) = some 1)⟩ rfl (Nat.le_of_ble_eq_true rfl) ⟨⟨by decide, by decide⟩, by decide, by decide⟩ (fun E m9 h9 => h9.elim) (fun r9 m9 h9 => ?_)
        obtain ⟨rfl, h8⟩ := h9
        replace h8 := h8.symm
        subst h8
        show mV g x _ _ _ _ _ [.int (X11_digits_r g ((X11_word_m g m r )) r 1 ), .int 0, .ref (r + 9)]
        refine v_iast (j := 0) (pc := 49) hX dX11_command_49 (by simp only [mm, kK_X11_digits, kK_X11_word]; exact hs.k9) rfl (by decide) (by decide) ?_
        show mV g x ((X11_cD_m g ((X11_word_m g m r)) r 1)) _ _ _ _ _
        refine v_iload_n (pc := 50) hX dX11_command_50 rfl ?_
        refine v_bipush (v := 6) (pc := 51) hX dX11_command_51 (by decide) ?_
        refine v_icmp_ne (tgt := 74) (pc := 53) hX dX11_command_53 (by decide) (fun c4 => ?_) (fun c4 => ?_)
        ·
          refine v_iconst (v := 1) (pc := 74) hX dX11_command_74 (by decide) ?_
          refine v_istore_n (pc := 75) hX dX11_command_75 (by decide) rfl ?_
          refine v_iload_n (pc := 76) hX dX11_command_76 rfl ?_
          refine v_iconst (v := 4) (pc := 77) hX dX11_command_77 (by decide) ?_
          refine v_icmp_ge (tgt := 111) (pc := 78) hX dX11_command_78 (by decide) (fun c5 => ?_) (fun c5 => ?_)
          · exact absurd c5 (by decide)
          ·
            refine v_iload_n (pc := 81) hX dX11_command_81 rfl ?_
            refine v_bipush (v := 9) (pc := 82) hX dX11_command_82 (by decide) ?_
            refine v_icmp_ne (tgt := 111) (pc := 84) hX dX11_command_84 (by decide) (fun c6 => ?_) (fun c6 => ?_)
            ·
              refine v_aload_n (pc := 111) hX dX11_command_111 rfl ?_
              refine v_get (v := .int (gI (X11_cD_m g ((X11_word_m g m r)) r 1) 404 r)) (pc := 112) hX dX11_command_112 (by simp only [mm, kK_X11_cD, kK_X11_word]; exact hs.k) (ci := 12) (r := vwC12) rfl 20 (by decide) wd_1526 rfl ?_
              refine v_if_ne (tgt := 125) (pc := 115) hX dX11_command_115 (by decide) (fun c7 => ?_) (fun c7 => ?_)
              ·
                exact v_vret (pc := 125) hX hZ dX11_command_125 (by decide) (by decide) ⟨rfl, (by rw [X11_command_m, if_pos c1, if_neg c2, if_pos c3, if_neg c7])⟩
              ·
                refine v_aload_n (pc := 118) hX dX11_command_118 rfl ?_
                refine v_get (v := .int (gI (X11_cD_m g ((X11_word_m g m r)) r 1) 405 r)) (pc := 119) hX dX11_command_119 (by simp only [mm, kK_X11_cD, kK_X11_word]; exact hs.k) (ci := 12) (r := vwC12) rfl 21 (by decide) wd_1527 rfl ?_
                refine v_if_ne (tgt := 126) (pc := 122) hX dX11_command_122 (by decide) (fun c8 => ?_) (fun c8 => ?_)
                ·
                  refine v_aload_n (pc := 126) hX dX11_command_126 rfl ?_
                  refine v_iload_n (pc := 127) hX dX11_command_127 rfl ?_
                  refine v_callV (z := yX11_does) (pc := 128) hX dX11_command_128 (c_X11_does hO ((X11_cD_m g ((X11_word_m g m r)) r 1)) r (X11_word_r g m r ) N H (hs.to (by simp only [mm, kK_X11_cD, kK_X11_word]) (by simp only [mm, kR_X11_cD, kR_X11_word])) (((kA_X11_cD g (X11_word_m g m r) r 1 (r + 1) (5) (by omega)).trans ((kA_X11_word g m r (r + 1) (5) (by omega)).trans rfl)).trans hN) hN8 (((kA_X11_cD g (X11_word_m g m r) r 1 (r + 1) (6) (by omega)).trans ((kA_X11_word g m r (r + 1) (6) (by omega)).trans rfl)).trans hH) hH4) (by simp only [mm, kK_X11_cD, kK_X11_word]; exact hs.k) rfl wd_1917 wd_1919 wp_53 wd_16 wd_1920 ⟨by decide, by decide, (by decide +kernel : (parseMethodDescriptor yX11_does.desc).map (fun d => d.parameters.length) = some 1)⟩ rfl (Nat.le_of_ble_eq_true rfl) ⟨⟨by decide, by decide⟩, by decide, by decide⟩ (fun E m9 h9 => h9.elim) (fun r9 m9 h9 => ?_)
                  obtain ⟨rfl, h8⟩ := h9
                  replace h8 := h8.symm
                  subst h8
                  show mV g x _ _ _ _ _ [.int (X11_does_r g ((X11_cD_m g ((X11_word_m g m r)) r 1)) r (X11_word_r g m r ) N H)]
                  refine v_istore_n (pc := 131) hX dX11_command_131 (by decide) rfl ?_
                  exact v_vret (pc := 132) hX hZ dX11_command_132 (by decide) (by decide) ⟨rfl, (by rw [X11_command_m, if_pos c1, if_neg c2, if_pos c3, if_pos c7, if_neg c8])⟩
                ·
                  exact v_vret (pc := 125) hX hZ dX11_command_125 (by decide) (by decide) ⟨rfl, (by rw [X11_command_m, if_pos c1, if_neg c2, if_pos c3, if_pos c7, if_pos c8])⟩
            · exact absurd c6 ((by rw [c3]; decide))
        · exact absurd c4 ((by rw [c3]; decide))
      ·
        refine v_iload_n (pc := 36) hX dX11_command_36 rfl ?_
        refine v_iconst (v := 3) (pc := 37) hX dX11_command_37 (by decide) ?_
        refine v_icmp_ne (tgt := 45) (pc := 38) hX dX11_command_38 (by decide) (fun c9 => ?_) (fun c9 => ?_)
        ·
          refine v_iconst (v := 2) (pc := 45) hX dX11_command_45 (by decide) ?_
          refine v_callV (z := yX11_digits) (pc := 46) hX dX11_command_46 (c_X11_digits hO ((X11_word_m g m r )) r 2  (hs.to (by simp only [mm, kK_X11_word]) (by simp only [mm, kR_X11_word])) (PG.wd (g := g) hHe hEn).1 ((PG.wd (g := g) hHe hEn).en hEn) (by assumption) (by decide)) (by simp only [mm, kK_X11_word]; exact hs.k) rfl wd_1905 wd_1907 wp_50 wd_16 wd_1908 ⟨by decide, by decide, (by decide +kernel : (parseMethodDescriptor yX11_digits.desc).map (fun d => d.parameters.length) = some 1)⟩ rfl (Nat.le_of_ble_eq_true rfl) ⟨⟨by decide, by decide⟩, by decide, by decide⟩ (fun E m9 h9 => h9.elim) (fun r9 m9 h9 => ?_)
          obtain ⟨rfl, h8⟩ := h9
          replace h8 := h8.symm
          subst h8
          show mV g x _ _ _ _ _ [.int (X11_digits_r g ((X11_word_m g m r )) r 2 ), .int 0, .ref (r + 9)]
          refine v_iast (j := 0) (pc := 49) hX dX11_command_49 (by simp only [mm, kK_X11_digits, kK_X11_word]; exact hs.k9) rfl (by decide) (by decide) ?_
          show mV g x ((X11_cD_m g ((X11_word_m g m r)) r 2)) _ _ _ _ _
          refine v_iload_n (pc := 50) hX dX11_command_50 rfl ?_
          refine v_bipush (v := 6) (pc := 51) hX dX11_command_51 (by decide) ?_
          refine v_icmp_ne (tgt := 74) (pc := 53) hX dX11_command_53 (by decide) (fun c10 => ?_) (fun c10 => ?_)
          ·
            refine v_iconst (v := 1) (pc := 74) hX dX11_command_74 (by decide) ?_
            refine v_istore_n (pc := 75) hX dX11_command_75 (by decide) rfl ?_
            refine v_iload_n (pc := 76) hX dX11_command_76 rfl ?_
            refine v_iconst (v := 4) (pc := 77) hX dX11_command_77 (by decide) ?_
            refine v_icmp_ge (tgt := 111) (pc := 78) hX dX11_command_78 (by decide) (fun c11 => ?_) (fun c11 => ?_)
            · exact absurd c11 (by decide)
            ·
              refine v_iload_n (pc := 81) hX dX11_command_81 rfl ?_
              refine v_bipush (v := 9) (pc := 82) hX dX11_command_82 (by decide) ?_
              refine v_icmp_ne (tgt := 111) (pc := 84) hX dX11_command_84 (by decide) (fun c12 => ?_) (fun c12 => ?_)
              ·
                refine v_aload_n (pc := 111) hX dX11_command_111 rfl ?_
                refine v_get (v := .int (gI (X11_cD_m g ((X11_word_m g m r)) r 2) 404 r)) (pc := 112) hX dX11_command_112 (by simp only [mm, kK_X11_cD, kK_X11_word]; exact hs.k) (ci := 12) (r := vwC12) rfl 20 (by decide) wd_1526 rfl ?_
                refine v_if_ne (tgt := 125) (pc := 115) hX dX11_command_115 (by decide) (fun c13 => ?_) (fun c13 => ?_)
                ·
                  exact v_vret (pc := 125) hX hZ dX11_command_125 (by decide) (by decide) ⟨rfl, (by rw [X11_command_m, if_pos c1, if_neg c2, if_neg c3, if_neg c9, if_neg c10, if_neg c12, if_neg c13])⟩
                ·
                  refine v_aload_n (pc := 118) hX dX11_command_118 rfl ?_
                  refine v_get (v := .int (gI (X11_cD_m g ((X11_word_m g m r)) r 2) 405 r)) (pc := 119) hX dX11_command_119 (by simp only [mm, kK_X11_cD, kK_X11_word]; exact hs.k) (ci := 12) (r := vwC12) rfl 21 (by decide) wd_1527 rfl ?_
                  refine v_if_ne (tgt := 126) (pc := 122) hX dX11_command_122 (by decide) (fun c14 => ?_) (fun c14 => ?_)
                  ·
                    refine v_aload_n (pc := 126) hX dX11_command_126 rfl ?_
                    refine v_iload_n (pc := 127) hX dX11_command_127 rfl ?_
                    refine v_callV (z := yX11_does) (pc := 128) hX dX11_command_128 (c_X11_does hO ((X11_cD_m g ((X11_word_m g m r)) r 2)) r (X11_word_r g m r ) N H (hs.to (by simp only [mm, kK_X11_cD, kK_X11_word]) (by simp only [mm, kR_X11_cD, kR_X11_word])) (((kA_X11_cD g (X11_word_m g m r) r 2 (r + 1) (5) (by omega)).trans ((kA_X11_word g m r (r + 1) (5) (by omega)).trans rfl)).trans hN) hN8 (((kA_X11_cD g (X11_word_m g m r) r 2 (r + 1) (6) (by omega)).trans ((kA_X11_word g m r (r + 1) (6) (by omega)).trans rfl)).trans hH) hH4) (by simp only [mm, kK_X11_cD, kK_X11_word]; exact hs.k) rfl wd_1917 wd_1919 wp_53 wd_16 wd_1920 ⟨by decide, by decide, (by decide +kernel : (parseMethodDescriptor yX11_does.desc).map (fun d => d.parameters.length) = some 1)⟩ rfl (Nat.le_of_ble_eq_true rfl) ⟨⟨by decide, by decide⟩, by decide, by decide⟩ (fun E m9 h9 => h9.elim) (fun r9 m9 h9 => ?_)
                    obtain ⟨rfl, h8⟩ := h9
                    replace h8 := h8.symm
                    subst h8
                    show mV g x _ _ _ _ _ [.int (X11_does_r g ((X11_cD_m g ((X11_word_m g m r)) r 2)) r (X11_word_r g m r ) N H)]
                    refine v_istore_n (pc := 131) hX dX11_command_131 (by decide) rfl ?_
                    exact v_vret (pc := 132) hX hZ dX11_command_132 (by decide) (by decide) ⟨rfl, (by rw [X11_command_m, if_pos c1, if_neg c2, if_neg c3, if_neg c9, if_neg c10, if_neg c12, if_pos c13, if_neg c14])⟩
                  ·
                    exact v_vret (pc := 125) hX hZ dX11_command_125 (by decide) (by decide) ⟨rfl, (by rw [X11_command_m, if_pos c1, if_neg c2, if_neg c3, if_neg c9, if_neg c10, if_neg c12, if_pos c13, if_pos c14])⟩
              ·
                refine v_aload_n (pc := 87) hX dX11_command_87 rfl ?_
                refine v_get (v := .int (gI (X11_cD_m g ((X11_word_m g m r)) r 2) 404 r)) (pc := 88) hX dX11_command_88 (by simp only [mm, kK_X11_cD, kK_X11_word]; exact hs.k) (ci := 12) (r := vwC12) rfl 20 (by decide) wd_1526 rfl ?_
                refine v_if_ne (tgt := 111) (pc := 91) hX dX11_command_91 (by decide) (fun c15 => ?_) (fun c15 => ?_)
                ·
                  refine v_aload_n (pc := 111) hX dX11_command_111 rfl ?_
                  refine v_get (v := .int (gI (X11_cD_m g ((X11_word_m g m r)) r 2) 404 r)) (pc := 112) hX dX11_command_112 (by simp only [mm, kK_X11_cD, kK_X11_word]; exact hs.k) (ci := 12) (r := vwC12) rfl 20 (by decide) wd_1526 rfl ?_
                  refine v_if_ne (tgt := 125) (pc := 115) hX dX11_command_115 (by decide) (fun c16 => ?_) (fun c16 => ?_)
                  ·
                    exact v_vret (pc := 125) hX hZ dX11_command_125 (by decide) (by decide) ⟨rfl, (by rw [X11_command_m, if_pos c1, if_neg c2, if_neg c3, if_neg c9, if_neg c10, if_pos c12, if_neg c15])⟩
                  · exact absurd c16 (c15)
                ·
                  refine v_aload_n (pc := 94) hX dX11_command_94 rfl ?_
                  refine v_get (v := .ref (r + 9)) (pc := 95) hX dX11_command_95 (by simp only [mm, kK_X11_cD, kK_X11_word]; exact hs.k) (ci := 12) (r := vwC12) rfl 13 (by decide) wd_1519 (fvA rfl (by simp [mm, kR_X11_cD, kR_X11_word, hs.r9])) ?_
                  refine v_iload_n (pc := 98) hX dX11_command_98 rfl ?_
                  refine v_aload_n (pc := 99) hX dX11_command_99 rfl ?_
                  refine v_iconst (v := 2) (pc := 100) hX dX11_command_100 (by decide) ?_
                  refine v_callV (z := yX11_behind) (pc := 101) hX dX11_command_101 (c_X11_behind hO ((X11_cD_m g ((X11_word_m g m r)) r 2)) r 2  (hs.to (by simp only [mm, kK_X11_cD, kK_X11_word]) (by simp only [mm, kR_X11_cD, kR_X11_word])) (PG.cD (g := g) (PG.wd (g := g) hHe hEn) hEn).1 ((PG.cD (g := g) (PG.wd (g := g) hHe hEn) hEn).en hEn) (by decide)) (by simp only [mm, kK_X11_cD, kK_X11_word]; exact hs.k) rfl wd_1909 wd_1911 wp_51 wd_16 wd_1912 ⟨by decide, by decide, (by decide +kernel : (parseMethodDescriptor yX11_behind.desc).map (fun d => d.parameters.length) = some 1)⟩ rfl (Nat.le_of_ble_eq_true rfl) ⟨⟨by decide, by decide⟩, by decide, by decide⟩ (fun E m9 h9 => h9.elim) (fun r9 m9 h9 => ?_)
                  obtain ⟨rfl, h8⟩ := h9
                  replace h8 := h8.symm
                  subst h8
                  show mV g x _ _ _ _ _ [.int (X11_behind_r g ((X11_cD_m g ((X11_word_m g m r)) r 2)) r 2 ), .int 1, .ref (r + 9)]
                  refine v_iast (j := 1) (pc := 104) hX dX11_command_104 (by simp only [mm, kK_X11_behind, kK_X11_cD, kK_X11_word]; exact hs.k9) rfl (by decide) (by decide) ?_
                  show mV g x ((X11_cB_m g ((X11_cD_m g (X11_word_m g m r) r 2)) r 2 1)) _ _ _ _ _
                  refine v_iinc (w := 1 + 1) (pc := 105) hX dX11_command_105 rfl rfl (by decide) rfl ?_
                  refine v_goto (tgt := 76) (pc := 108) hX dX11_command_108 (by decide) ?_
                  refine v_iload_n (pc := 76) hX dX11_command_76 rfl ?_
                  refine v_iconst (v := 4) (pc := 77) hX dX11_command_77 (by decide) ?_
                  refine v_icmp_ge (tgt := 111) (pc := 78) hX dX11_command_78 (by decide) (fun c17 => ?_) (fun c17 => ?_)
                  · exact absurd c17 (by decide)
                  ·
                    refine v_iload_n (pc := 81) hX dX11_command_81 rfl ?_
                    refine v_bipush (v := 9) (pc := 82) hX dX11_command_82 (by decide) ?_
                    refine v_icmp_ne (tgt := 111) (pc := 84) hX dX11_command_84 (by decide) (fun c18 => ?_) (fun c18 => ?_)
                    · exact absurd (c12) c18
                    ·
                      refine v_aload_n (pc := 87) hX dX11_command_87 rfl ?_
                      refine v_get (v := .int (gI (X11_cB_m g ((X11_cD_m g (X11_word_m g m r) r 2)) r 2 1) 404 r)) (pc := 88) hX dX11_command_88 (by simp only [mm, kK_X11_cB, kK_X11_cD, kK_X11_word]; exact hs.k) (ci := 12) (r := vwC12) rfl 20 (by decide) wd_1526 rfl ?_
                      refine v_if_ne (tgt := 111) (pc := 91) hX dX11_command_91 (by decide) (fun c19 => ?_) (fun c19 => ?_)
                      ·
                        refine v_aload_n (pc := 111) hX dX11_command_111 rfl ?_
                        refine v_get (v := .int (gI (X11_cB_m g ((X11_cD_m g (X11_word_m g m r) r 2)) r 2 1) 404 r)) (pc := 112) hX dX11_command_112 (by simp only [mm, kK_X11_cB, kK_X11_cD, kK_X11_word]; exact hs.k) (ci := 12) (r := vwC12) rfl 20 (by decide) wd_1526 rfl ?_
                        refine v_if_ne (tgt := 125) (pc := 115) hX dX11_command_115 (by decide) (fun c20 => ?_) (fun c20 => ?_)
                        ·
                          exact v_vret (pc := 125) hX hZ dX11_command_125 (by decide) (by decide) ⟨rfl, (by rw [X11_command_m, if_pos c1, if_neg c2, if_neg c3, if_neg c9, if_neg c10, if_pos c12, if_pos c15, if_neg c19])⟩
                        · exact absurd c20 (c19)
                      ·
                        refine v_aload_n (pc := 94) hX dX11_command_94 rfl ?_
                        refine v_get (v := .ref (r + 9)) (pc := 95) hX dX11_command_95 (by simp only [mm, kK_X11_cB, kK_X11_cD, kK_X11_word]; exact hs.k) (ci := 12) (r := vwC12) rfl 13 (by decide) wd_1519 (fvA rfl (by simp [mm, kR_X11_cB, kR_X11_cD, kR_X11_word, hs.r9])) ?_
                        refine v_iload_n (pc := 98) hX dX11_command_98 rfl ?_
                        refine v_aload_n (pc := 99) hX dX11_command_99 rfl ?_
                        refine v_iconst (v := 2) (pc := 100) hX dX11_command_100 (by decide) ?_
                        refine v_callV (z := yX11_behind) (pc := 101) hX dX11_command_101 (c_X11_behind hO ((X11_cB_m g ((X11_cD_m g (X11_word_m g m r) r 2)) r 2 1)) r 2  (hs.to (by simp only [mm, kK_X11_cB, kK_X11_cD, kK_X11_word]) (by simp only [mm, kR_X11_cB, kR_X11_cD, kR_X11_word])) (PG.cB (g := g) (PG.cD (g := g) (PG.wd (g := g) hHe hEn) hEn) hEn).1 ((PG.cB (g := g) (PG.cD (g := g) (PG.wd (g := g) hHe hEn) hEn) hEn).en hEn) (by decide)) (by simp only [mm, kK_X11_cB, kK_X11_cD, kK_X11_word]; exact hs.k) rfl wd_1909 wd_1911 wp_51 wd_16 wd_1912 ⟨by decide, by decide, (by decide +kernel : (parseMethodDescriptor yX11_behind.desc).map (fun d => d.parameters.length) = some 1)⟩ rfl (Nat.le_of_ble_eq_true rfl) ⟨⟨by decide, by decide⟩, by decide, by decide⟩ (fun E m9 h9 => h9.elim) (fun r9 m9 h9 => ?_)
                        obtain ⟨rfl, h8⟩ := h9
                        replace h8 := h8.symm
                        subst h8
                        show mV g x _ _ _ _ _ [.int (X11_behind_r g ((X11_cB_m g ((X11_cD_m g (X11_word_m g m r) r 2)) r 2 1)) r 2 ), .int (1 + 1), .ref (r + 9)]
                        refine v_iast (j := 2) (pc := 104) hX dX11_command_104 (by simp only [mm, kK_X11_behind, kK_X11_cB, kK_X11_cD, kK_X11_word]; exact hs.k9) (by decide) (by decide) (by decide) ?_
                        show mV g x ((X11_cB_m g ((X11_cB_m g (X11_cD_m g (X11_word_m g m r) r 2) r 2 1)) r 2 2)) _ _ _ _ _
                        refine v_iinc (w := (1 + 1) + 1) (pc := 105) hX dX11_command_105 rfl rfl (by decide) rfl ?_
                        refine v_goto (tgt := 76) (pc := 108) hX dX11_command_108 (by decide) ?_
                        refine v_iload_n (pc := 76) hX dX11_command_76 rfl ?_
                        refine v_iconst (v := 4) (pc := 77) hX dX11_command_77 (by decide) ?_
                        refine v_icmp_ge (tgt := 111) (pc := 78) hX dX11_command_78 (by decide) (fun c21 => ?_) (fun c21 => ?_)
                        · exact absurd c21 (by decide)
                        ·
                          refine v_iload_n (pc := 81) hX dX11_command_81 rfl ?_
                          refine v_bipush (v := 9) (pc := 82) hX dX11_command_82 (by decide) ?_
                          refine v_icmp_ne (tgt := 111) (pc := 84) hX dX11_command_84 (by decide) (fun c22 => ?_) (fun c22 => ?_)
                          · exact absurd (c12) c22
                          ·
                            refine v_aload_n (pc := 87) hX dX11_command_87 rfl ?_
                            refine v_get (v := .int (gI (X11_cB_m g ((X11_cB_m g (X11_cD_m g (X11_word_m g m r) r 2) r 2 1)) r 2 2) 404 r)) (pc := 88) hX dX11_command_88 (by simp only [mm, kK_X11_cB, kK_X11_cD, kK_X11_word]; exact hs.k) (ci := 12) (r := vwC12) rfl 20 (by decide) wd_1526 rfl ?_
                            refine v_if_ne (tgt := 111) (pc := 91) hX dX11_command_91 (by decide) (fun c23 => ?_) (fun c23 => ?_)
                            ·
                              refine v_aload_n (pc := 111) hX dX11_command_111 rfl ?_
                              refine v_get (v := .int (gI (X11_cB_m g ((X11_cB_m g (X11_cD_m g (X11_word_m g m r) r 2) r 2 1)) r 2 2) 404 r)) (pc := 112) hX dX11_command_112 (by simp only [mm, kK_X11_cB, kK_X11_cD, kK_X11_word]; exact hs.k) (ci := 12) (r := vwC12) rfl 20 (by decide) wd_1526 rfl ?_
                              refine v_if_ne (tgt := 125) (pc := 115) hX dX11_command_115 (by decide) (fun c24 => ?_) (fun c24 => ?_)
                              ·
                                exact v_vret (pc := 125) hX hZ dX11_command_125 (by decide) (by decide) ⟨rfl, (by rw [X11_command_m, if_pos c1, if_neg c2, if_neg c3, if_neg c9, if_neg c10, if_pos c12, if_pos c15, if_pos c19, if_neg c23])⟩
                              · exact absurd c24 (c23)
                            ·
                              refine v_aload_n (pc := 94) hX dX11_command_94 rfl ?_
                              refine v_get (v := .ref (r + 9)) (pc := 95) hX dX11_command_95 (by simp only [mm, kK_X11_cB, kK_X11_cD, kK_X11_word]; exact hs.k) (ci := 12) (r := vwC12) rfl 13 (by decide) wd_1519 (fvA rfl (by simp [mm, kR_X11_cB, kR_X11_cD, kR_X11_word, hs.r9])) ?_
                              refine v_iload_n (pc := 98) hX dX11_command_98 rfl ?_
                              refine v_aload_n (pc := 99) hX dX11_command_99 rfl ?_
                              refine v_iconst (v := 2) (pc := 100) hX dX11_command_100 (by decide) ?_
                              refine v_callV (z := yX11_behind) (pc := 101) hX dX11_command_101 (c_X11_behind hO ((X11_cB_m g ((X11_cB_m g (X11_cD_m g (X11_word_m g m r) r 2) r 2 1)) r 2 2)) r 2  (hs.to (by simp only [mm, kK_X11_cB, kK_X11_cD, kK_X11_word]) (by simp only [mm, kR_X11_cB, kR_X11_cD, kR_X11_word])) (PG.cB (g := g) (PG.cB (g := g) (PG.cD (g := g) (PG.wd (g := g) hHe hEn) hEn) hEn) hEn).1 ((PG.cB (g := g) (PG.cB (g := g) (PG.cD (g := g) (PG.wd (g := g) hHe hEn) hEn) hEn) hEn).en hEn) (by decide)) (by simp only [mm, kK_X11_cB, kK_X11_cD, kK_X11_word]; exact hs.k) rfl wd_1909 wd_1911 wp_51 wd_16 wd_1912 ⟨by decide, by decide, (by decide +kernel : (parseMethodDescriptor yX11_behind.desc).map (fun d => d.parameters.length) = some 1)⟩ rfl (Nat.le_of_ble_eq_true rfl) ⟨⟨by decide, by decide⟩, by decide, by decide⟩ (fun E m9 h9 => h9.elim) (fun r9 m9 h9 => ?_)
                              obtain ⟨rfl, h8⟩ := h9
                              replace h8 := h8.symm
                              subst h8
                              show mV g x _ _ _ _ _ [.int (X11_behind_r g ((X11_cB_m g ((X11_cB_m g (X11_cD_m g (X11_word_m g m r) r 2) r 2 1)) r 2 2)) r 2 ), .int ((1 + 1) + 1), .ref (r + 9)]
                              refine v_iast (j := 3) (pc := 104) hX dX11_command_104 (by simp only [mm, kK_X11_behind, kK_X11_cB, kK_X11_cD, kK_X11_word]; exact hs.k9) (by decide) (by decide) (by decide) ?_
                              show mV g x ((X11_cB_m g ((X11_cB_m g (X11_cB_m g (X11_cD_m g (X11_word_m g m r) r 2) r 2 1) r 2 2)) r 2 3)) _ _ _ _ _
                              refine v_iinc (w := ((1 + 1) + 1) + 1) (pc := 105) hX dX11_command_105 rfl rfl (by decide) rfl ?_
                              refine v_goto (tgt := 76) (pc := 108) hX dX11_command_108 (by decide) ?_
                              refine v_iload_n (pc := 76) hX dX11_command_76 rfl ?_
                              refine v_iconst (v := 4) (pc := 77) hX dX11_command_77 (by decide) ?_
                              refine v_icmp_ge (tgt := 111) (pc := 78) hX dX11_command_78 (by decide) (fun c25 => ?_) (fun c25 => ?_)
                              ·
                                refine v_aload_n (pc := 111) hX dX11_command_111 rfl ?_
                                refine v_get (v := .int (gI (X11_cB_m g ((X11_cB_m g (X11_cB_m g (X11_cD_m g (X11_word_m g m r) r 2) r 2 1) r 2 2)) r 2 3) 404 r)) (pc := 112) hX dX11_command_112 (by simp only [mm, kK_X11_cB, kK_X11_cD, kK_X11_word]; exact hs.k) (ci := 12) (r := vwC12) rfl 20 (by decide) wd_1526 rfl ?_
                                refine v_if_ne (tgt := 125) (pc := 115) hX dX11_command_115 (by decide) (fun c26 => ?_) (fun c26 => ?_)
                                ·
                                  exact v_vret (pc := 125) hX hZ dX11_command_125 (by decide) (by decide) ⟨rfl, (by rw [X11_command_m, if_pos c1, if_neg c2, if_neg c3, if_neg c9, if_neg c10, if_pos c12, if_pos c15, if_pos c19, if_pos c23, if_neg c26])⟩
                                ·
                                  refine v_aload_n (pc := 118) hX dX11_command_118 rfl ?_
                                  refine v_get (v := .int (gI (X11_cB_m g ((X11_cB_m g (X11_cB_m g (X11_cD_m g (X11_word_m g m r) r 2) r 2 1) r 2 2)) r 2 3) 405 r)) (pc := 119) hX dX11_command_119 (by simp only [mm, kK_X11_cB, kK_X11_cD, kK_X11_word]; exact hs.k) (ci := 12) (r := vwC12) rfl 21 (by decide) wd_1527 rfl ?_
                                  refine v_if_ne (tgt := 126) (pc := 122) hX dX11_command_122 (by decide) (fun c27 => ?_) (fun c27 => ?_)
                                  ·
                                    refine v_aload_n (pc := 126) hX dX11_command_126 rfl ?_
                                    refine v_iload_n (pc := 127) hX dX11_command_127 rfl ?_
                                    refine v_callV (z := yX11_does) (pc := 128) hX dX11_command_128 (c_X11_does hO ((X11_cB_m g ((X11_cB_m g (X11_cB_m g (X11_cD_m g (X11_word_m g m r) r 2) r 2 1) r 2 2)) r 2 3)) r (X11_word_r g m r ) N H (hs.to (by simp only [mm, kK_X11_cB, kK_X11_cD, kK_X11_word]) (by simp only [mm, kR_X11_cB, kR_X11_cD, kR_X11_word])) (((kA_X11_cB g (X11_cB_m g (X11_cB_m g (X11_cD_m g (X11_word_m g m r) r 2) r 2 1) r 2 2) r 2 3 (r + 1) (5) (by omega)).trans ((kA_X11_cB g (X11_cB_m g (X11_cD_m g (X11_word_m g m r) r 2) r 2 1) r 2 2 (r + 1) (5) (by omega)).trans ((kA_X11_cB g (X11_cD_m g (X11_word_m g m r) r 2) r 2 1 (r + 1) (5) (by omega)).trans ((kA_X11_cD g (X11_word_m g m r) r 2 (r + 1) (5) (by omega)).trans ((kA_X11_word g m r (r + 1) (5) (by omega)).trans rfl))))).trans hN) hN8 (((kA_X11_cB g (X11_cB_m g (X11_cB_m g (X11_cD_m g (X11_word_m g m r) r 2) r 2 1) r 2 2) r 2 3 (r + 1) (6) (by omega)).trans ((kA_X11_cB g (X11_cB_m g (X11_cD_m g (X11_word_m g m r) r 2) r 2 1) r 2 2 (r + 1) (6) (by omega)).trans ((kA_X11_cB g (X11_cD_m g (X11_word_m g m r) r 2) r 2 1 (r + 1) (6) (by omega)).trans ((kA_X11_cD g (X11_word_m g m r) r 2 (r + 1) (6) (by omega)).trans ((kA_X11_word g m r (r + 1) (6) (by omega)).trans rfl))))).trans hH) hH4) (by simp only [mm, kK_X11_cB, kK_X11_cD, kK_X11_word]; exact hs.k) rfl wd_1917 wd_1919 wp_53 wd_16 wd_1920 ⟨by decide, by decide, (by decide +kernel : (parseMethodDescriptor yX11_does.desc).map (fun d => d.parameters.length) = some 1)⟩ rfl (Nat.le_of_ble_eq_true rfl) ⟨⟨by decide, by decide⟩, by decide, by decide⟩ (fun E m9 h9 => h9.elim) (fun r9 m9 h9 => ?_)
                                    obtain ⟨rfl, h8⟩ := h9
                                    replace h8 := h8.symm
                                    subst h8
                                    show mV g x _ _ _ _ _ [.int (X11_does_r g ((X11_cB_m g ((X11_cB_m g (X11_cB_m g (X11_cD_m g (X11_word_m g m r) r 2) r 2 1) r 2 2)) r 2 3)) r (X11_word_r g m r ) N H)]
                                    refine v_istore_n (pc := 131) hX dX11_command_131 (by decide) rfl ?_
                                    exact v_vret (pc := 132) hX hZ dX11_command_132 (by decide) (by decide) ⟨rfl, (by rw [X11_command_m, if_pos c1, if_neg c2, if_neg c3, if_neg c9, if_neg c10, if_pos c12, if_pos c15, if_pos c19, if_pos c23, if_pos c26, if_neg c27])⟩
                                  ·
                                    exact v_vret (pc := 125) hX hZ dX11_command_125 (by decide) (by decide) ⟨rfl, (by rw [X11_command_m, if_pos c1, if_neg c2, if_neg c3, if_neg c9, if_neg c10, if_pos c12, if_pos c15, if_pos c19, if_pos c23, if_pos c26, if_pos c27])⟩
                              · exact absurd (by decide) c25
          ·
            refine v_aload_n (pc := 56) hX dX11_command_56 rfl ?_
            refine v_get (v := .int (gI (X11_cD_m g ((X11_word_m g m r)) r 2) 404 r)) (pc := 57) hX dX11_command_57 (by simp only [mm, kK_X11_cD, kK_X11_word]; exact hs.k) (ci := 12) (r := vwC12) rfl 20 (by decide) wd_1526 rfl ?_
            refine v_if_ne (tgt := 74) (pc := 60) hX dX11_command_60 (by decide) (fun c28 => ?_) (fun c28 => ?_)
            ·
              refine v_iconst (v := 1) (pc := 74) hX dX11_command_74 (by decide) ?_
              refine v_istore_n (pc := 75) hX dX11_command_75 (by decide) rfl ?_
              refine v_iload_n (pc := 76) hX dX11_command_76 rfl ?_
              refine v_iconst (v := 4) (pc := 77) hX dX11_command_77 (by decide) ?_
              refine v_icmp_ge (tgt := 111) (pc := 78) hX dX11_command_78 (by decide) (fun c29 => ?_) (fun c29 => ?_)
              · exact absurd c29 (by decide)
              ·
                refine v_iload_n (pc := 81) hX dX11_command_81 rfl ?_
                refine v_bipush (v := 9) (pc := 82) hX dX11_command_82 (by decide) ?_
                refine v_icmp_ne (tgt := 111) (pc := 84) hX dX11_command_84 (by decide) (fun c30 => ?_) (fun c30 => ?_)
                ·
                  refine v_aload_n (pc := 111) hX dX11_command_111 rfl ?_
                  refine v_get (v := .int (gI (X11_cD_m g ((X11_word_m g m r)) r 2) 404 r)) (pc := 112) hX dX11_command_112 (by simp only [mm, kK_X11_cD, kK_X11_word]; exact hs.k) (ci := 12) (r := vwC12) rfl 20 (by decide) wd_1526 rfl ?_
                  refine v_if_ne (tgt := 125) (pc := 115) hX dX11_command_115 (by decide) (fun c31 => ?_) (fun c31 => ?_)
                  ·
                    exact v_vret (pc := 125) hX hZ dX11_command_125 (by decide) (by decide) ⟨rfl, (by rw [X11_command_m, if_pos c1, if_neg c2, if_neg c3, if_neg c9, if_pos c10, if_neg c28])⟩
                  · exact absurd c31 (c28)
                · exact absurd c30 ((by rw [c10]; decide))
            ·
              refine v_aload_n (pc := 63) hX dX11_command_63 rfl ?_
              refine v_get (v := .ref (r + 9)) (pc := 64) hX dX11_command_64 (by simp only [mm, kK_X11_cD, kK_X11_word]; exact hs.k) (ci := 12) (r := vwC12) rfl 13 (by decide) wd_1519 (fvA rfl (by simp [mm, kR_X11_cD, kR_X11_word, hs.r9])) ?_
              refine v_iconst (v := 1) (pc := 67) hX dX11_command_67 (by decide) ?_
              refine v_aload_n (pc := 68) hX dX11_command_68 rfl ?_
              refine v_iconst (v := 1) (pc := 69) hX dX11_command_69 (by decide) ?_
              refine v_callV (z := yX11_behind) (pc := 70) hX dX11_command_70 (c_X11_behind hO ((X11_cD_m g ((X11_word_m g m r)) r 2)) r 1  (hs.to (by simp only [mm, kK_X11_cD, kK_X11_word]) (by simp only [mm, kR_X11_cD, kR_X11_word])) (PG.cD (g := g) (PG.wd (g := g) hHe hEn) hEn).1 ((PG.cD (g := g) (PG.wd (g := g) hHe hEn) hEn).en hEn) (by decide)) (by simp only [mm, kK_X11_cD, kK_X11_word]; exact hs.k) rfl wd_1909 wd_1911 wp_51 wd_16 wd_1912 ⟨by decide, by decide, (by decide +kernel : (parseMethodDescriptor yX11_behind.desc).map (fun d => d.parameters.length) = some 1)⟩ rfl (Nat.le_of_ble_eq_true rfl) ⟨⟨by decide, by decide⟩, by decide, by decide⟩ (fun E m9 h9 => h9.elim) (fun r9 m9 h9 => ?_)
              obtain ⟨rfl, h8⟩ := h9
              replace h8 := h8.symm
              subst h8
              show mV g x _ _ _ _ _ [.int (X11_behind_r g ((X11_cD_m g ((X11_word_m g m r)) r 2)) r 1 ), .int 1, .ref (r + 9)]
              refine v_iast (j := 1) (pc := 73) hX dX11_command_73 (by simp only [mm, kK_X11_behind, kK_X11_cD, kK_X11_word]; exact hs.k9) rfl (by decide) (by decide) ?_
              show mV g x ((X11_cB_m g ((X11_cD_m g (X11_word_m g m r) r 2)) r 1 1)) _ _ _ _ _
              refine v_iconst (v := 1) (pc := 74) hX dX11_command_74 (by decide) ?_
              refine v_istore_n (pc := 75) hX dX11_command_75 (by decide) rfl ?_
              refine v_iload_n (pc := 76) hX dX11_command_76 rfl ?_
              refine v_iconst (v := 4) (pc := 77) hX dX11_command_77 (by decide) ?_
              refine v_icmp_ge (tgt := 111) (pc := 78) hX dX11_command_78 (by decide) (fun c32 => ?_) (fun c32 => ?_)
              · exact absurd c32 (by decide)
              ·
                refine v_iload_n (pc := 81) hX dX11_command_81 rfl ?_
                refine v_bipush (v := 9) (pc := 82) hX dX11_command_82 (by decide) ?_
                refine v_icmp_ne (tgt := 111) (pc := 84) hX dX11_command_84 (by decide) (fun c33 => ?_) (fun c33 => ?_)
                ·
                  refine v_aload_n (pc := 111) hX dX11_command_111 rfl ?_
                  refine v_get (v := .int (gI (X11_cB_m g ((X11_cD_m g (X11_word_m g m r) r 2)) r 1 1) 404 r)) (pc := 112) hX dX11_command_112 (by simp only [mm, kK_X11_cB, kK_X11_cD, kK_X11_word]; exact hs.k) (ci := 12) (r := vwC12) rfl 20 (by decide) wd_1526 rfl ?_
                  refine v_if_ne (tgt := 125) (pc := 115) hX dX11_command_115 (by decide) (fun c34 => ?_) (fun c34 => ?_)
                  ·
                    exact v_vret (pc := 125) hX hZ dX11_command_125 (by decide) (by decide) ⟨rfl, (by rw [X11_command_m, if_pos c1, if_neg c2, if_neg c3, if_neg c9, if_pos c10, if_pos c28, if_neg c34])⟩
                  ·
                    refine v_aload_n (pc := 118) hX dX11_command_118 rfl ?_
                    refine v_get (v := .int (gI (X11_cB_m g ((X11_cD_m g (X11_word_m g m r) r 2)) r 1 1) 405 r)) (pc := 119) hX dX11_command_119 (by simp only [mm, kK_X11_cB, kK_X11_cD, kK_X11_word]; exact hs.k) (ci := 12) (r := vwC12) rfl 21 (by decide) wd_1527 rfl ?_
                    refine v_if_ne (tgt := 126) (pc := 122) hX dX11_command_122 (by decide) (fun c35 => ?_) (fun c35 => ?_)
                    ·
                      refine v_aload_n (pc := 126) hX dX11_command_126 rfl ?_
                      refine v_iload_n (pc := 127) hX dX11_command_127 rfl ?_
                      refine v_callV (z := yX11_does) (pc := 128) hX dX11_command_128 (c_X11_does hO ((X11_cB_m g ((X11_cD_m g (X11_word_m g m r) r 2)) r 1 1)) r (X11_word_r g m r ) N H (hs.to (by simp only [mm, kK_X11_cB, kK_X11_cD, kK_X11_word]) (by simp only [mm, kR_X11_cB, kR_X11_cD, kR_X11_word])) (((kA_X11_cB g (X11_cD_m g (X11_word_m g m r) r 2) r 1 1 (r + 1) (5) (by omega)).trans ((kA_X11_cD g (X11_word_m g m r) r 2 (r + 1) (5) (by omega)).trans ((kA_X11_word g m r (r + 1) (5) (by omega)).trans rfl))).trans hN) hN8 (((kA_X11_cB g (X11_cD_m g (X11_word_m g m r) r 2) r 1 1 (r + 1) (6) (by omega)).trans ((kA_X11_cD g (X11_word_m g m r) r 2 (r + 1) (6) (by omega)).trans ((kA_X11_word g m r (r + 1) (6) (by omega)).trans rfl))).trans hH) hH4) (by simp only [mm, kK_X11_cB, kK_X11_cD, kK_X11_word]; exact hs.k) rfl wd_1917 wd_1919 wp_53 wd_16 wd_1920 ⟨by decide, by decide, (by decide +kernel : (parseMethodDescriptor yX11_does.desc).map (fun d => d.parameters.length) = some 1)⟩ rfl (Nat.le_of_ble_eq_true rfl) ⟨⟨by decide, by decide⟩, by decide, by decide⟩ (fun E m9 h9 => h9.elim) (fun r9 m9 h9 => ?_)
                      obtain ⟨rfl, h8⟩ := h9
                      replace h8 := h8.symm
                      subst h8
                      show mV g x _ _ _ _ _ [.int (X11_does_r g ((X11_cB_m g ((X11_cD_m g (X11_word_m g m r) r 2)) r 1 1)) r (X11_word_r g m r ) N H)]
                      refine v_istore_n (pc := 131) hX dX11_command_131 (by decide) rfl ?_
                      exact v_vret (pc := 132) hX hZ dX11_command_132 (by decide) (by decide) ⟨rfl, (by rw [X11_command_m, if_pos c1, if_neg c2, if_neg c3, if_neg c9, if_pos c10, if_pos c28, if_pos c34, if_neg c35])⟩
                    ·
                      exact v_vret (pc := 125) hX hZ dX11_command_125 (by decide) (by decide) ⟨rfl, (by rw [X11_command_m, if_pos c1, if_neg c2, if_neg c3, if_neg c9, if_pos c10, if_pos c28, if_pos c34, if_pos c35])⟩
                · exact absurd c33 ((by rw [c10]; decide))
        ·
          refine v_iconst (v := 1) (pc := 41) hX dX11_command_41 (by decide) ?_
          refine v_goto (tgt := 46) (pc := 42) hX dX11_command_42 (by decide) ?_
          refine v_callV (z := yX11_digits) (pc := 46) hX dX11_command_46 (c_X11_digits hO ((X11_word_m g m r )) r 1  (hs.to (by simp only [mm, kK_X11_word]) (by simp only [mm, kR_X11_word])) (PG.wd (g := g) hHe hEn).1 ((PG.wd (g := g) hHe hEn).en hEn) (by assumption) (by decide)) (by simp only [mm, kK_X11_word]; exact hs.k) rfl wd_1905 wd_1907 wp_50 wd_16 wd_1908 ⟨by decide, by decide, (by decide +kernel : (parseMethodDescriptor yX11_digits.desc).map (fun d => d.parameters.length) = some 1)⟩ rfl (Nat.le_of_ble_eq_true rfl) ⟨⟨by decide, by decide⟩, by decide, by decide⟩ (fun E m9 h9 => h9.elim) (fun r9 m9 h9 => ?_)
          obtain ⟨rfl, h8⟩ := h9
          replace h8 := h8.symm
          subst h8
          show mV g x _ _ _ _ _ [.int (X11_digits_r g ((X11_word_m g m r )) r 1 ), .int 0, .ref (r + 9)]
          refine v_iast (j := 0) (pc := 49) hX dX11_command_49 (by simp only [mm, kK_X11_digits, kK_X11_word]; exact hs.k9) rfl (by decide) (by decide) ?_
          show mV g x ((X11_cD_m g ((X11_word_m g m r)) r 1)) _ _ _ _ _
          refine v_iload_n (pc := 50) hX dX11_command_50 rfl ?_
          refine v_bipush (v := 6) (pc := 51) hX dX11_command_51 (by decide) ?_
          refine v_icmp_ne (tgt := 74) (pc := 53) hX dX11_command_53 (by decide) (fun c36 => ?_) (fun c36 => ?_)
          ·
            refine v_iconst (v := 1) (pc := 74) hX dX11_command_74 (by decide) ?_
            refine v_istore_n (pc := 75) hX dX11_command_75 (by decide) rfl ?_
            refine v_iload_n (pc := 76) hX dX11_command_76 rfl ?_
            refine v_iconst (v := 4) (pc := 77) hX dX11_command_77 (by decide) ?_
            refine v_icmp_ge (tgt := 111) (pc := 78) hX dX11_command_78 (by decide) (fun c37 => ?_) (fun c37 => ?_)
            · exact absurd c37 (by decide)
            ·
              refine v_iload_n (pc := 81) hX dX11_command_81 rfl ?_
              refine v_bipush (v := 9) (pc := 82) hX dX11_command_82 (by decide) ?_
              refine v_icmp_ne (tgt := 111) (pc := 84) hX dX11_command_84 (by decide) (fun c38 => ?_) (fun c38 => ?_)
              ·
                refine v_aload_n (pc := 111) hX dX11_command_111 rfl ?_
                refine v_get (v := .int (gI (X11_cD_m g ((X11_word_m g m r)) r 1) 404 r)) (pc := 112) hX dX11_command_112 (by simp only [mm, kK_X11_cD, kK_X11_word]; exact hs.k) (ci := 12) (r := vwC12) rfl 20 (by decide) wd_1526 rfl ?_
                refine v_if_ne (tgt := 125) (pc := 115) hX dX11_command_115 (by decide) (fun c39 => ?_) (fun c39 => ?_)
                ·
                  exact v_vret (pc := 125) hX hZ dX11_command_125 (by decide) (by decide) ⟨rfl, (by rw [X11_command_m, if_pos c1, if_neg c2, if_neg c3, if_pos c9, if_neg c39])⟩
                ·
                  refine v_aload_n (pc := 118) hX dX11_command_118 rfl ?_
                  refine v_get (v := .int (gI (X11_cD_m g ((X11_word_m g m r)) r 1) 405 r)) (pc := 119) hX dX11_command_119 (by simp only [mm, kK_X11_cD, kK_X11_word]; exact hs.k) (ci := 12) (r := vwC12) rfl 21 (by decide) wd_1527 rfl ?_
                  refine v_if_ne (tgt := 126) (pc := 122) hX dX11_command_122 (by decide) (fun c40 => ?_) (fun c40 => ?_)
                  ·
                    refine v_aload_n (pc := 126) hX dX11_command_126 rfl ?_
                    refine v_iload_n (pc := 127) hX dX11_command_127 rfl ?_
                    refine v_callV (z := yX11_does) (pc := 128) hX dX11_command_128 (c_X11_does hO ((X11_cD_m g ((X11_word_m g m r)) r 1)) r (X11_word_r g m r ) N H (hs.to (by simp only [mm, kK_X11_cD, kK_X11_word]) (by simp only [mm, kR_X11_cD, kR_X11_word])) (((kA_X11_cD g (X11_word_m g m r) r 1 (r + 1) (5) (by omega)).trans ((kA_X11_word g m r (r + 1) (5) (by omega)).trans rfl)).trans hN) hN8 (((kA_X11_cD g (X11_word_m g m r) r 1 (r + 1) (6) (by omega)).trans ((kA_X11_word g m r (r + 1) (6) (by omega)).trans rfl)).trans hH) hH4) (by simp only [mm, kK_X11_cD, kK_X11_word]; exact hs.k) rfl wd_1917 wd_1919 wp_53 wd_16 wd_1920 ⟨by decide, by decide, (by decide +kernel : (parseMethodDescriptor yX11_does.desc).map (fun d => d.parameters.length) = some 1)⟩ rfl (Nat.le_of_ble_eq_true rfl) ⟨⟨by decide, by decide⟩, by decide, by decide⟩ (fun E m9 h9 => h9.elim) (fun r9 m9 h9 => ?_)
                    obtain ⟨rfl, h8⟩ := h9
                    replace h8 := h8.symm
                    subst h8
                    show mV g x _ _ _ _ _ [.int (X11_does_r g ((X11_cD_m g ((X11_word_m g m r)) r 1)) r (X11_word_r g m r ) N H)]
                    refine v_istore_n (pc := 131) hX dX11_command_131 (by decide) rfl ?_
                    exact v_vret (pc := 132) hX hZ dX11_command_132 (by decide) (by decide) ⟨rfl, (by rw [X11_command_m, if_pos c1, if_neg c2, if_neg c3, if_pos c9, if_pos c39, if_neg c40])⟩
                  ·
                    exact v_vret (pc := 125) hX hZ dX11_command_125 (by decide) (by decide) ⟨rfl, (by rw [X11_command_m, if_pos c1, if_neg c2, if_neg c3, if_pos c9, if_pos c39, if_pos c40])⟩
              · exact absurd c38 ((by rw [c9]; decide))
          · exact absurd c36 ((by rw [c9]; decide))
    ·
      refine v_aload_n (pc := 23) hX dX11_command_23 rfl ?_
      refine v_callV (z := yX11_letter) (pc := 24) hX dX11_command_24 (c_X11_letter hO ((X11_word_m g m r )) r  (hs.to (by simp only [mm, kK_X11_word]) (by simp only [mm, kR_X11_word])) (PG.wd (g := g) hHe hEn).1 ((PG.wd (g := g) hHe hEn).en hEn) (by assumption)) (by simp only [mm, kK_X11_word]; exact hs.k) rfl wd_1901 wd_1903 wp_49 wd_16 wd_1904 ⟨by decide, by decide, (by decide +kernel : (parseMethodDescriptor yX11_letter.desc).map (fun d => d.parameters.length) = some 0)⟩ rfl (Nat.le_of_ble_eq_true rfl) ⟨⟨by decide, by decide⟩, by decide, by decide⟩ (fun E m9 h9 => h9.elim) (fun r9 m9 h9 => ?_)
      obtain ⟨rfl, h8⟩ := h9
      replace h8 := h8.symm
      subst h8
      show mV g x _ _ _ _ _ [.int (X11_letter_r g ((X11_word_m g m r )) r ), .int 0, .ref (r + 9)]
      refine v_goto (tgt := 49) (pc := 27) hX dX11_command_27 (by decide) ?_
      refine v_iast (j := 0) (pc := 49) hX dX11_command_49 (by simp only [mm, kK_X11_letter, kK_X11_word]; exact hs.k9) rfl (by decide) (by decide) ?_
      show mV g x ((X11_cL_m g ((X11_word_m g m r)) r)) _ _ _ _ _
      refine v_iload_n (pc := 50) hX dX11_command_50 rfl ?_
      refine v_bipush (v := 6) (pc := 51) hX dX11_command_51 (by decide) ?_
      refine v_icmp_ne (tgt := 74) (pc := 53) hX dX11_command_53 (by decide) (fun c41 => ?_) (fun c41 => ?_)
      ·
        refine v_iconst (v := 1) (pc := 74) hX dX11_command_74 (by decide) ?_
        refine v_istore_n (pc := 75) hX dX11_command_75 (by decide) rfl ?_
        refine v_iload_n (pc := 76) hX dX11_command_76 rfl ?_
        refine v_iconst (v := 4) (pc := 77) hX dX11_command_77 (by decide) ?_
        refine v_icmp_ge (tgt := 111) (pc := 78) hX dX11_command_78 (by decide) (fun c42 => ?_) (fun c42 => ?_)
        · exact absurd c42 (by decide)
        ·
          refine v_iload_n (pc := 81) hX dX11_command_81 rfl ?_
          refine v_bipush (v := 9) (pc := 82) hX dX11_command_82 (by decide) ?_
          refine v_icmp_ne (tgt := 111) (pc := 84) hX dX11_command_84 (by decide) (fun c43 => ?_) (fun c43 => ?_)
          ·
            refine v_aload_n (pc := 111) hX dX11_command_111 rfl ?_
            refine v_get (v := .int (gI (X11_cL_m g ((X11_word_m g m r)) r) 404 r)) (pc := 112) hX dX11_command_112 (by simp only [mm, kK_X11_cL, kK_X11_word]; exact hs.k) (ci := 12) (r := vwC12) rfl 20 (by decide) wd_1526 rfl ?_
            refine v_if_ne (tgt := 125) (pc := 115) hX dX11_command_115 (by decide) (fun c44 => ?_) (fun c44 => ?_)
            ·
              exact v_vret (pc := 125) hX hZ dX11_command_125 (by decide) (by decide) ⟨rfl, (by rw [X11_command_m, if_pos c1, if_pos c2, if_neg c44])⟩
            ·
              refine v_aload_n (pc := 118) hX dX11_command_118 rfl ?_
              refine v_get (v := .int (gI (X11_cL_m g ((X11_word_m g m r)) r) 405 r)) (pc := 119) hX dX11_command_119 (by simp only [mm, kK_X11_cL, kK_X11_word]; exact hs.k) (ci := 12) (r := vwC12) rfl 21 (by decide) wd_1527 rfl ?_
              refine v_if_ne (tgt := 126) (pc := 122) hX dX11_command_122 (by decide) (fun c45 => ?_) (fun c45 => ?_)
              ·
                refine v_aload_n (pc := 126) hX dX11_command_126 rfl ?_
                refine v_iload_n (pc := 127) hX dX11_command_127 rfl ?_
                refine v_callV (z := yX11_does) (pc := 128) hX dX11_command_128 (c_X11_does hO ((X11_cL_m g ((X11_word_m g m r)) r)) r (X11_word_r g m r ) N H (hs.to (by simp only [mm, kK_X11_cL, kK_X11_word]) (by simp only [mm, kR_X11_cL, kR_X11_word])) (((kA_X11_cL g (X11_word_m g m r) r (r + 1) (5) (by omega)).trans ((kA_X11_word g m r (r + 1) (5) (by omega)).trans rfl)).trans hN) hN8 (((kA_X11_cL g (X11_word_m g m r) r (r + 1) (6) (by omega)).trans ((kA_X11_word g m r (r + 1) (6) (by omega)).trans rfl)).trans hH) hH4) (by simp only [mm, kK_X11_cL, kK_X11_word]; exact hs.k) rfl wd_1917 wd_1919 wp_53 wd_16 wd_1920 ⟨by decide, by decide, (by decide +kernel : (parseMethodDescriptor yX11_does.desc).map (fun d => d.parameters.length) = some 1)⟩ rfl (Nat.le_of_ble_eq_true rfl) ⟨⟨by decide, by decide⟩, by decide, by decide⟩ (fun E m9 h9 => h9.elim) (fun r9 m9 h9 => ?_)
                obtain ⟨rfl, h8⟩ := h9
                replace h8 := h8.symm
                subst h8
                show mV g x _ _ _ _ _ [.int (X11_does_r g ((X11_cL_m g ((X11_word_m g m r)) r)) r (X11_word_r g m r ) N H)]
                refine v_istore_n (pc := 131) hX dX11_command_131 (by decide) rfl ?_
                exact v_vret (pc := 132) hX hZ dX11_command_132 (by decide) (by decide) ⟨rfl, (by rw [X11_command_m, if_pos c1, if_pos c2, if_pos c44, if_neg c45])⟩
              ·
                exact v_vret (pc := 125) hX hZ dX11_command_125 (by decide) (by decide) ⟨rfl, (by rw [X11_command_m, if_pos c1, if_pos c2, if_pos c44, if_pos c45])⟩
          · exact absurd c43 ((by rw [c2]; decide))
      · exact absurd c41 ((by rw [c2]; decide))
  ·
    exact v_vret (pc := 12) hX hZ dX11_command_12 (by decide) (by decide) ⟨rfl, (by rw [X11_command_m, if_neg c1])⟩
