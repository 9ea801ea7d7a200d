theorem rem_l {g : mG} {f : Nat} {a : Int32} {N : Nat} : ∀ (n j kp : Nat) (m : mM), SF m f → j + n = N → N ≤ 8 → kp ≤ j → SF (X3_remove_l1 g f a N n j kp m) f ∧ ∃ q, q ≤ N ∧ gI (X3_remove_l1 g f a N n j kp m) 163 f = nI q := by
  intro n
  induction n with
  | zero =>
    intro j kp m hs hj hN hk
    rw [X3_remove_l1]
    exact ⟨hs.to rfl rfl rfl rfl rfl, kp, by omega, by simp [mm]⟩
  | succ n ih =>
    intro j kp m hs hj hN hk
    rw [X3_remove_l1]
    split
    · exact ih (j + 1) kp m hs (by omega) hN (by omega)
    · exact ih (j + 1) (kp + 1) _ (SF_swap hs (by omega) (by omega)) (by omega) hN (by omega)
theorem SF_remove {g : mG} {m : mM} {f : Nat} {a : Int32} {N : Nat} (hs : SF m f) (hN8 : N ≤ 8) : SF (X3_remove_m g m f a N) f := (rem_l N 0 0 m hs (by omega) hN8 (Nat.le_refl _)).1
theorem rem_N {g : mG} {m : mM} {f : Nat} {a : Int32} {N : Nat} (hs : SF m f) (hN8 : N ≤ 8) : gI (X3_remove_m g m f a N) 163 f = nI (gI (X3_remove_m g m f a N) 163 f).toNatClampNeg ∧ (gI (X3_remove_m g m f a N) 163 f).toNatClampNeg ≤ 8 := by
  obtain ⟨q, h1, h2⟩ := (rem_l (g := g) (a := a) N 0 0 m hs (by omega) hN8 (Nat.le_refl _)).2
  have h3 : gI (X3_remove_m g m f a N) 163 f = nI q := h2
  rw [h3, nI_clamp (by omega)]
  exact ⟨rfl, by omega⟩
def X3_throwAway_r (g : mG) (m : mM) (f : Nat) (a : Int32) (N : Nat) : Int32 := (match X3_find_r g m f a N with | none => (-1) | some p1 => gI (X3_remove_m g m f a N) 163 f)
def X3_throwAway_m (g : mG) (m : mM) (f : Nat) (a : Int32) (N : Nat) : mM := (match X3_find_r g m f a N with | none => m | some p1 => (X3_remove_m g m f a N))
theorem kK_X3_throwAway (g : mG) (m : mM) (f : Nat) (a : Int32) (N : Nat) : gK (X3_throwAway_m g m f a N) = gK m := by
  unfold X3_throwAway_m
  repeat' split
  all_goals simp only [mm, kK_X3_remove]
theorem kN_X3_throwAway (g : mG) (m : mM) (f : Nat) (a : Int32) (N : Nat) : gN (X3_throwAway_m g m f a N) = gN m := by
  unfold X3_throwAway_m
  repeat' split
  all_goals simp only [mm, kN_X3_remove]
theorem kI_X3_throwAway (g : mG) (m : mM) (f : Nat) (a : Int32) (N : Nat) (k a9 : Nat) (h0 : k ≠ 163) : gI (X3_throwAway_m g m f a N) k a9 = gI m k a9 := by
  unfold X3_throwAway_m
  repeat' split
  all_goals simp [mm, kI_X3_remove, h0]
theorem kJ_X3_throwAway (g : mG) (m : mM) (f : Nat) (a : Int32) (N : Nat) : gJ (X3_throwAway_m g m f a N) = gJ m := by
  unfold X3_throwAway_m
  repeat' split
  all_goals simp only [mm, kJ_X3_remove]
theorem kR_X3_throwAway (g : mG) (m : mM) (f : Nat) (a : Int32) (N : Nat) : gR (X3_throwAway_m g m f a N) = gR m := by
  unfold X3_throwAway_m
  repeat' split
  all_goals simp only [mm, kR_X3_remove]
theorem kA_X3_throwAway (g : mG) (m : mM) (f : Nat) (a : Int32) (N : Nat) : gA (X3_throwAway_m g m f a N) = gA m := by
  unfold X3_throwAway_m
  repeat' split
  all_goals simp only [mm, kA_X3_remove]
theorem kL_X3_throwAway (g : mG) (m : mM) (f : Nat) (a : Int32) (N : Nat) : gL (X3_throwAway_m g m f a N) = gL m := by
  unfold X3_throwAway_m
  repeat' split
  all_goals simp only [mm, kL_X3_remove]
theorem kD_X3_throwAway (g : mG) (m : mM) (f : Nat) (a : Int32) (N : Nat) : gD (X3_throwAway_m g m f a N) = gD m := by
  unfold X3_throwAway_m
  repeat' split
  all_goals simp only [mm, kD_X3_remove]
theorem fr_X3_throwAway (g : mG) (m : mM) (f : Nat) (a : Int32) (N : Nat) (hs : SF m f) (hN8 : N ≤ 8) : Fr f (f + 16) m (X3_throwAway_m g m f a N) := by
  unfold X3_throwAway_m
  split
  ·
    exact Fr.rf
  ·
    rename_i p1 hq1
    have hb_p1 := find_b hs hN8 hq1
    exact ((Fr.rf).tr (fr_X3_remove g m f a N hs hN8) (Nat.le_refl _) (Nat.le_refl _))
set_option maxHeartbeats 4000000 in
set_option maxRecDepth 100000 in
theorem c_X3_throwAway {l : Launch} {g : mG} (hO : mO l g) (m : mM) (f : Nat) (a : Int32) (N : Nat) (hs : SF m f) (hN : gI m 163 f = nI N) (hN8 : N ≤ 8) : mT l g yX3_throwAway (.code yX3_throwAway cX3_throwAway 2 (Option.some FieldType.int)) 2 44 0 0 [.ref f, .int a] m (fun r m' => r = some (.int (X3_throwAway_r g m f a N)) ∧ m' = X3_throwAway_m g m f a N) nX := by
  refine mT_of hO (by decide) (Nat.le_of_ble_eq_true rfl) (fun x hX hZ => ?_)
  show mV g x m 0 0 0 [(0, .ref f), (1, .int a)] []
  refine v_aload_n (pc := 0) hX dX3_throwAway_0 rfl ?_
  refine v_iload_n (pc := 1) hX dX3_throwAway_1 rfl ?_
  refine v_callV (z := yX3_find) (pc := 2) hX dX3_throwAway_2 (c_X3_find hO m f a N hs hN hN8) hs.k rfl wd_1002 wd_370 wd_371 wd_2 wd_372 ⟨by decide, by decide, (by decide +kernel : (parseMethodDescriptor yX3_find.desc).map (fun d => d.parameters.length) = some 1)⟩ rfl (Nat.le_of_ble_eq_true rfl) ⟨⟨by decide, by decide⟩, by decide, by decide⟩ (fun E m9 h9 => h9.elim) (fun r9 m9 h9 => ?_)
  obtain ⟨rfl, h8⟩ := h9
  replace h8 := h8.symm
  subst h8
  show mV g x _ _ _ _ _ [va_rf (X3_find_r g m f a N)]
  rcases hq1 : X3_find_r g m f a N with _ | p1
  ·
    show mV g x _ _ _ _ _ [.null]
    refine v_ifnonnull_n (pc := 5) hX dX3_throwAway_5 ?_
    refine v_iconst (v := (-1)) (pc := 8) hX dX3_throwAway_8 (by decide) ?_
    exact v_iret (pc := 9) hX hZ dX3_throwAway_9 (by decide) (by decide) ⟨(by simp only [X3_throwAway_r, hq1]), (by simp only [X3_throwAway_m, hq1])⟩
  ·
    show mV g x _ _ _ _ _ [.ref p1]
    refine v_ifnonnull_s (tgt := 10) (pc := 5) hX dX3_throwAway_5 (by decide) ?_
    refine v_aload_n (pc := 10) hX dX3_throwAway_10 rfl ?_
    refine v_iload_n (pc := 11) hX dX3_throwAway_11 rfl ?_
    refine v_callV (z := yX3_remove) (pc := 12) hX dX3_throwAway_12 (c_X3_remove hO m f a N hs hN hN8) hs.k rfl wd_1093 wd_1095 wp_3 wd_2 wd_1096 ⟨by decide, by decide, (by decide +kernel : (parseMethodDescriptor yX3_remove.desc).map (fun d => d.parameters.length) = some 1)⟩ rfl (Nat.le_of_ble_eq_true rfl) ⟨⟨by decide, by decide⟩, by decide, by decide⟩ (fun E m9 h9 => h9.elim) (fun r9 m9 h9 => ?_)
    obtain ⟨rfl, h8⟩ := h9
    replace h8 := h8.symm
    subst h8
    show mV g x _ _ _ _ _ []
    refine v_aload_n (pc := 15) hX dX3_throwAway_15 rfl ?_
    refine v_get (v := .int (gI (X3_remove_m g m f a N) 163 f)) (pc := 16) hX dX3_throwAway_16 (by simp only [mm, kK_X3_remove]; exact hs.k) (ci := 5) (r := vwC5) rfl 3 (by decide) wd_155 rfl ?_
    exact v_iret (pc := 19) hX hZ dX3_throwAway_19 (by decide) (by decide) ⟨(by simp only [X3_throwAway_r, hq1]), (by simp only [X3_throwAway_m, hq1])⟩
def X3_join_r (g : mG) (m : mM) (f : Nat) (a : Int32) (b : Int32) (c : Int32) (d : Int32) (N : Nat) : Int32 := (match X3_find_r g m f a N with | none => (match X3_find_r g m f b N with | none => (match X3_find_r g m f c N with | none => (match X3_find_r g m f d N with | none => (-1) | some p4 => (-1)) | some p3 => (match X3_find_r g m f d N with | none => (-1) | some p5 => (-1))) | some p2 => (match X3_find_r g m f c N with | none => (match X3_find_r g m f d N with | none => (-1) | some p7 => (-1)) | some p6 => (match X3_find_r g m f d N with | none => (-1) | some p8 => (-1)))) | some p1 => (match X3_find_r g m f b N with | none => (match X3_find_r g m f c N with | none => (match X3_find_r g m f d N with | none => (-1) | some p11 => (-1)) | some p10 => (match X3_find_r g m f d N with | none => (-1) | some p12 => (-1))) | some p9 => (match X3_find_r g m f c N with | none => (match X3_find_r g m f d N with | none => (-1) | some p14 => (-1)) | some p13 => (match X3_find_r g m f d N with | none => (-1) | some p15 => if (gI m 289 p1) = 98 then (if (gI m 289 p9) = 110 then (if (gI m 289 p13) = 119 then (if (gI m 289 p15) = 119 then (if (some p13) = (some p15) then ((-3)) else (if (X7_isReadyForBird_r g m p1) = 0 then ((-4)) else (if (X7_isReadyForBird_r g m p9) = 0 then ((-4)) else (if (X7_isReadyForBird_r g m p13) = 0 then ((-4)) else (if (X7_isReadyForBird_r g m p15) = 0 then ((-4)) else ((gI (X3_remove_m g ((X3_remove_m g ((X3_remove_m g ((X3_remove_m g m f a N)) f b ((gI (X3_remove_m g m f a N) 163 f).toNatClampNeg))) f c ((gI (X3_remove_m g ((X3_remove_m g m f a N)) f b ((gI (X3_remove_m g m f a N) 163 f).toNatClampNeg)) 163 f).toNatClampNeg))) f d ((gI (X3_remove_m g ((X3_remove_m g ((X3_remove_m g m f a N)) f b ((gI (X3_remove_m g m f a N) 163 f).toNatClampNeg))) f c ((gI (X3_remove_m g ((X3_remove_m g m f a N)) f b ((gI (X3_remove_m g m f a N) 163 f).toNatClampNeg)) 163 f).toNatClampNeg)) 163 f).toNatClampNeg)) 168 f) + 1)))))) else ((-3))) else ((-3))) else ((-3))) else ((-3))))))
def X3_join_m (g : mG) (m : mM) (f : Nat) (a : Int32) (b : Int32) (c : Int32) (d : Int32) (N : Nat) : mM := (match X3_find_r g m f a N with | none => (match X3_find_r g m f b N with | none => (match X3_find_r g m f c N with | none => (match X3_find_r g m f d N with | none => m | some p4 => m) | some p3 => (match X3_find_r g m f d N with | none => m | some p5 => m)) | some p2 => (match X3_find_r g m f c N with | none => (match X3_find_r g m f d N with | none => m | some p7 => m) | some p6 => (match X3_find_r g m f d N with | none => m | some p8 => m))) | some p1 => (match X3_find_r g m f b N with | none => (match X3_find_r g m f c N with | none => (match X3_find_r g m f d N with | none => m | some p11 => m) | some p10 => (match X3_find_r g m f d N with | none => m | some p12 => m)) | some p9 => (match X3_find_r g m f c N with | none => (match X3_find_r g m f d N with | none => m | some p14 => m) | some p13 => (match X3_find_r g m f d N with | none => m | some p15 => if (gI m 289 p1) = 98 then (if (gI m 289 p9) = 110 then (if (gI m 289 p13) = 119 then (if (gI m 289 p15) = 119 then (if (some p13) = (some p15) then m else (if (X7_isReadyForBird_r g m p1) = 0 then m else (if (X7_isReadyForBird_r g m p9) = 0 then m else (if (X7_isReadyForBird_r g m p13) = 0 then m else (if (X7_isReadyForBird_r g m p15) = 0 then m else ((sI (X3_remove_m g ((X3_remove_m g ((X3_remove_m g ((X3_remove_m g m f a N)) f b ((gI (X3_remove_m g m f a N) 163 f).toNatClampNeg))) f c ((gI (X3_remove_m g ((X3_remove_m g m f a N)) f b ((gI (X3_remove_m g m f a N) 163 f).toNatClampNeg)) 163 f).toNatClampNeg))) f d ((gI (X3_remove_m g ((X3_remove_m g ((X3_remove_m g m f a N)) f b ((gI (X3_remove_m g m f a N) 163 f).toNatClampNeg))) f c ((gI (X3_remove_m g ((X3_remove_m g m f a N)) f b ((gI (X3_remove_m g m f a N) 163 f).toNatClampNeg)) 163 f).toNatClampNeg)) 163 f).toNatClampNeg)) 168 f ((gI (X3_remove_m g ((X3_remove_m g ((X3_remove_m g ((X3_remove_m g m f a N)) f b ((gI (X3_remove_m g m f a N) 163 f).toNatClampNeg))) f c ((gI (X3_remove_m g ((X3_remove_m g m f a N)) f b ((gI (X3_remove_m g m f a N) 163 f).toNatClampNeg)) 163 f).toNatClampNeg))) f d ((gI (X3_remove_m g ((X3_remove_m g ((X3_remove_m g m f a N)) f b ((gI (X3_remove_m g m f a N) 163 f).toNatClampNeg))) f c ((gI (X3_remove_m g ((X3_remove_m g m f a N)) f b ((gI (X3_remove_m g m f a N) 163 f).toNatClampNeg)) 163 f).toNatClampNeg)) 163 f).toNatClampNeg)) 168 f) + 1)))))))) else m) else m) else m) else m))))
theorem kK_X3_join (g : mG) (m : mM) (f : Nat) (a : Int32) (b : Int32) (c : Int32) (d : Int32) (N : Nat) : gK (X3_join_m g m f a b c d N) = gK m := by
  unfold X3_join_m
  repeat' split
  all_goals simp only [mm, kK_X3_remove]
theorem kN_X3_join (g : mG) (m : mM) (f : Nat) (a : Int32) (b : Int32) (c : Int32) (d : Int32) (N : Nat) : gN (X3_join_m g m f a b c d N) = gN m := by
  unfold X3_join_m
  repeat' split
  all_goals simp only [mm, kN_X3_remove]
theorem kI_X3_join (g : mG) (m : mM) (f : Nat) (a : Int32) (b : Int32) (c : Int32) (d : Int32) (N : Nat) (k a9 : Nat) (h0 : k ≠ 163) (h1 : k ≠ 168) : gI (X3_join_m g m f a b c d N) k a9 = gI m k a9 := by
  unfold X3_join_m
  repeat' split
  all_goals simp [mm, kI_X3_remove, h0, h1]
theorem kJ_X3_join (g : mG) (m : mM) (f : Nat) (a : Int32) (b : Int32) (c : Int32) (d : Int32) (N : Nat) : gJ (X3_join_m g m f a b c d N) = gJ m := by
  unfold X3_join_m
  repeat' split
  all_goals simp only [mm, kJ_X3_remove]
theorem kR_X3_join (g : mG) (m : mM) (f : Nat) (a : Int32) (b : Int32) (c : Int32) (d : Int32) (N : Nat) : gR (X3_join_m g m f a b c d N) = gR m := by
  unfold X3_join_m
  repeat' split
  all_goals simp only [mm, kR_X3_remove]
theorem kA_X3_join (g : mG) (m : mM) (f : Nat) (a : Int32) (b : Int32) (c : Int32) (d : Int32) (N : Nat) : gA (X3_join_m g m f a b c d N) = gA m := by
  unfold X3_join_m
  repeat' split
  all_goals simp only [mm, kA_X3_remove]
theorem kL_X3_join (g : mG) (m : mM) (f : Nat) (a : Int32) (b : Int32) (c : Int32) (d : Int32) (N : Nat) : gL (X3_join_m g m f a b c d N) = gL m := by
  unfold X3_join_m
  repeat' split
  all_goals simp only [mm, kL_X3_remove]
theorem kD_X3_join (g : mG) (m : mM) (f : Nat) (a : Int32) (b : Int32) (c : Int32) (d : Int32) (N : Nat) : gD (X3_join_m g m f a b c d N) = gD m := by
  unfold X3_join_m
  repeat' split
  all_goals simp only [mm, kD_X3_remove]
set_option maxHeartbeats 4000000 in
set_option maxRecDepth 100000 in
theorem c_X3_join {l : Launch} {g : mG} (hO : mO l g) (m : mM) (f : Nat) (a : Int32) (b : Int32) (c : Int32) (d : Int32) (N : Nat) (hs : SF m f) (hN : gI m 163 f = nI N) (hN8 : N ≤ 8) : mT l g yX3_join (.code yX3_join cX3_join 9 (Option.some FieldType.int)) 2 44 0 0 [.ref f, .int a, .int b, .int c, .int d] m (fun r m' => r = some (.int (X3_join_r g m f a b c d N)) ∧ m' = X3_join_m g m f a b c d N) nX := by
  refine mT_of hO (by decide) (Nat.le_of_ble_eq_true rfl) (fun x hX hZ => ?_)
  show mV g x m 0 0 0 [(0, .ref f), (1, .int a), (2, .int b), (3, .int c), (4, .int d)] []
  refine v_aload_n (pc := 0) hX dX3_join_0 rfl ?_
  refine v_iload_n (pc := 1) hX dX3_join_1 rfl ?_
  refine v_callV (z := yX3_find) (pc := 2) hX dX3_join_2 (c_X3_find hO m f a N hs hN hN8) hs.k rfl wd_1002 wd_370 wd_371 wd_2 wd_372 ⟨by decide, by decide, (by decide +kernel : (parseMethodDescriptor yX3_find.desc).map (fun d => d.parameters.length) = some 1)⟩ rfl (Nat.le_of_ble_eq_true rfl) ⟨⟨by decide, by decide⟩, by decide, by decide⟩ (fun E m9 h9 => h9.elim) (fun r9 m9 h9 => ?_)
  obtain ⟨rfl, h8⟩ := h9
  replace h8 := h8.symm
  subst h8
  show mV g x _ _ _ _ _ [va_rf (X3_find_r g m f a N)]
  rcases hq1 : X3_find_r g m f a N with _ | p1
  ·
    show mV g x _ _ _ _ _ [.null]
    refine v_astoreN (pc := 5) hX dX3_join_5 (by decide) rfl ?_
    refine v_aload_n (pc := 7) hX dX3_join_7 rfl ?_
    refine v_iload_n (pc := 8) hX dX3_join_8 rfl ?_
    refine v_callV (z := yX3_find) (pc := 9) hX dX3_join_9 (c_X3_find hO m f b N hs hN hN8) hs.k rfl wd_1002 wd_370 wd_371 wd_2 wd_372 ⟨by decide, by decide, (by decide +kernel : (parseMethodDescriptor yX3_find.desc).map (fun d => d.parameters.length) = some 1)⟩ rfl (Nat.le_of_ble_eq_true rfl) ⟨⟨by decide, by decide⟩, by decide, by decide⟩ (fun E m9 h9 => h9.elim) (fun r9 m9 h9 => ?_)
    obtain ⟨rfl, h8⟩ := h9
    replace h8 := h8.symm
    subst h8
    show mV g x _ _ _ _ _ [va_rf (X3_find_r g m f b N)]
    rcases hq2 : X3_find_r g m f b N with _ | p2
    ·
      show mV g x _ _ _ _ _ [.null]
      refine v_astoreN (pc := 12) hX dX3_join_12 (by decide) rfl ?_
      refine v_aload_n (pc := 14) hX dX3_join_14 rfl ?_
      refine v_iload_n (pc := 15) hX dX3_join_15 rfl ?_
      refine v_callV (z := yX3_find) (pc := 16) hX dX3_join_16 (c_X3_find hO m f c N hs hN hN8) hs.k rfl wd_1002 wd_370 wd_371 wd_2 wd_372 ⟨by decide, by decide, (by decide +kernel : (parseMethodDescriptor yX3_find.desc).map (fun d => d.parameters.length) = some 1)⟩ rfl (Nat.le_of_ble_eq_true rfl) ⟨⟨by decide, by decide⟩, by decide, by decide⟩ (fun E m9 h9 => h9.elim) (fun r9 m9 h9 => ?_)
      obtain ⟨rfl, h8⟩ := h9
      replace h8 := h8.symm
      subst h8
      show mV g x _ _ _ _ _ [va_rf (X3_find_r g m f c N)]
      rcases hq3 : X3_find_r g m f c N with _ | p3
      ·
        show mV g x _ _ _ _ _ [.null]
        refine v_astoreN (pc := 19) hX dX3_join_19 (by decide) rfl ?_
        refine v_aload_n (pc := 21) hX dX3_join_21 rfl ?_
        refine v_iload (pc := 22) hX dX3_join_22 rfl ?_
        refine v_callV (z := yX3_find) (pc := 24) hX dX3_join_24 (c_X3_find hO m f d N hs hN hN8) hs.k rfl wd_1002 wd_370 wd_371 wd_2 wd_372 ⟨by decide, by decide, (by decide +kernel : (parseMethodDescriptor yX3_find.desc).map (fun d => d.parameters.length) = some 1)⟩ rfl (Nat.le_of_ble_eq_true rfl) ⟨⟨by decide, by decide⟩, by decide, by decide⟩ (fun E m9 h9 => h9.elim) (fun r9 m9 h9 => ?_)
        obtain ⟨rfl, h8⟩ := h9
        replace h8 := h8.symm
        subst h8
        show mV g x _ _ _ _ _ [va_rf (X3_find_r g m f d N)]
        rcases hq4 : X3_find_r g m f d N with _ | p4
        ·
          show mV g x _ _ _ _ _ [.null]
          refine v_astoreN (pc := 27) hX dX3_join_27 (by decide) rfl ?_
          refine v_aloadN (pc := 29) hX dX3_join_29 rfl ?_
          refine v_ifnull_n (tgt := 49) (pc := 31) hX dX3_join_31 (by decide) ?_
          refine v_iconst (v := (-1)) (pc := 49) hX dX3_join_49 (by decide) ?_
          exact v_iret (pc := 50) hX hZ dX3_join_50 (by decide) (by decide) ⟨(by simp only [X3_join_r, hq1, hq2, hq3, hq4]), (by simp only [X3_join_m, hq1, hq2, hq3, hq4])⟩
        ·
          show mV g x _ _ _ _ _ [.ref p4]
          refine v_astore (pc := 27) hX dX3_join_27 (by decide) rfl ?_
          refine v_aloadN (pc := 29) hX dX3_join_29 rfl ?_
          refine v_ifnull_n (tgt := 49) (pc := 31) hX dX3_join_31 (by decide) ?_
          refine v_iconst (v := (-1)) (pc := 49) hX dX3_join_49 (by decide) ?_
          exact v_iret (pc := 50) hX hZ dX3_join_50 (by decide) (by decide) ⟨(by simp only [X3_join_r, hq1, hq2, hq3, hq4]), (by simp only [X3_join_m, hq1, hq2, hq3, hq4])⟩
      ·
        show mV g x _ _ _ _ _ [.ref p3]
        refine v_astore (pc := 19) hX dX3_join_19 (by decide) rfl ?_
        refine v_aload_n (pc := 21) hX dX3_join_21 rfl ?_
        refine v_iload (pc := 22) hX dX3_join_22 rfl ?_
        refine v_callV (z := yX3_find) (pc := 24) hX dX3_join_24 (c_X3_find hO m f d N hs hN hN8) hs.k rfl wd_1002 wd_370 wd_371 wd_2 wd_372 ⟨by decide, by decide, (by decide +kernel : (parseMethodDescriptor yX3_find.desc).map (fun d => d.parameters.length) = some 1)⟩ rfl (Nat.le_of_ble_eq_true rfl) ⟨⟨by decide, by decide⟩, by decide, by decide⟩ (fun E m9 h9 => h9.elim) (fun r9 m9 h9 => ?_)
        obtain ⟨rfl, h8⟩ := h9
        replace h8 := h8.symm
        subst h8
        show mV g x _ _ _ _ _ [va_rf (X3_find_r g m f d N)]
        rcases hq5 : X3_find_r g m f d N with _ | p5
        ·
          show mV g x _ _ _ _ _ [.null]
          refine v_astoreN (pc := 27) hX dX3_join_27 (by decide) rfl ?_
          refine v_aloadN (pc := 29) hX dX3_join_29 rfl ?_
          refine v_ifnull_n (tgt := 49) (pc := 31) hX dX3_join_31 (by decide) ?_
          refine v_iconst (v := (-1)) (pc := 49) hX dX3_join_49 (by decide) ?_
          exact v_iret (pc := 50) hX hZ dX3_join_50 (by decide) (by decide) ⟨(by simp only [X3_join_r, hq1, hq2, hq3, hq5]), (by simp only [X3_join_m, hq1, hq2, hq3, hq5])⟩
        ·
          show mV g x _ _ _ _ _ [.ref p5]
          refine v_astore (pc := 27) hX dX3_join_27 (by decide) rfl ?_
          refine v_aloadN (pc := 29) hX dX3_join_29 rfl ?_
          refine v_ifnull_n (tgt := 49) (pc := 31) hX dX3_join_31 (by decide) ?_
          refine v_iconst (v := (-1)) (pc := 49) hX dX3_join_49 (by decide) ?_
          exact v_iret (pc := 50) hX hZ dX3_join_50 (by decide) (by decide) ⟨(by simp only [X3_join_r, hq1, hq2, hq3, hq5]), (by simp only [X3_join_m, hq1, hq2, hq3, hq5])⟩
    ·
      show mV g x _ _ _ _ _ [.ref p2]
      refine v_astore (pc := 12) hX dX3_join_12 (by decide) rfl ?_
      refine v_aload_n (pc := 14) hX dX3_join_14 rfl ?_
      refine v_iload_n (pc := 15) hX dX3_join_15 rfl ?_
      refine v_callV (z := yX3_find) (pc := 16) hX dX3_join_16 (c_X3_find hO m f c N hs hN hN8) hs.k rfl wd_1002 wd_370 wd_371 wd_2 wd_372 ⟨by decide, by decide, (by decide +kernel : (parseMethodDescriptor yX3_find.desc).map (fun d => d.parameters.length) = some 1)⟩ rfl (Nat.le_of_ble_eq_true rfl) ⟨⟨by decide, by decide⟩, by decide, by decide⟩ (fun E m9 h9 => h9.elim) (fun r9 m9 h9 => ?_)
      obtain ⟨rfl, h8⟩ := h9
      replace h8 := h8.symm
      subst h8
      show mV g x _ _ _ _ _ [va_rf (X3_find_r g m f c N)]
      rcases hq6 : X3_find_r g m f c N with _ | p6
      ·
        show mV g x _ _ _ _ _ [.null]
        refine v_astoreN (pc := 19) hX dX3_join_19 (by decide) rfl ?_
        refine v_aload_n (pc := 21) hX dX3_join_21 rfl ?_
        refine v_iload (pc := 22) hX dX3_join_22 rfl ?_
        refine v_callV (z := yX3_find) (pc := 24) hX dX3_join_24 (c_X3_find hO m f d N hs hN hN8) hs.k rfl wd_1002 wd_370 wd_371 wd_2 wd_372 ⟨by decide, by decide, (by decide +kernel : (parseMethodDescriptor yX3_find.desc).map (fun d => d.parameters.length) = some 1)⟩ rfl (Nat.le_of_ble_eq_true rfl) ⟨⟨by decide, by decide⟩, by decide, by decide⟩ (fun E m9 h9 => h9.elim) (fun r9 m9 h9 => ?_)
        obtain ⟨rfl, h8⟩ := h9
        replace h8 := h8.symm
        subst h8
        show mV g x _ _ _ _ _ [va_rf (X3_find_r g m f d N)]
        rcases hq7 : X3_find_r g m f d N with _ | p7
        ·
          show mV g x _ _ _ _ _ [.null]
          refine v_astoreN (pc := 27) hX dX3_join_27 (by decide) rfl ?_
          refine v_aloadN (pc := 29) hX dX3_join_29 rfl ?_
          refine v_ifnull_n (tgt := 49) (pc := 31) hX dX3_join_31 (by decide) ?_
          refine v_iconst (v := (-1)) (pc := 49) hX dX3_join_49 (by decide) ?_
          exact v_iret (pc := 50) hX hZ dX3_join_50 (by decide) (by decide) ⟨(by simp only [X3_join_r, hq1, hq2, hq6, hq7]), (by simp only [X3_join_m, hq1, hq2, hq6, hq7])⟩
        ·
          show mV g x _ _ _ _ _ [.ref p7]
          refine v_astore (pc := 27) hX dX3_join_27 (by decide) rfl ?_
          refine v_aloadN (pc := 29) hX dX3_join_29 rfl ?_
          refine v_ifnull_n (tgt := 49) (pc := 31) hX dX3_join_31 (by decide) ?_
          refine v_iconst (v := (-1)) (pc := 49) hX dX3_join_49 (by decide) ?_
          exact v_iret (pc := 50) hX hZ dX3_join_50 (by decide) (by decide) ⟨(by simp only [X3_join_r, hq1, hq2, hq6, hq7]), (by simp only [X3_join_m, hq1, hq2, hq6, hq7])⟩
      ·
        show mV g x _ _ _ _ _ [.ref p6]
        refine v_astore (pc := 19) hX dX3_join_19 (by decide) rfl ?_
        refine v_aload_n (pc := 21) hX dX3_join_21 rfl ?_
        refine v_iload (pc := 22) hX dX3_join_22 rfl ?_
        refine v_callV (z := yX3_find) (pc := 24) hX dX3_join_24 (c_X3_find hO m f d N hs hN hN8) hs.k rfl wd_1002 wd_370 wd_371 wd_2 wd_372 ⟨by decide, by decide, (by decide +kernel : (parseMethodDescriptor yX3_find.desc).map (fun d => d.parameters.length) = some 1)⟩ rfl (Nat.le_of_ble_eq_true rfl) ⟨⟨by decide, by decide⟩, by decide, by decide⟩ (fun E m9 h9 => h9.elim) (fun r9 m9 h9 => ?_)
        obtain ⟨rfl, h8⟩ := h9
        replace h8 := h8.symm
        subst h8
        show mV g x _ _ _ _ _ [va_rf (X3_find_r g m f d N)]
        rcases hq8 : X3_find_r g m f d N with _ | p8
        ·
          show mV g x _ _ _ _ _ [.null]
          refine v_astoreN (pc := 27) hX dX3_join_27 (by decide) rfl ?_
          refine v_aloadN (pc := 29) hX dX3_join_29 rfl ?_
          refine v_ifnull_n (tgt := 49) (pc := 31) hX dX3_join_31 (by decide) ?_
          refine v_iconst (v := (-1)) (pc := 49) hX dX3_join_49 (by decide) ?_
          exact v_iret (pc := 50) hX hZ dX3_join_50 (by decide) (by decide) ⟨(by simp only [X3_join_r, hq1, hq2, hq6, hq8]), (by simp only [X3_join_m, hq1, hq2, hq6, hq8])⟩
        ·
          show mV g x _ _ _ _ _ [.ref p8]
          refine v_astore (pc := 27) hX dX3_join_27 (by decide) rfl ?_
          refine v_aloadN (pc := 29) hX dX3_join_29 rfl ?_
          refine v_ifnull_n (tgt := 49) (pc := 31) hX dX3_join_31 (by decide) ?_
          refine v_iconst (v := (-1)) (pc := 49) hX dX3_join_49 (by decide) ?_
          exact v_iret (pc := 50) hX hZ dX3_join_50 (by decide) (by decide) ⟨(by simp only [X3_join_r, hq1, hq2, hq6, hq8]), (by simp only [X3_join_m, hq1, hq2, hq6, hq8])⟩
  ·
    show mV g x _ _ _ _ _ [.ref p1]
    refine v_astore (pc := 5) hX dX3_join_5 (by decide) rfl ?_
    refine v_aload_n (pc := 7) hX dX3_join_7 rfl ?_
    refine v_iload_n (pc := 8) hX dX3_join_8 rfl ?_
    refine v_callV (z := yX3_find) (pc := 9) hX dX3_join_9 (c_X3_find hO m f b N hs hN hN8) hs.k rfl wd_1002 wd_370 wd_371 wd_2 wd_372 ⟨by decide, by decide, (by decide +kernel : (parseMethodDescriptor yX3_find.desc).map (fun d => d.parameters.length) = some 1)⟩ rfl (Nat.le_of_ble_eq_true rfl) ⟨⟨by decide, by decide⟩, by decide, by decide⟩ (fun E m9 h9 => h9.elim) (fun r9 m9 h9 => ?_)
    obtain ⟨rfl, h8⟩ := h9
    replace h8 := h8.symm
    subst h8
    show mV g x _ _ _ _ _ [va_rf (X3_find_r g m f b N)]
    rcases hq9 : X3_find_r g m f b N with _ | p9
    ·
      show mV g x _ _ _ _ _ [.null]
      refine v_astoreN (pc := 12) hX dX3_join_12 (by decide) rfl ?_
      refine v_aload_n (pc := 14) hX dX3_join_14 rfl ?_
      refine v_iload_n (pc := 15) hX dX3_join_15 rfl ?_
      refine v_callV (z := yX3_find) (pc := 16) hX dX3_join_16 (c_X3_find hO m f c N hs hN hN8) hs.k rfl wd_1002 wd_370 wd_371 wd_2 wd_372 ⟨by decide, by decide, (by decide +kernel : (parseMethodDescriptor yX3_find.desc).map (fun d => d.parameters.length) = some 1)⟩ rfl (Nat.le_of_ble_eq_true rfl) ⟨⟨by decide, by decide⟩, by decide, by decide⟩ (fun E m9 h9 => h9.elim) (fun r9 m9 h9 => ?_)
      obtain ⟨rfl, h8⟩ := h9
      replace h8 := h8.symm
      subst h8
      show mV g x _ _ _ _ _ [va_rf (X3_find_r g m f c N)]
      rcases hq10 : X3_find_r g m f c N with _ | p10
      ·
        show mV g x _ _ _ _ _ [.null]
        refine v_astoreN (pc := 19) hX dX3_join_19 (by decide) rfl ?_
        refine v_aload_n (pc := 21) hX dX3_join_21 rfl ?_
        refine v_iload (pc := 22) hX dX3_join_22 rfl ?_
        refine v_callV (z := yX3_find) (pc := 24) hX dX3_join_24 (c_X3_find hO m f d N hs hN hN8) hs.k rfl wd_1002 wd_370 wd_371 wd_2 wd_372 ⟨by decide, by decide, (by decide +kernel : (parseMethodDescriptor yX3_find.desc).map (fun d => d.parameters.length) = some 1)⟩ rfl (Nat.le_of_ble_eq_true rfl) ⟨⟨by decide, by decide⟩, by decide, by decide⟩ (fun E m9 h9 => h9.elim) (fun r9 m9 h9 => ?_)
        obtain ⟨rfl, h8⟩ := h9
        replace h8 := h8.symm
        subst h8
        show mV g x _ _ _ _ _ [va_rf (X3_find_r g m f d N)]
        rcases hq11 : X3_find_r g m f d N with _ | p11
        ·
          show mV g x _ _ _ _ _ [.null]
          refine v_astoreN (pc := 27) hX dX3_join_27 (by decide) rfl ?_
          refine v_aload (pc := 29) hX dX3_join_29 rfl ?_
          refine v_ifnull_s (pc := 31) hX dX3_join_31 ?_
          refine v_aloadN (pc := 34) hX dX3_join_34 rfl ?_
          refine v_ifnull_n (tgt := 49) (pc := 36) hX dX3_join_36 (by decide) ?_
          refine v_iconst (v := (-1)) (pc := 49) hX dX3_join_49 (by decide) ?_
          exact v_iret (pc := 50) hX hZ dX3_join_50 (by decide) (by decide) ⟨(by simp only [X3_join_r, hq1, hq9, hq10, hq11]), (by simp only [X3_join_m, hq1, hq9, hq10, hq11])⟩
        ·
          show mV g x _ _ _ _ _ [.ref p11]
          refine v_astore (pc := 27) hX dX3_join_27 (by decide) rfl ?_
          refine v_aload (pc := 29) hX dX3_join_29 rfl ?_
          refine v_ifnull_s (pc := 31) hX dX3_join_31 ?_
          refine v_aloadN (pc := 34) hX dX3_join_34 rfl ?_
          refine v_ifnull_n (tgt := 49) (pc := 36) hX dX3_join_36 (by decide) ?_
          refine v_iconst (v := (-1)) (pc := 49) hX dX3_join_49 (by decide) ?_
          exact v_iret (pc := 50) hX hZ dX3_join_50 (by decide) (by decide) ⟨(by simp only [X3_join_r, hq1, hq9, hq10, hq11]), (by simp only [X3_join_m, hq1, hq9, hq10, hq11])⟩
      ·
        show mV g x _ _ _ _ _ [.ref p10]
        refine v_astore (pc := 19) hX dX3_join_19 (by decide) rfl ?_
        refine v_aload_n (pc := 21) hX dX3_join_21 rfl ?_
        refine v_iload (pc := 22) hX dX3_join_22 rfl ?_
        refine v_callV (z := yX3_find) (pc := 24) hX dX3_join_24 (c_X3_find hO m f d N hs hN hN8) hs.k rfl wd_1002 wd_370 wd_371 wd_2 wd_372 ⟨by decide, by decide, (by decide +kernel : (parseMethodDescriptor yX3_find.desc).map (fun d => d.parameters.length) = some 1)⟩ rfl (Nat.le_of_ble_eq_true rfl) ⟨⟨by decide, by decide⟩, by decide, by decide⟩ (fun E m9 h9 => h9.elim) (fun r9 m9 h9 => ?_)
        obtain ⟨rfl, h8⟩ := h9
        replace h8 := h8.symm
        subst h8
        show mV g x _ _ _ _ _ [va_rf (X3_find_r g m f d N)]
        rcases hq12 : X3_find_r g m f d N with _ | p12
        ·
          show mV g x _ _ _ _ _ [.null]
          refine v_astoreN (pc := 27) hX dX3_join_27 (by decide) rfl ?_
          refine v_aload (pc := 29) hX dX3_join_29 rfl ?_
          refine v_ifnull_s (pc := 31) hX dX3_join_31 ?_
          refine v_aloadN (pc := 34) hX dX3_join_34 rfl ?_
          refine v_ifnull_n (tgt := 49) (pc := 36) hX dX3_join_36 (by decide) ?_
          refine v_iconst (v := (-1)) (pc := 49) hX dX3_join_49 (by decide) ?_
          exact v_iret (pc := 50) hX hZ dX3_join_50 (by decide) (by decide) ⟨(by simp only [X3_join_r, hq1, hq9, hq10, hq12]), (by simp only [X3_join_m, hq1, hq9, hq10, hq12])⟩
        ·
          show mV g x _ _ _ _ _ [.ref p12]
          refine v_astore (pc := 27) hX dX3_join_27 (by decide) rfl ?_
          refine v_aload (pc := 29) hX dX3_join_29 rfl ?_
          refine v_ifnull_s (pc := 31) hX dX3_join_31 ?_
          refine v_aloadN (pc := 34) hX dX3_join_34 rfl ?_
          refine v_ifnull_n (tgt := 49) (pc := 36) hX dX3_join_36 (by decide) ?_
          refine v_iconst (v := (-1)) (pc := 49) hX dX3_join_49 (by decide) ?_
          exact v_iret (pc := 50) hX hZ dX3_join_50 (by decide) (by decide) ⟨(by simp only [X3_join_r, hq1, hq9, hq10, hq12]), (by simp only [X3_join_m, hq1, hq9, hq10, hq12])⟩
    ·
      show mV g x _ _ _ _ _ [.ref p9]
      refine v_astore (pc := 12) hX dX3_join_12 (by decide) rfl ?_
      refine v_aload_n (pc := 14) hX dX3_join_14 rfl ?_
      refine v_iload_n (pc := 15) hX dX3_join_15 rfl ?_
      refine v_callV (z := yX3_find) (pc := 16) hX dX3_join_16 (c_X3_find hO m f c N hs hN hN8) hs.k rfl wd_1002 wd_370 wd_371 wd_2 wd_372 ⟨by decide, by decide, (by decide +kernel : (parseMethodDescriptor yX3_find.desc).map (fun d => d.parameters.length) = some 1)⟩ rfl (Nat.le_of_ble_eq_true rfl) ⟨⟨by decide, by decide⟩, by decide, by decide⟩ (fun E m9 h9 => h9.elim) (fun r9 m9 h9 => ?_)
      obtain ⟨rfl, h8⟩ := h9
      replace h8 := h8.symm
      subst h8
      show mV g x _ _ _ _ _ [va_rf (X3_find_r g m f c N)]
      rcases hq13 : X3_find_r g m f c N with _ | p13
      ·
        show mV g x _ _ _ _ _ [.null]
        refine v_astoreN (pc := 19) hX dX3_join_19 (by decide) rfl ?_
        refine v_aload_n (pc := 21) hX dX3_join_21 rfl ?_
        refine v_iload (pc := 22) hX dX3_join_22 rfl ?_
        refine v_callV (z := yX3_find) (pc := 24) hX dX3_join_24 (c_X3_find hO m f d N hs hN hN8) hs.k rfl wd_1002 wd_370 wd_371 wd_2 wd_372 ⟨by decide, by decide, (by decide +kernel : (parseMethodDescriptor yX3_find.desc).map (fun d => d.parameters.length) = some 1)⟩ rfl (Nat.le_of_ble_eq_true rfl) ⟨⟨by decide, by decide⟩, by decide, by decide⟩ (fun E m9 h9 => h9.elim) (fun r9 m9 h9 => ?_)
        obtain ⟨rfl, h8⟩ := h9
        replace h8 := h8.symm
        subst h8
        show mV g x _ _ _ _ _ [va_rf (X3_find_r g m f d N)]
        rcases hq14 : X3_find_r g m f d N with _ | p14
        ·
          show mV g x _ _ _ _ _ [.null]
          refine v_astoreN (pc := 27) hX dX3_join_27 (by decide) rfl ?_
          refine v_aload (pc := 29) hX dX3_join_29 rfl ?_
          refine v_ifnull_s (pc := 31) hX dX3_join_31 ?_
          refine v_aload (pc := 34) hX dX3_join_34 rfl ?_
          refine v_ifnull_s (pc := 36) hX dX3_join_36 ?_
          refine v_aloadN (pc := 39) hX dX3_join_39 rfl ?_
          refine v_ifnull_n (tgt := 49) (pc := 41) hX dX3_join_41 (by decide) ?_
          refine v_iconst (v := (-1)) (pc := 49) hX dX3_join_49 (by decide) ?_
          exact v_iret (pc := 50) hX hZ dX3_join_50 (by decide) (by decide) ⟨(by simp only [X3_join_r, hq1, hq9, hq13, hq14]), (by simp only [X3_join_m, hq1, hq9, hq13, hq14])⟩
        ·
          show mV g x _ _ _ _ _ [.ref p14]
          refine v_astore (pc := 27) hX dX3_join_27 (by decide) rfl ?_
          refine v_aload (pc := 29) hX dX3_join_29 rfl ?_
          refine v_ifnull_s (pc := 31) hX dX3_join_31 ?_
          refine v_aload (pc := 34) hX dX3_join_34 rfl ?_
          refine v_ifnull_s (pc := 36) hX dX3_join_36 ?_
          refine v_aloadN (pc := 39) hX dX3_join_39 rfl ?_
          refine v_ifnull_n (tgt := 49) (pc := 41) hX dX3_join_41 (by decide) ?_
          refine v_iconst (v := (-1)) (pc := 49) hX dX3_join_49 (by decide) ?_
          exact v_iret (pc := 50) hX hZ dX3_join_50 (by decide) (by decide) ⟨(by simp only [X3_join_r, hq1, hq9, hq13, hq14]), (by simp only [X3_join_m, hq1, hq9, hq13, hq14])⟩
      ·
        show mV g x _ _ _ _ _ [.ref p13]
        refine v_astore (pc := 19) hX dX3_join_19 (by decide) rfl ?_
        refine v_aload_n (pc := 21) hX dX3_join_21 rfl ?_
        refine v_iload (pc := 22) hX dX3_join_22 rfl ?_
        refine v_callV (z := yX3_find) (pc := 24) hX dX3_join_24 (c_X3_find hO m f d N hs hN hN8) hs.k rfl wd_1002 wd_370 wd_371 wd_2 wd_372 ⟨by decide, by decide, (by decide +kernel : (parseMethodDescriptor yX3_find.desc).map (fun d => d.parameters.length) = some 1)⟩ rfl (Nat.le_of_ble_eq_true rfl) ⟨⟨by decide, by decide⟩, by decide, by decide⟩ (fun E m9 h9 => h9.elim) (fun r9 m9 h9 => ?_)
        obtain ⟨rfl, h8⟩ := h9
        replace h8 := h8.symm
        subst h8
        show mV g x _ _ _ _ _ [va_rf (X3_find_r g m f d N)]
        rcases hq15 : X3_find_r g m f d N with _ | p15
        ·
          show mV g x _ _ _ _ _ [.null]
          refine v_astoreN (pc := 27) hX dX3_join_27 (by decide) rfl ?_
          refine v_aload (pc := 29) hX dX3_join_29 rfl ?_
          refine v_ifnull_s (pc := 31) hX dX3_join_31 ?_
          refine v_aload (pc := 34) hX dX3_join_34 rfl ?_
          refine v_ifnull_s (pc := 36) hX dX3_join_36 ?_
          refine v_aload (pc := 39) hX dX3_join_39 rfl ?_
          refine v_ifnull_s (pc := 41) hX dX3_join_41 ?_
          refine v_aloadN (pc := 44) hX dX3_join_44 rfl ?_
          refine v_ifnonnull_n (pc := 46) hX dX3_join_46 ?_
          refine v_iconst (v := (-1)) (pc := 49) hX dX3_join_49 (by decide) ?_
          exact v_iret (pc := 50) hX hZ dX3_join_50 (by decide) (by decide) ⟨(by simp only [X3_join_r, hq1, hq9, hq13, hq15]), (by simp only [X3_join_m, hq1, hq9, hq13, hq15])⟩
        ·
          show mV g x _ _ _ _ _ [.ref p15]
          refine v_astore (pc := 27) hX dX3_join_27 (by decide) rfl ?_
          refine v_aload (pc := 29) hX dX3_join_29 rfl ?_
          refine v_ifnull_s (pc := 31) hX dX3_join_31 ?_
          refine v_aload (pc := 34) hX dX3_join_34 rfl ?_
          refine v_ifnull_s (pc := 36) hX dX3_join_36 ?_
          refine v_aload (pc := 39) hX dX3_join_39 rfl ?_
          refine v_ifnull_s (pc := 41) hX dX3_join_41 ?_
          refine v_aload (pc := 44) hX dX3_join_44 rfl ?_
          refine v_ifnonnull_s (tgt := 51) (pc := 46) hX dX3_join_46 (by decide) ?_
          refine v_aload (pc := 51) hX dX3_join_51 rfl ?_
          refine v_getN (v := .int (gI m 289 p1)) (pc := 53) hX dX3_join_53 (find_k hs hN8 hq1) (ci := 9) (r := vwC9) rfl 1 (by decide) wd_95 rfl ?_
          refine v_bipush (v := 98) (pc := 56) hX dX3_join_56 (by decide) ?_
          refine v_icmp_ne (tgt := 98) (pc := 58) hX dX3_join_58 (by decide) (fun c1 => ?_) (fun c1 => ?_)
          ·
            refine v_bipush (v := (-3)) (pc := 98) hX dX3_join_98 (by decide) ?_
            exact v_iret (pc := 100) hX hZ dX3_join_100 (by decide) (by decide) ⟨(by simp only [X3_join_r, hq1, hq9, hq13, hq15, if_neg c1]), (by simp only [X3_join_m, hq1, hq9, hq13, hq15, if_neg c1])⟩
          ·
            refine v_aload (pc := 61) hX dX3_join_61 rfl ?_
            refine v_getN (v := .int (gI m 289 p9)) (pc := 63) hX dX3_join_63 (find_k hs hN8 hq9) (ci := 9) (r := vwC9) rfl 1 (by decide) wd_95 rfl ?_
            refine v_bipush (v := 110) (pc := 66) hX dX3_join_66 (by decide) ?_
            refine v_icmp_ne (tgt := 98) (pc := 68) hX dX3_join_68 (by decide) (fun c2 => ?_) (fun c2 => ?_)
            ·
              refine v_bipush (v := (-3)) (pc := 98) hX dX3_join_98 (by decide) ?_
              exact v_iret (pc := 100) hX hZ dX3_join_100 (by decide) (by decide) ⟨(by simp only [X3_join_r, hq1, hq9, hq13, hq15, if_pos c1, if_neg c2]), (by simp only [X3_join_m, hq1, hq9, hq13, hq15, if_pos c1, if_neg c2])⟩
            ·
              refine v_aload (pc := 71) hX dX3_join_71 rfl ?_
              refine v_getN (v := .int (gI m 289 p13)) (pc := 73) hX dX3_join_73 (find_k hs hN8 hq13) (ci := 9) (r := vwC9) rfl 1 (by decide) wd_95 rfl ?_
              refine v_bipush (v := 119) (pc := 76) hX dX3_join_76 (by decide) ?_
              refine v_icmp_ne (tgt := 98) (pc := 78) hX dX3_join_78 (by decide) (fun c3 => ?_) (fun c3 => ?_)
              ·
                refine v_bipush (v := (-3)) (pc := 98) hX dX3_join_98 (by decide) ?_
                exact v_iret (pc := 100) hX hZ dX3_join_100 (by decide) (by decide) ⟨(by simp only [X3_join_r, hq1, hq9, hq13, hq15, if_pos c1, if_pos c2, if_neg c3]), (by simp only [X3_join_m, hq1, hq9, hq13, hq15, if_pos c1, if_pos c2, if_neg c3])⟩
              ·
                refine v_aload (pc := 81) hX dX3_join_81 rfl ?_
                refine v_getN (v := .int (gI m 289 p15)) (pc := 83) hX dX3_join_83 (find_k hs hN8 hq15) (ci := 9) (r := vwC9) rfl 1 (by decide) wd_95 rfl ?_
                refine v_bipush (v := 119) (pc := 86) hX dX3_join_86 (by decide) ?_
                refine v_icmp_ne (tgt := 98) (pc := 88) hX dX3_join_88 (by decide) (fun c4 => ?_) (fun c4 => ?_)
                ·
                  refine v_bipush (v := (-3)) (pc := 98) hX dX3_join_98 (by decide) ?_
                  exact v_iret (pc := 100) hX hZ dX3_join_100 (by decide) (by decide) ⟨(by simp only [X3_join_r, hq1, hq9, hq13, hq15, if_pos c1, if_pos c2, if_pos c3, if_neg c4]), (by simp only [X3_join_m, hq1, hq9, hq13, hq15, if_pos c1, if_pos c2, if_pos c3, if_neg c4])⟩
                ·
                  refine v_aload (pc := 91) hX dX3_join_91 rfl ?_
                  refine v_aload (pc := 93) hX dX3_join_93 rfl ?_
                  refine v_acmp_ne (a := some p13) (b := some p15) (tgt := 101) (pc := 95) hX dX3_join_95 (by decide) (fun c5 => ?_) (fun c5 => ?_)
                  ·
                    refine v_aload (pc := 101) hX dX3_join_101 rfl ?_
                    refine v_callV (z := yX7_isReadyForBird) (pc := 103) hX dX3_join_103 (c_X7_isReadyForBird hO m p1 (by exact (find_k hs hN8 hq1))) (find_k hs hN8 hq1) rfl wd_1088 wd_1089 wd_1090 wd_4 wd_1091 ⟨by decide, by decide, (by decide +kernel : (parseMethodDescriptor yX7_isReadyForBird.desc).map (fun d => d.parameters.length) = some 0)⟩ rfl (Nat.le_of_ble_eq_true rfl) ⟨⟨by decide, by decide⟩, by decide, by decide⟩ (fun E m9 h9 => h9.elim) (fun r9 m9 h9 => ?_)
                    obtain ⟨rfl, h8⟩ := h9
                    replace h8 := h8.symm
                    subst h8
                    show mV g x _ _ _ _ _ [.int (X7_isReadyForBird_r g m p1)]
                    refine v_if_eq (tgt := 133) (pc := 106) hX dX3_join_106 (by decide) (fun c6 => ?_) (fun c6 => ?_)
                    ·
                      refine v_bipush (v := (-4)) (pc := 133) hX dX3_join_133 (by decide) ?_
                      exact v_iret (pc := 135) hX hZ dX3_join_135 (by decide) (by decide) ⟨(by simp only [X3_join_r, hq1, hq9, hq13, hq15, if_pos c1, if_pos c2, if_pos c3, if_pos c4, if_neg c5, if_pos c6]), (by simp only [X3_join_m, hq1, hq9, hq13, hq15, if_pos c1, if_pos c2, if_pos c3, if_pos c4, if_neg c5, if_pos c6])⟩
                    ·
                      refine v_aload (pc := 109) hX dX3_join_109 rfl ?_
                      refine v_callV (z := yX7_isReadyForBird) (pc := 111) hX dX3_join_111 (c_X7_isReadyForBird hO m p9 (by exact (find_k hs hN8 hq9))) (find_k hs hN8 hq9) rfl wd_1088 wd_1089 wd_1090 wd_4 wd_1091 ⟨by decide, by decide, (by decide +kernel : (parseMethodDescriptor yX7_isReadyForBird.desc).map (fun d => d.parameters.length) = some 0)⟩ rfl (Nat.le_of_ble_eq_true rfl) ⟨⟨by decide, by decide⟩, by decide, by decide⟩ (fun E m9 h9 => h9.elim) (fun r9 m9 h9 => ?_)
                      obtain ⟨rfl, h8⟩ := h9
                      replace h8 := h8.symm
                      subst h8
                      show mV g x _ _ _ _ _ [.int (X7_isReadyForBird_r g m p9)]
                      refine v_if_eq (tgt := 133) (pc := 114) hX dX3_join_114 (by decide) (fun c7 => ?_) (fun c7 => ?_)
                      ·
                        refine v_bipush (v := (-4)) (pc := 133) hX dX3_join_133 (by decide) ?_
                        exact v_iret (pc := 135) hX hZ dX3_join_135 (by decide) (by decide) ⟨(by simp only [X3_join_r, hq1, hq9, hq13, hq15, if_pos c1, if_pos c2, if_pos c3, if_pos c4, if_neg c5, if_neg c6, if_pos c7]), (by simp only [X3_join_m, hq1, hq9, hq13, hq15, if_pos c1, if_pos c2, if_pos c3, if_pos c4, if_neg c5, if_neg c6, if_pos c7])⟩
                      ·
                        refine v_aload (pc := 117) hX dX3_join_117 rfl ?_
                        refine v_callV (z := yX7_isReadyForBird) (pc := 119) hX dX3_join_119 (c_X7_isReadyForBird hO m p13 (by exact (find_k hs hN8 hq13))) (find_k hs hN8 hq13) rfl wd_1088 wd_1089 wd_1090 wd_4 wd_1091 ⟨by decide, by decide, (by decide +kernel : (parseMethodDescriptor yX7_isReadyForBird.desc).map (fun d => d.parameters.length) = some 0)⟩ rfl (Nat.le_of_ble_eq_true rfl) ⟨⟨by decide, by decide⟩, by decide, by decide⟩ (fun E m9 h9 => h9.elim) (fun r9 m9 h9 => ?_)
                        obtain ⟨rfl, h8⟩ := h9
                        replace h8 := h8.symm
                        subst h8
                        show mV g x _ _ _ _ _ [.int (X7_isReadyForBird_r g m p13)]
                        refine v_if_eq (tgt := 133) (pc := 122) hX dX3_join_122 (by decide) (fun c8 => ?_) (fun c8 => ?_)
                        ·
                          refine v_bipush (v := (-4)) (pc := 133) hX dX3_join_133 (by decide) ?_
                          exact v_iret (pc := 135) hX hZ dX3_join_135 (by decide) (by decide) ⟨(by simp only [X3_join_r, hq1, hq9, hq13, hq15, if_pos c1, if_pos c2, if_pos c3, if_pos c4, if_neg c5, if_neg c6, if_neg c7, if_pos c8]), (by simp only [X3_join_m, hq1, hq9, hq13, hq15, if_pos c1, if_pos c2, if_pos c3, if_pos c4, if_neg c5, if_neg c6, if_neg c7, if_pos c8])⟩
                        ·
                          refine v_aload (pc := 125) hX dX3_join_125 rfl ?_
                          refine v_callV (z := yX7_isReadyForBird) (pc := 127) hX dX3_join_127 (c_X7_isReadyForBird hO m p15 (by exact (find_k hs hN8 hq15))) (find_k hs hN8 hq15) rfl wd_1088 wd_1089 wd_1090 wd_4 wd_1091 ⟨by decide, by decide, (by decide +kernel : (parseMethodDescriptor yX7_isReadyForBird.desc).map (fun d => d.parameters.length) = some 0)⟩ rfl (Nat.le_of_ble_eq_true rfl) ⟨⟨by decide, by decide⟩, by decide, by decide⟩ (fun E m9 h9 => h9.elim) (fun r9 m9 h9 => ?_)
                          obtain ⟨rfl, h8⟩ := h9
                          replace h8 := h8.symm
                          subst h8
                          show mV g x _ _ _ _ _ [.int (X7_isReadyForBird_r g m p15)]
                          refine v_if_ne (tgt := 136) (pc := 130) hX dX3_join_130 (by decide) (fun c9 => ?_) (fun c9 => ?_)
                          ·
                            refine v_aload_n (pc := 136) hX dX3_join_136 rfl ?_
                            refine v_iload_n (pc := 137) hX dX3_join_137 rfl ?_
                            refine v_callV (z := yX3_remove) (pc := 138) hX dX3_join_138 (c_X3_remove hO m f a N hs hN hN8) hs.k rfl wd_1093 wd_1095 wp_3 wd_2 wd_1096 ⟨by decide, by decide, (by decide +kernel : (parseMethodDescriptor yX3_remove.desc).map (fun d => d.parameters.length) = some 1)⟩ rfl (Nat.le_of_ble_eq_true rfl) ⟨⟨by decide, by decide⟩, by decide, by decide⟩ (fun E m9 h9 => h9.elim) (fun r9 m9 h9 => ?_)
                            obtain ⟨rfl, h8⟩ := h9
                            replace h8 := h8.symm
                            subst h8
                            show mV g x _ _ _ _ _ []
                            refine v_aload_n (pc := 141) hX dX3_join_141 rfl ?_
                            refine v_iload_n (pc := 142) hX dX3_join_142 rfl ?_
                            refine v_callV (z := yX3_remove) (pc := 143) hX dX3_join_143 (c_X3_remove hO ((X3_remove_m g m f a N)) f b ((gI (X3_remove_m g m f a N) 163 f).toNatClampNeg) ((SF_remove hs hN8)) ((rem_N hs hN8).1) ((rem_N hs hN8).2)) (by simp only [mm, kK_X3_remove]; exact hs.k) rfl wd_1093 wd_1095 wp_3 wd_2 wd_1096 ⟨by decide, by decide, (by decide +kernel : (parseMethodDescriptor yX3_remove.desc).map (fun d => d.parameters.length) = some 1)⟩ rfl (Nat.le_of_ble_eq_true rfl) ⟨⟨by decide, by decide⟩, by decide, by decide⟩ (fun E m9 h9 => h9.elim) (fun r9 m9 h9 => ?_)
                            obtain ⟨rfl, h8⟩ := h9
                            replace h8 := h8.symm
                            subst h8
                            show mV g x _ _ _ _ _ []
                            refine v_aload_n (pc := 146) hX dX3_join_146 rfl ?_
                            refine v_iload_n (pc := 147) hX dX3_join_147 rfl ?_
                            refine v_callV (z := yX3_remove) (pc := 148) hX dX3_join_148 (c_X3_remove hO ((X3_remove_m g ((X3_remove_m g m f a N)) f b ((gI (X3_remove_m g m f a N) 163 f).toNatClampNeg))) f c ((gI (X3_remove_m g ((X3_remove_m g m f a N)) f b ((gI (X3_remove_m g m f a N) 163 f).toNatClampNeg)) 163 f).toNatClampNeg) ((SF_remove (SF_remove hs hN8) (rem_N hs hN8).2)) ((rem_N (SF_remove hs hN8) (rem_N hs hN8).2).1) ((rem_N (SF_remove hs hN8) (rem_N hs hN8).2).2)) (by simp only [mm, kK_X3_remove]; exact hs.k) rfl wd_1093 wd_1095 wp_3 wd_2 wd_1096 ⟨by decide, by decide, (by decide +kernel : (parseMethodDescriptor yX3_remove.desc).map (fun d => d.parameters.length) = some 1)⟩ rfl (Nat.le_of_ble_eq_true rfl) ⟨⟨by decide, by decide⟩, by decide, by decide⟩ (fun E m9 h9 => h9.elim) (fun r9 m9 h9 => ?_)
                            obtain ⟨rfl, h8⟩ := h9
                            replace h8 := h8.symm
                            subst h8
                            show mV g x _ _ _ _ _ []
                            refine v_aload_n (pc := 151) hX dX3_join_151 rfl ?_
                            refine v_iload (pc := 152) hX dX3_join_152 rfl ?_
                            refine v_callV (z := yX3_remove) (pc := 154) hX dX3_join_154 (c_X3_remove hO ((X3_remove_m g ((X3_remove_m g ((X3_remove_m g m f a N)) f b ((gI (X3_remove_m g m f a N) 163 f).toNatClampNeg))) f c ((gI (X3_remove_m g ((X3_remove_m g m f a N)) f b ((gI (X3_remove_m g m f a N) 163 f).toNatClampNeg)) 163 f).toNatClampNeg))) f d ((gI (X3_remove_m g ((X3_remove_m g ((X3_remove_m g m f a N)) f b ((gI (X3_remove_m g m f a N) 163 f).toNatClampNeg))) f c ((gI (X3_remove_m g ((X3_remove_m g m f a N)) f b ((gI (X3_remove_m g m f a N) 163 f).toNatClampNeg)) 163 f).toNatClampNeg)) 163 f).toNatClampNeg) ((SF_remove (SF_remove (SF_remove hs hN8) (rem_N hs hN8).2) (rem_N (SF_remove hs hN8) (rem_N hs hN8).2).2)) ((rem_N (SF_remove (SF_remove hs hN8) (rem_N hs hN8).2) (rem_N (SF_remove hs hN8) (rem_N hs hN8).2).2).1) ((rem_N (SF_remove (SF_remove hs hN8) (rem_N hs hN8).2) (rem_N (SF_remove hs hN8) (rem_N hs hN8).2).2).2)) (by simp only [mm, kK_X3_remove]; exact hs.k) rfl wd_1093 wd_1095 wp_3 wd_2 wd_1096 ⟨by decide, by decide, (by decide +kernel : (parseMethodDescriptor yX3_remove.desc).map (fun d => d.parameters.length) = some 1)⟩ rfl (Nat.le_of_ble_eq_true rfl) ⟨⟨by decide, by decide⟩, by decide, by decide⟩ (fun E m9 h9 => h9.elim) (fun r9 m9 h9 => ?_)
                            obtain ⟨rfl, h8⟩ := h9
                            replace h8 := h8.symm
                            subst h8
                            show mV g x _ _ _ _ _ []
                            refine v_aload_n (pc := 157) hX dX3_join_157 rfl ?_
                            refine v_dup (pc := 158) hX dX3_join_158 rfl ?_
                            refine v_get (v := .int (gI (X3_remove_m g ((X3_remove_m g ((X3_remove_m g ((X3_remove_m g m f a N)) f b ((gI (X3_remove_m g m f a N) 163 f).toNatClampNeg))) f c ((gI (X3_remove_m g ((X3_remove_m g m f a N)) f b ((gI (X3_remove_m g m f a N) 163 f).toNatClampNeg)) 163 f).toNatClampNeg))) f d ((gI (X3_remove_m g ((X3_remove_m g ((X3_remove_m g m f a N)) f b ((gI (X3_remove_m g m f a N) 163 f).toNatClampNeg))) f c ((gI (X3_remove_m g ((X3_remove_m g m f a N)) f b ((gI (X3_remove_m g m f a N) 163 f).toNatClampNeg)) 163 f).toNatClampNeg)) 163 f).toNatClampNeg)) 168 f)) (pc := 159) hX dX3_join_159 (by simp only [mm, kK_X3_remove]; exact hs.k) (ci := 5) (r := vwC5) rfl 8 (by decide) wd_165 rfl ?_
                            refine v_iconst (v := 1) (pc := 162) hX dX3_join_162 (by decide) ?_
                            refine v_iadd (pc := 163) hX dX3_join_163 ?_
                            refine v_put (m1 := (sI (X3_remove_m g ((X3_remove_m g ((X3_remove_m g ((X3_remove_m g m f a N)) f b ((gI (X3_remove_m g m f a N) 163 f).toNatClampNeg))) f c ((gI (X3_remove_m g ((X3_remove_m g m f a N)) f b ((gI (X3_remove_m g m f a N) 163 f).toNatClampNeg)) 163 f).toNatClampNeg))) f d ((gI (X3_remove_m g ((X3_remove_m g ((X3_remove_m g m f a N)) f b ((gI (X3_remove_m g m f a N) 163 f).toNatClampNeg))) f c ((gI (X3_remove_m g ((X3_remove_m g m f a N)) f b ((gI (X3_remove_m g m f a N) 163 f).toNatClampNeg)) 163 f).toNatClampNeg)) 163 f).toNatClampNeg)) 168 f ((gI (X3_remove_m g ((X3_remove_m g ((X3_remove_m g ((X3_remove_m g m f a N)) f b ((gI (X3_remove_m g m f a N) 163 f).toNatClampNeg))) f c ((gI (X3_remove_m g ((X3_remove_m g m f a N)) f b ((gI (X3_remove_m g m f a N) 163 f).toNatClampNeg)) 163 f).toNatClampNeg))) f d ((gI (X3_remove_m g ((X3_remove_m g ((X3_remove_m g m f a N)) f b ((gI (X3_remove_m g m f a N) 163 f).toNatClampNeg))) f c ((gI (X3_remove_m g ((X3_remove_m g m f a N)) f b ((gI (X3_remove_m g m f a N) 163 f).toNatClampNeg)) 163 f).toNatClampNeg)) 163 f).toNatClampNeg)) 168 f) + 1))) (pc := 164) hX dX3_join_164 (by simp only [mm, kK_X3_remove]; exact hs.k) (ci := 5) (r := vwC5) rfl 8 (by decide) wd_165 rfl rfl rfl rfl ?_
                            refine v_aload_n (pc := 167) hX dX3_join_167 rfl ?_
                            refine v_get (v := .int ((gI (X3_remove_m g ((X3_remove_m g ((X3_remove_m g ((X3_remove_m g m f a N)) f b ((gI (X3_remove_m g m f a N) 163 f).toNatClampNeg))) f c ((gI (X3_remove_m g ((X3_remove_m g m f a N)) f b ((gI (X3_remove_m g m f a N) 163 f).toNatClampNeg)) 163 f).toNatClampNeg))) f d ((gI (X3_remove_m g ((X3_remove_m g ((X3_remove_m g m f a N)) f b ((gI (X3_remove_m g m f a N) 163 f).toNatClampNeg))) f c ((gI (X3_remove_m g ((X3_remove_m g m f a N)) f b ((gI (X3_remove_m g m f a N) 163 f).toNatClampNeg)) 163 f).toNatClampNeg)) 163 f).toNatClampNeg)) 168 f) + 1)) (pc := 168) hX dX3_join_168 (by simp only [mm, kK_X3_remove]; exact hs.k) (ci := 5) (r := vwC5) rfl 8 (by decide) wd_165 (by show Value.int _ = Value.int _; simp [mm]) ?_
                            exact v_iret (pc := 171) hX hZ dX3_join_171 (by decide) (by decide) ⟨(by simp only [X3_join_r, hq1, hq9, hq13, hq15, if_pos c1, if_pos c2, if_pos c3, if_pos c4, if_neg c5, if_neg c6, if_neg c7, if_neg c8, if_neg c9]), (by simp only [X3_join_m, hq1, hq9, hq13, hq15, if_pos c1, if_pos c2, if_pos c3, if_pos c4, if_neg c5, if_neg c6, if_neg c7, if_neg c8, if_neg c9])⟩
                          ·
                            refine v_bipush (v := (-4)) (pc := 133) hX dX3_join_133 (by decide) ?_
                            exact v_iret (pc := 135) hX hZ dX3_join_135 (by decide) (by decide) ⟨(by simp only [X3_join_r, hq1, hq9, hq13, hq15, if_pos c1, if_pos c2, if_pos c3, if_pos c4, if_neg c5, if_neg c6, if_neg c7, if_neg c8, if_pos c9]), (by simp only [X3_join_m, hq1, hq9, hq13, hq15, if_pos c1, if_pos c2, if_pos c3, if_pos c4, if_neg c5, if_neg c6, if_neg c7, if_neg c8, if_pos c9])⟩
                  ·
                    refine v_bipush (v := (-3)) (pc := 98) hX dX3_join_98 (by decide) ?_
                    exact v_iret (pc := 100) hX hZ dX3_join_100 (by decide) (by decide) ⟨(by simp only [X3_join_r, hq1, hq9, hq13, hq15, if_pos c1, if_pos c2, if_pos c3, if_pos c4, if_pos c5]), (by simp only [X3_join_m, hq1, hq9, hq13, hq15, if_pos c1, if_pos c2, if_pos c3, if_pos c4, if_pos c5])⟩
theorem fr_X3_join (g : mG) (m : mM) (f : Nat) (a : Int32) (b : Int32) (c : Int32) (d : Int32) (N : Nat) (hs : SF m f) (hN8 : N ≤ 8) : Fr f (f + 16) m (X3_join_m g m f a b c d N) := by
  unfold X3_join_m
  repeat' split
  all_goals first | with_reducible exact Fr.rf | skip
  have h1 := fr_X3_remove g m f a (N) hs hN8
  have s1 := SF_remove (g := g) (a := a) hs hN8
  have n1 := (rem_N (g := g) (a := a) hs hN8).2
  generalize X3_remove_m g m f a (N) = m1 at *
  have h2 := h1.tr (fr_X3_remove g m1 f b ((gI m1 163 f).toNatClampNeg) s1 n1) (Nat.le_refl _) (Nat.le_refl _)
  have s2 := SF_remove (g := g) (a := b) s1 n1
  have n2 := (rem_N (g := g) (a := b) s1 n1).2
  generalize X3_remove_m g m1 f b ((gI m1 163 f).toNatClampNeg) = m2 at *
  have h3 := h2.tr (fr_X3_remove g m2 f c ((gI m2 163 f).toNatClampNeg) s2 n2) (Nat.le_refl _) (Nat.le_refl _)
  have s3 := SF_remove (g := g) (a := c) s2 n2
  have n3 := (rem_N (g := g) (a := c) s2 n2).2
  generalize X3_remove_m g m2 f c ((gI m2 163 f).toNatClampNeg) = m3 at *
  have h4 := h3.tr (fr_X3_remove g m3 f d ((gI m3 163 f).toNatClampNeg) s3 n3) (Nat.le_refl _) (Nat.le_refl _)
  have s4 := SF_remove (g := g) (a := d) s3 n3
  have n4 := (rem_N (g := g) (a := d) s3 n3).2
  generalize X3_remove_m g m3 f d ((gI m3 163 f).toNatClampNeg) = m4 at *
  exact h4.I (by omega)
def X3_coalMatches_r (g : mG) (m : mM) (f : Nat)  : Int32 := if (lg_cmp ((gJ m 171 f) + ((20 : Int64))) (((gI m 194 (f + 1)).toInt64) + (gJ m 195 (f + 1)))) = 0 then 1 else 0

set_option maxHeartbeats 4000000 in
set_option maxRecDepth 100000 in
theorem c_X3_coalMatches {l : Launch} {g : mG} (hO : mO l g) (m : mM) (f : Nat)  (hs : SF m f) : mT l g yX3_coalMatches (.code yX3_coalMatches cX3_coalMatches 1 (Option.some FieldType.boolean)) 1 20 0 0 [.ref f] m (fun r m' => r = some (.int (X3_coalMatches_r g m f )) ∧ m' = m) nX := by
  refine mT_of hO (by decide) (Nat.le_of_ble_eq_true rfl) (fun x hX hZ => ?_)
  show mV g x m 0 0 0 [(0, .ref f)] []
  refine v_aload_n (pc := 0) hX dX3_coalMatches_0 rfl ?_
  refine v_get (v := .long (gJ m 171 f)) (pc := 1) hX dX3_coalMatches_1 hs.k (ci := 5) (r := vwC5) rfl 11 (by decide) wd_171 rfl ?_
  refine v_ldc2 (v := 20) (pc := 4) hX dX3_coalMatches_4 wd_406 ?_
  refine v_ladd (pc := 7) hX dX3_coalMatches_7 ?_
  refine v_aload_n (pc := 8) hX dX3_coalMatches_8 rfl ?_
  refine v_get (v := .ref (f + 1)) (pc := 9) hX dX3_coalMatches_9 hs.k (ci := 5) (r := vwC5) rfl 0 (by decide) wd_149 (fvR hs.r0) ?_
  refine v_getN (v := .int (gI m 194 (f + 1))) (pc := 12) hX dX3_coalMatches_12 hs.k1 (ci := 6) (r := vwC6) rfl 2 (by decide) wd_65 rfl ?_
  refine v_i2l (pc := 15) hX dX3_coalMatches_15 ?_
  refine v_aload_n (pc := 16) hX dX3_coalMatches_16 rfl ?_
  refine v_get (v := .ref (f + 1)) (pc := 17) hX dX3_coalMatches_17 hs.k (ci := 5) (r := vwC5) rfl 0 (by decide) wd_149 (fvR hs.r0) ?_
  refine v_getN (v := .long (gJ m 195 (f + 1))) (pc := 20) hX dX3_coalMatches_20 hs.k1 (ci := 6) (r := vwC6) rfl 3 (by decide) wd_68 rfl ?_
  refine v_ladd (pc := 23) hX dX3_coalMatches_23 ?_
  refine v_lcmp (pc := 24) hX dX3_coalMatches_24 ?_
  refine v_if_ne (tgt := 32) (pc := 25) hX dX3_coalMatches_25 (by decide) (fun c1 => ?_) (fun c1 => ?_)
  ·
    refine v_iconst (v := 0) (pc := 32) hX dX3_coalMatches_32 (by decide) ?_
    exact v_zret (pc := 33) hX hZ dX3_coalMatches_33 rfl (by decide) (by decide) ⟨(by rw [X3_coalMatches_r, if_neg c1]), rfl⟩
  ·
    refine v_iconst (v := 1) (pc := 28) hX dX3_coalMatches_28 (by decide) ?_
    refine v_goto (tgt := 33) (pc := 29) hX dX3_coalMatches_29 (by decide) ?_
    exact v_zret (pc := 33) hX hZ dX3_coalMatches_33 rfl (by decide) (by decide) ⟨(by rw [X3_coalMatches_r, if_pos c1]), rfl⟩
