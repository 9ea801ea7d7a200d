def Jx29ce0_ordinal_8abf5_r (g : mG) (m : mM) (t : Nat) (v : Int32) : Int32 := v

set_option maxHeartbeats 4000000 in
set_option maxRecDepth 100000 in
theorem c_Jx29ce0_ordinal_8abf5 {l : Launch} {g : mG} (hO : mO l g) (m : mM) (t : Nat) (v : Int32) (hF : oF g "java/lang/Enum" "ordinal" "I" (.int v) t) : mT l g yJx29ce0_ordinal_8abf5 (.code yJx29ce0_ordinal_8abf5 cJx29ce0_ordinal_8abf5 1 (Option.some FieldType.int)) 1 20 0 0 [.ref t] m (fun r m' => r = some (.int (Jx29ce0_ordinal_8abf5_r g m t v)) ∧ m' = m) nX := by
  refine mT_of hO (by decide) (Nat.le_of_ble_eq_true rfl) (fun x hX hZ => ?_)
  show mV g x m 0 0 0 [(0, .ref t)] []
  refine v_aload_n (pc := 0) hX dJx29ce0_ordinal_8abf5_0 rfl ?_
  refine v_getO (v := .int v) (pc := 1) hX dJx29ce0_ordinal_8abf5_1 hF wd_2002 ?_
  exact v_iret (pc := 4) hX hZ dJx29ce0_ordinal_8abf5_4 (by decide) (by decide) ⟨(by rw [Jx29ce0_ordinal_8abf5_r]), rfl⟩
def X8_carryOut_r (g : mG) (m : mM) (p : Nat) (a : Int32) (f : Nat) (i : Nat) (kc : Nat) (N : Nat) (H : Nat) : Int32 := if (swV kc) = 1 then (X3_storeCoal_r g m f (gA m (p + 4 + i) 0) ) else (if (swV kc) = 2 then (X3_changeLevel_r g m f (gA m (p + 4 + i) 0) ) else (if (swV kc) = 3 then (X3_newPiece_r g m f (((gA m (p + 4 + i) 0).toUInt32 % 65536).toInt32) N) else (if (swV kc) = 4 then (X3_newHammer_r g m f (gA m (p + 4 + i) 0) H) else (if (swV kc) = 5 then (X3_intoFurnace_r g m f (gA m (p + 4 + i) 0) N) else (if (swV kc) = 6 then (X3_ontoBench_r g m f (gA m (p + 4 + i) 0) N) else (if (swV kc) = 7 then (X3_strike_r g m f (gA m (p + 4 + i) 0) (gA m (p + 4 + i) 1) N H) else (if (swV kc) = 8 then (X3_chill_r g m f (gA m (p + 4 + i) 0) N) else (if (swV kc) = 9 then (X3_examine_r g m f (gA m (p + 4 + i) 0) N) else (if (swV kc) = 10 then (X3_join_r g m f (gA m (p + 4 + i) 0) (gA m (p + 4 + i) 1) (gA m (p + 4 + i) 2) (gA m (p + 4 + i) 3) N) else (if (swV kc) = 11 then (X3_throwAway_r g m f (gA m (p + 4 + i) 0) N) else (X3_passMinutes_r g m f (gA m (p + 4 + i) 0) N)))))))))))
def X8_carryOut_m (g : mG) (m : mM) (p : Nat) (a : Int32) (f : Nat) (i : Nat) (kc : Nat) (N : Nat) (H : Nat) : mM := if (swV kc) = 1 then ((X3_storeCoal_m g m f (gA m (p + 4 + i) 0) )) else (if (swV kc) = 2 then ((X3_changeLevel_m g m f (gA m (p + 4 + i) 0) )) else (if (swV kc) = 3 then ((X3_newPiece_m g m f (((gA m (p + 4 + i) 0).toUInt32 % 65536).toInt32) N)) else (if (swV kc) = 4 then ((X3_newHammer_m g m f (gA m (p + 4 + i) 0) H)) else (if (swV kc) = 5 then ((X3_intoFurnace_m g m f (gA m (p + 4 + i) 0) N)) else (if (swV kc) = 6 then ((X3_ontoBench_m g m f (gA m (p + 4 + i) 0) N)) else (if (swV kc) = 7 then ((X3_strike_m g m f (gA m (p + 4 + i) 0) (gA m (p + 4 + i) 1) N H)) else (if (swV kc) = 8 then ((X3_chill_m g m f (gA m (p + 4 + i) 0) N)) else (if (swV kc) = 9 then ((X3_examine_m g m f (gA m (p + 4 + i) 0) N)) else (if (swV kc) = 10 then ((X3_join_m g m f (gA m (p + 4 + i) 0) (gA m (p + 4 + i) 1) (gA m (p + 4 + i) 2) (gA m (p + 4 + i) 3) N)) else (if (swV kc) = 11 then ((X3_throwAway_m g m f (gA m (p + 4 + i) 0) N)) else ((X3_passMinutes_m g m f (gA m (p + 4 + i) 0) N))))))))))))
theorem kK_X8_carryOut (g : mG) (m : mM) (p : Nat) (a : Int32) (f : Nat) (i : Nat) (kc : Nat) (N : Nat) (H : Nat) : gK (X8_carryOut_m g m p a f i kc N H) = gK m := by
  unfold X8_carryOut_m
  repeat' split
  all_goals simp only [mm, kK_X3_changeLevel, kK_X3_chill, kK_X3_examine, kK_X3_intoFurnace, kK_X3_join, kK_X3_newHammer, kK_X3_newPiece, kK_X3_ontoBench, kK_X3_passMinutes, kK_X3_storeCoal, kK_X3_strike, kK_X3_throwAway]
theorem kN_X8_carryOut (g : mG) (m : mM) (p : Nat) (a : Int32) (f : Nat) (i : Nat) (kc : Nat) (N : Nat) (H : Nat) : gN (X8_carryOut_m g m p a f i kc N H) = gN m := by
  unfold X8_carryOut_m
  repeat' split
  all_goals simp only [mm, kN_X3_changeLevel, kN_X3_chill, kN_X3_examine, kN_X3_intoFurnace, kN_X3_join, kN_X3_newHammer, kN_X3_newPiece, kN_X3_ontoBench, kN_X3_passMinutes, kN_X3_storeCoal, kN_X3_strike, kN_X3_throwAway]
theorem kI_X8_carryOut (g : mG) (m : mM) (p : Nat) (a : Int32) (f : Nat) (i : Nat) (kc : Nat) (N : Nat) (H : Nat) (k a9 : Nat) (h0 : k ≠ 163) (h1 : k ≠ 164) (h2 : k ≠ 165) (h3 : k ≠ 166) (h4 : k ≠ 167) (h5 : k ≠ 168) (h6 : k ≠ 169) (h7 : k ≠ 170) (h8 : k ≠ 192) (h9 : k ≠ 193) (h10 : k ≠ 194) (h11 : k ≠ 224) (h12 : k ≠ 225) (h13 : k ≠ 288) (h14 : k ≠ 289) (h15 : k ≠ 290) (h16 : k ≠ 291) (h17 : k ≠ 292) (h18 : k ≠ 293) (h19 : k ≠ 294) : gI (X8_carryOut_m g m p a f i kc N H) k a9 = gI m k a9 := by
  unfold X8_carryOut_m
  repeat' split
  all_goals simp [mm, kI_X3_changeLevel, kI_X3_chill, kI_X3_examine, kI_X3_intoFurnace, kI_X3_join, kI_X3_newHammer, kI_X3_newPiece, kI_X3_ontoBench, kI_X3_passMinutes, kI_X3_storeCoal, kI_X3_strike, kI_X3_throwAway, h0, h1, h2, h3, h4, h5, h6, h7, h8, h9, h10, h11, h12, h13, h14, h15, h16, h17, h18, h19]
theorem kJ_X8_carryOut (g : mG) (m : mM) (p : Nat) (a : Int32) (f : Nat) (i : Nat) (kc : Nat) (N : Nat) (H : Nat) (k a9 : Nat) (h0 : k ≠ 171) (h1 : k ≠ 195) : gJ (X8_carryOut_m g m p a f i kc N H) k a9 = gJ m k a9 := by
  unfold X8_carryOut_m
  repeat' split
  all_goals simp [mm, kJ_X3_changeLevel, kJ_X3_chill, kJ_X3_examine, kJ_X3_intoFurnace, kJ_X3_join, kJ_X3_newHammer, kJ_X3_newPiece, kJ_X3_ontoBench, kJ_X3_passMinutes, kJ_X3_storeCoal, kJ_X3_strike, kJ_X3_throwAway, h0, h1]
theorem kR_X8_carryOut (g : mG) (m : mM) (p : Nat) (a : Int32) (f : Nat) (i : Nat) (kc : Nat) (N : Nat) (H : Nat) (k a9 : Nat) (h0 : k ≠ 295) : gR (X8_carryOut_m g m p a f i kc N H) k a9 = gR m k a9 := by
  unfold X8_carryOut_m
  repeat' split
  all_goals simp [mm, kR_X3_changeLevel, kR_X3_chill, kR_X3_examine, kR_X3_intoFurnace, kR_X3_join, kR_X3_newHammer, kR_X3_newPiece, kR_X3_ontoBench, kR_X3_passMinutes, kR_X3_storeCoal, kR_X3_strike, kR_X3_throwAway, h0]
theorem kA_X8_carryOut (g : mG) (m : mM) (p : Nat) (a : Int32) (f : Nat) (i : Nat) (kc : Nat) (N : Nat) (H : Nat) : gA (X8_carryOut_m g m p a f i kc N H) = gA m := by
  unfold X8_carryOut_m
  repeat' split
  all_goals simp only [mm, kA_X3_changeLevel, kA_X3_chill, kA_X3_examine, kA_X3_intoFurnace, kA_X3_join, kA_X3_newHammer, kA_X3_newPiece, kA_X3_ontoBench, kA_X3_passMinutes, kA_X3_storeCoal, kA_X3_strike, kA_X3_throwAway]
theorem kL_X8_carryOut (g : mG) (m : mM) (p : Nat) (a : Int32) (f : Nat) (i : Nat) (kc : Nat) (N : Nat) (H : Nat) : gL (X8_carryOut_m g m p a f i kc N H) = gL m := by
  unfold X8_carryOut_m
  repeat' split
  all_goals simp only [mm, kL_X3_changeLevel, kL_X3_chill, kL_X3_examine, kL_X3_intoFurnace, kL_X3_join, kL_X3_newHammer, kL_X3_newPiece, kL_X3_ontoBench, kL_X3_passMinutes, kL_X3_storeCoal, kL_X3_strike, kL_X3_throwAway]
theorem kD_X8_carryOut (g : mG) (m : mM) (p : Nat) (a : Int32) (f : Nat) (i : Nat) (kc : Nat) (N : Nat) (H : Nat) : gD (X8_carryOut_m g m p a f i kc N H) = gD m := by
  unfold X8_carryOut_m
  repeat' split
  all_goals simp only [mm, kD_X3_changeLevel, kD_X3_chill, kD_X3_examine, kD_X3_intoFurnace, kD_X3_join, kD_X3_newHammer, kD_X3_newPiece, kD_X3_ontoBench, kD_X3_passMinutes, kD_X3_storeCoal, kD_X3_strike, kD_X3_throwAway]
set_option maxHeartbeats 4000000 in
set_option maxRecDepth 100000 in
theorem c_X8_carryOut {l : Launch} {g : mG} (hO : mO l g) (m : mM) (p : Nat) (a : Int32) (f : Nat) (i : Nat) (kc : Nat) (N : Nat) (H : Nat) (hs : SP m p) (hf : SF m f) (hi : a = nI i) (hi12 : i < 12) (hq : gQ m (p + 2) i = some (cmA g kc)) (hk : kc < 12) (hN : gI m 163 f = nI N) (hN8 : N ≤ 8) (hH : gI m 164 f = nI H) (hH4 : H ≤ 4) : mT l g yX8_carryOut (.code yX8_carryOut cX8_carryOut 4 (Option.some FieldType.int)) 5 104 0 0 [.ref p, .int a, .ref f] m (fun r m' => r = some (.int (X8_carryOut_r g m p a f i kc N H)) ∧ m' = X8_carryOut_m g m p a f i kc N H) nX := by
  refine mT_of hO (by decide) (Nat.le_of_ble_eq_true rfl) (fun x hX hZ => ?_)
  show mV g x m 0 0 0 [(0, .ref p), (1, .int a), (2, .ref f)] []
  refine v_aload_n (pc := 0) hX dX8_carryOut_0 rfl ?_
  refine v_get (v := .ref (p + 3)) (pc := 1) hX dX8_carryOut_1 hs.k (ci := 10) (r := vwC10) rfl 2 (by decide) wd_253 (fvR hs.r2) ?_
  refine v_iload_n (pc := 4) hX dX8_carryOut_4 rfl ?_
  refine v_aaldAR (q := p + 4 + i) (j := i) (pc := 5) hX dX8_carryOut_5 hs.k3 hi hi12 (by decide) (hs.qr hi12) ?_
  refine v_astore_n (pc := 6) hX dX8_carryOut_6 (by decide) rfl ?_
  refine v_gets (v := .ref (swA g)) (pc := 7) hX dX8_carryOut_7 (sw_TZ hO).2 wd_1406 ?_
  refine v_aload_n (pc := 10) hX dX8_carryOut_10 rfl ?_
  refine v_get (v := .ref (p + 2)) (pc := 11) hX dX8_carryOut_11 hs.k (ci := 10) (r := vwC10) rfl 1 (by decide) wd_252 (fvR hs.r1) ?_
  refine v_iload_n (pc := 14) hX dX8_carryOut_14 rfl ?_
  refine v_aaldR (q := cmA g kc) (j := i) (pc := 15) hX dX8_carryOut_15 hs.k2 (by decide) (by decide) hi hi12 (by decide) hq ?_
  refine v_callUO (z := yJx29ce0_ordinal_8abf5) (pc := 16) hX dX8_carryOut_16 (c_Jx29ce0_ordinal_8abf5 hO m (cmA g kc) ((nI kc)) (cm_ord hO kc hk)) (C := "BirdForge$Command") (xm := ⟨"BirdForge$Command", "ordinal", "()I"⟩) (cm_O hO kc hk) wd_1408 wd_1409 wd_1411 wd_1412 wd_5 wd_1413 rfl ⟨by decide, by decide, (by decide +kernel : (parseMethodDescriptor "()I").map (fun d => d.parameters.length) = some 0)⟩ rfl (Nat.le_of_ble_eq_true rfl) ⟨⟨by decide, by decide⟩, by decide, by decide⟩ (fun E m9 h9 => h9.elim) (fun r9 m9 h9 => ?_)
  obtain ⟨rfl, h8⟩ := h9
  replace h8 := h8.symm
  subst h8
  show mV g x _ _ _ _ _ [.int (Jx29ce0_ordinal_8abf5_r g m (cmA g kc) ((nI kc))), .ref (swA g)]
  refine v_tiO (j := kc) (pc := 19) hX dX8_carryOut_19 (sw_TZ hO).1 rfl hk (by decide) ?_
  show mV g x _ _ _ _ _ [.int (swV kc)]
  by_cases c1 : (swV kc) = 1
  ·
    refine v_tsI (off := 60) (tgt := 80) (pc := 20) hX dX8_carryOut_20 (by rw [c1]; decide) (by rw [c1]; decide) (by rw [c1]; rfl) (by decide) ?_
    refine v_aload_n (pc := 80) hX dX8_carryOut_80 rfl ?_
    refine v_aload_n (pc := 81) hX dX8_carryOut_81 rfl ?_
    refine v_iconst (v := 0) (pc := 82) hX dX8_carryOut_82 (by decide) ?_
    refine v_iald (j := 0) (v := gA m (p + 4 + i) 0) (pc := 83) hX dX8_carryOut_83 (hs.kr hi12) (by decide) (by decide) (by decide) rfl ?_
    refine v_callV (z := yX3_storeCoal) (pc := 84) hX dX8_carryOut_84 (c_X3_storeCoal hO m f (gA m (p + 4 + i) 0)  hf) hf.k rfl wd_1414 wd_861 wd_862 wd_2 wd_863 ⟨by decide, by decide, (by decide +kernel : (parseMethodDescriptor yX3_storeCoal.desc).map (fun d => d.parameters.length) = some 1)⟩ rfl (Nat.le_of_ble_eq_true rfl) ⟨⟨by decide, by decide⟩, by decide, by decide⟩ (fun E m9 h9 => h9.elim) (fun r9 m9 h9 => ?_)
    obtain ⟨rfl, h8⟩ := h9
    replace h8 := h8.symm
    subst h8
    show mV g x _ _ _ _ _ [.int (X3_storeCoal_r g m f (gA m (p + 4 + i) 0) )]
    exact v_iret (pc := 87) hX hZ dX8_carryOut_87 (by decide) (by decide) ⟨(by rw [X8_carryOut_r, if_pos c1]), (by rw [X8_carryOut_m, if_pos c1])⟩
  ·
    by_cases c2 : (swV kc) = 2
    ·
      refine v_tsI (off := 68) (tgt := 88) (pc := 20) hX dX8_carryOut_20 (by rw [c2]; decide) (by rw [c2]; decide) (by rw [c2]; rfl) (by decide) ?_
      refine v_aload_n (pc := 88) hX dX8_carryOut_88 rfl ?_
      refine v_aload_n (pc := 89) hX dX8_carryOut_89 rfl ?_
      refine v_iconst (v := 0) (pc := 90) hX dX8_carryOut_90 (by decide) ?_
      refine v_iald (j := 0) (v := gA m (p + 4 + i) 0) (pc := 91) hX dX8_carryOut_91 (hs.kr hi12) (by decide) (by decide) (by decide) rfl ?_
      refine v_callV (z := yX3_changeLevel) (pc := 92) hX dX8_carryOut_92 (c_X3_changeLevel hO m f (gA m (p + 4 + i) 0)  hf) hf.k rfl wd_1415 wd_945 wd_946 wd_2 wd_947 ⟨by decide, by decide, (by decide +kernel : (parseMethodDescriptor yX3_changeLevel.desc).map (fun d => d.parameters.length) = some 1)⟩ rfl (Nat.le_of_ble_eq_true rfl) ⟨⟨by decide, by decide⟩, by decide, by decide⟩ (fun E m9 h9 => h9.elim) (fun r9 m9 h9 => ?_)
      obtain ⟨rfl, h8⟩ := h9
      replace h8 := h8.symm
      subst h8
      show mV g x _ _ _ _ _ [.int (X3_changeLevel_r g m f (gA m (p + 4 + i) 0) )]
      exact v_iret (pc := 95) hX hZ dX8_carryOut_95 (by decide) (by decide) ⟨(by rw [X8_carryOut_r, if_neg c1, if_pos c2]), (by rw [X8_carryOut_m, if_neg c1, if_pos c2])⟩
    ·
      by_cases c3 : (swV kc) = 3
      ·
        refine v_tsI (off := 76) (tgt := 96) (pc := 20) hX dX8_carryOut_20 (by rw [c3]; decide) (by rw [c3]; decide) (by rw [c3]; rfl) (by decide) ?_
        refine v_aload_n (pc := 96) hX dX8_carryOut_96 rfl ?_
        refine v_aload_n (pc := 97) hX dX8_carryOut_97 rfl ?_
        refine v_iconst (v := 0) (pc := 98) hX dX8_carryOut_98 (by decide) ?_
        refine v_iald (j := 0) (v := gA m (p + 4 + i) 0) (pc := 99) hX dX8_carryOut_99 (hs.kr hi12) (by decide) (by decide) (by decide) rfl ?_
        refine v_i2c (v := ((gA m (p + 4 + i) 0).toUInt32 % 65536).toInt32) (pc := 100) hX dX8_carryOut_100 rfl ?_
        refine v_callV (z := yX3_newPiece) (pc := 101) hX dX8_carryOut_101 (c_X3_newPiece hO m f (((gA m (p + 4 + i) 0).toUInt32 % 65536).toInt32) N hf hN hN8) hf.k rfl wd_1416 wd_968 wd_969 wd_2 wd_970 ⟨by decide, by decide, (by decide +kernel : (parseMethodDescriptor yX3_newPiece.desc).map (fun d => d.parameters.length) = some 1)⟩ rfl (Nat.le_of_ble_eq_true rfl) ⟨⟨by decide, by decide⟩, by decide, by decide⟩ (fun E m9 h9 => h9.elim) (fun r9 m9 h9 => ?_)
        obtain ⟨rfl, h8⟩ := h9
        replace h8 := h8.symm
        subst h8
        show mV g x _ _ _ _ _ [.int (X3_newPiece_r g m f (((gA m (p + 4 + i) 0).toUInt32 % 65536).toInt32) N)]
        exact v_iret (pc := 104) hX hZ dX8_carryOut_104 (by decide) (by decide) ⟨(by rw [X8_carryOut_r, if_neg c1, if_neg c2, if_pos c3]), (by rw [X8_carryOut_m, if_neg c1, if_neg c2, if_pos c3])⟩
      ·
        by_cases c4 : (swV kc) = 4
        ·
          refine v_tsI (off := 85) (tgt := 105) (pc := 20) hX dX8_carryOut_20 (by rw [c4]; decide) (by rw [c4]; decide) (by rw [c4]; rfl) (by decide) ?_
          refine v_aload_n (pc := 105) hX dX8_carryOut_105 rfl ?_
          refine v_aload_n (pc := 106) hX dX8_carryOut_106 rfl ?_
          refine v_iconst (v := 0) (pc := 107) hX dX8_carryOut_107 (by decide) ?_
          refine v_iald (j := 0) (v := gA m (p + 4 + i) 0) (pc := 108) hX dX8_carryOut_108 (hs.kr hi12) (by decide) (by decide) (by decide) rfl ?_
          refine v_callV (z := yX3_newHammer) (pc := 109) hX dX8_carryOut_109 (c_X3_newHammer hO m f (gA m (p + 4 + i) 0) H hf hH hH4) hf.k rfl wd_1417 wd_983 wd_984 wd_2 wd_985 ⟨by decide, by decide, (by decide +kernel : (parseMethodDescriptor yX3_newHammer.desc).map (fun d => d.parameters.length) = some 1)⟩ rfl (Nat.le_of_ble_eq_true rfl) ⟨⟨by decide, by decide⟩, by decide, by decide⟩ (fun E m9 h9 => h9.elim) (fun r9 m9 h9 => ?_)
          obtain ⟨rfl, h8⟩ := h9
          replace h8 := h8.symm
          subst h8
          show mV g x _ _ _ _ _ [.int (X3_newHammer_r g m f (gA m (p + 4 + i) 0) H)]
          exact v_iret (pc := 112) hX hZ dX8_carryOut_112 (by decide) (by decide) ⟨(by rw [X8_carryOut_r, if_neg c1, if_neg c2, if_neg c3, if_pos c4]), (by rw [X8_carryOut_m, if_neg c1, if_neg c2, if_neg c3, if_pos c4])⟩
        ·
          by_cases c5 : (swV kc) = 5
          ·
            refine v_tsI (off := 93) (tgt := 113) (pc := 20) hX dX8_carryOut_20 (by rw [c5]; decide) (by rw [c5]; decide) (by rw [c5]; rfl) (by decide) ?_
            refine v_aload_n (pc := 113) hX dX8_carryOut_113 rfl ?_
            refine v_aload_n (pc := 114) hX dX8_carryOut_114 rfl ?_
            refine v_iconst (v := 0) (pc := 115) hX dX8_carryOut_115 (by decide) ?_
            refine v_iald (j := 0) (v := gA m (p + 4 + i) 0) (pc := 116) hX dX8_carryOut_116 (hs.kr hi12) (by decide) (by decide) (by decide) rfl ?_
            refine v_callV (z := yX3_intoFurnace) (pc := 117) hX dX8_carryOut_117 (c_X3_intoFurnace hO m f (gA m (p + 4 + i) 0) N hf hN hN8) hf.k rfl wd_1418 wd_999 wd_1000 wd_2 wd_1001 ⟨by decide, by decide, (by decide +kernel : (parseMethodDescriptor yX3_intoFurnace.desc).map (fun d => d.parameters.length) = some 1)⟩ rfl (Nat.le_of_ble_eq_true rfl) ⟨⟨by decide, by decide⟩, by decide, by decide⟩ (fun E m9 h9 => h9.elim) (fun r9 m9 h9 => ?_)
            obtain ⟨rfl, h8⟩ := h9
            replace h8 := h8.symm
            subst h8
            show mV g x _ _ _ _ _ [.int (X3_intoFurnace_r g m f (gA m (p + 4 + i) 0) N)]
            exact v_iret (pc := 120) hX hZ dX8_carryOut_120 (by decide) (by decide) ⟨(by rw [X8_carryOut_r, if_neg c1, if_neg c2, if_neg c3, if_neg c4, if_pos c5]), (by rw [X8_carryOut_m, if_neg c1, if_neg c2, if_neg c3, if_neg c4, if_pos c5])⟩
          ·
            by_cases c6 : (swV kc) = 6
            ·
              refine v_tsI (off := 101) (tgt := 121) (pc := 20) hX dX8_carryOut_20 (by rw [c6]; decide) (by rw [c6]; decide) (by rw [c6]; rfl) (by decide) ?_
              refine v_aload_n (pc := 121) hX dX8_carryOut_121 rfl ?_
              refine v_aload_n (pc := 122) hX dX8_carryOut_122 rfl ?_
              refine v_iconst (v := 0) (pc := 123) hX dX8_carryOut_123 (by decide) ?_
              refine v_iald (j := 0) (v := gA m (p + 4 + i) 0) (pc := 124) hX dX8_carryOut_124 (hs.kr hi12) (by decide) (by decide) (by decide) rfl ?_
              refine v_callV (z := yX3_ontoBench) (pc := 125) hX dX8_carryOut_125 (c_X3_ontoBench hO m f (gA m (p + 4 + i) 0) N hf hN hN8) hf.k rfl wd_1419 wd_1012 wd_1013 wd_2 wd_1014 ⟨by decide, by decide, (by decide +kernel : (parseMethodDescriptor yX3_ontoBench.desc).map (fun d => d.parameters.length) = some 1)⟩ rfl (Nat.le_of_ble_eq_true rfl) ⟨⟨by decide, by decide⟩, by decide, by decide⟩ (fun E m9 h9 => h9.elim) (fun r9 m9 h9 => ?_)
              obtain ⟨rfl, h8⟩ := h9
              replace h8 := h8.symm
              subst h8
              show mV g x _ _ _ _ _ [.int (X3_ontoBench_r g m f (gA m (p + 4 + i) 0) N)]
              exact v_iret (pc := 128) hX hZ dX8_carryOut_128 (by decide) (by decide) ⟨(by rw [X8_carryOut_r, if_neg c1, if_neg c2, if_neg c3, if_neg c4, if_neg c5, if_pos c6]), (by rw [X8_carryOut_m, if_neg c1, if_neg c2, if_neg c3, if_neg c4, if_neg c5, if_pos c6])⟩
            ·
              by_cases c7 : (swV kc) = 7
              ·
                refine v_tsI (off := 109) (tgt := 129) (pc := 20) hX dX8_carryOut_20 (by rw [c7]; decide) (by rw [c7]; decide) (by rw [c7]; rfl) (by decide) ?_
                refine v_aload_n (pc := 129) hX dX8_carryOut_129 rfl ?_
                refine v_aload_n (pc := 130) hX dX8_carryOut_130 rfl ?_
                refine v_iconst (v := 0) (pc := 131) hX dX8_carryOut_131 (by decide) ?_
                refine v_iald (j := 0) (v := gA m (p + 4 + i) 0) (pc := 132) hX dX8_carryOut_132 (hs.kr hi12) (by decide) (by decide) (by decide) rfl ?_
                refine v_aload_n (pc := 133) hX dX8_carryOut_133 rfl ?_
                refine v_iconst (v := 1) (pc := 134) hX dX8_carryOut_134 (by decide) ?_
                refine v_iald (j := 1) (v := gA m (p + 4 + i) 1) (pc := 135) hX dX8_carryOut_135 (hs.kr hi12) (by decide) (by decide) (by decide) rfl ?_
                refine v_callV (z := yX3_strike) (pc := 136) hX dX8_carryOut_136 (c_X3_strike hO m f (gA m (p + 4 + i) 0) (gA m (p + 4 + i) 1) N H hf hN hN8 hH hH4) hf.k rfl wd_1420 wd_1027 wd_1028 wd_2 wd_1029 ⟨by decide, by decide, (by decide +kernel : (parseMethodDescriptor yX3_strike.desc).map (fun d => d.parameters.length) = some 2)⟩ rfl (Nat.le_of_ble_eq_true rfl) ⟨⟨by decide, by decide⟩, by decide, by decide⟩ (fun E m9 h9 => h9.elim) (fun r9 m9 h9 => ?_)
                obtain ⟨rfl, h8⟩ := h9
                replace h8 := h8.symm
                subst h8
                show mV g x _ _ _ _ _ [.int (X3_strike_r g m f (gA m (p + 4 + i) 0) (gA m (p + 4 + i) 1) N H)]
                exact v_iret (pc := 139) hX hZ dX8_carryOut_139 (by decide) (by decide) ⟨(by rw [X8_carryOut_r, if_neg c1, if_neg c2, if_neg c3, if_neg c4, if_neg c5, if_neg c6, if_pos c7]), (by rw [X8_carryOut_m, if_neg c1, if_neg c2, if_neg c3, if_neg c4, if_neg c5, if_neg c6, if_pos c7])⟩
              ·
                by_cases c8 : (swV kc) = 8
                ·
                  refine v_tsI (off := 120) (tgt := 140) (pc := 20) hX dX8_carryOut_20 (by rw [c8]; decide) (by rw [c8]; decide) (by rw [c8]; rfl) (by decide) ?_
                  refine v_aload_n (pc := 140) hX dX8_carryOut_140 rfl ?_
                  refine v_aload_n (pc := 141) hX dX8_carryOut_141 rfl ?_
                  refine v_iconst (v := 0) (pc := 142) hX dX8_carryOut_142 (by decide) ?_
                  refine v_iald (j := 0) (v := gA m (p + 4 + i) 0) (pc := 143) hX dX8_carryOut_143 (hs.kr hi12) (by decide) (by decide) (by decide) rfl ?_
                  refine v_callV (z := yX3_chill) (pc := 144) hX dX8_carryOut_144 (c_X3_chill hO m f (gA m (p + 4 + i) 0) N hf hN hN8) hf.k rfl wd_1421 wd_1055 wd_1056 wd_2 wd_1057 ⟨by decide, by decide, (by decide +kernel : (parseMethodDescriptor yX3_chill.desc).map (fun d => d.parameters.length) = some 1)⟩ rfl (Nat.le_of_ble_eq_true rfl) ⟨⟨by decide, by decide⟩, by decide, by decide⟩ (fun E m9 h9 => h9.elim) (fun r9 m9 h9 => ?_)
                  obtain ⟨rfl, h8⟩ := h9
                  replace h8 := h8.symm
                  subst h8
                  show mV g x _ _ _ _ _ [.int (X3_chill_r g m f (gA m (p + 4 + i) 0) N)]
                  exact v_iret (pc := 147) hX hZ dX8_carryOut_147 (by decide) (by decide) ⟨(by rw [X8_carryOut_r, if_neg c1, if_neg c2, if_neg c3, if_neg c4, if_neg c5, if_neg c6, if_neg c7, if_pos c8]), (by rw [X8_carryOut_m, if_neg c1, if_neg c2, if_neg c3, if_neg c4, if_neg c5, if_neg c6, if_neg c7, if_pos c8])⟩
                ·
                  by_cases c9 : (swV kc) = 9
                  ·
                    refine v_tsI (off := 128) (tgt := 148) (pc := 20) hX dX8_carryOut_20 (by rw [c9]; decide) (by rw [c9]; decide) (by rw [c9]; rfl) (by decide) ?_
                    refine v_aload_n (pc := 148) hX dX8_carryOut_148 rfl ?_
                    refine v_aload_n (pc := 149) hX dX8_carryOut_149 rfl ?_
                    refine v_iconst (v := 0) (pc := 150) hX dX8_carryOut_150 (by decide) ?_
                    refine v_iald (j := 0) (v := gA m (p + 4 + i) 0) (pc := 151) hX dX8_carryOut_151 (hs.kr hi12) (by decide) (by decide) (by decide) rfl ?_
                    refine v_callV (z := yX3_examine) (pc := 152) hX dX8_carryOut_152 (c_X3_examine hO m f (gA m (p + 4 + i) 0) N hf hN hN8) hf.k rfl wd_1422 wd_1066 wd_1067 wd_2 wd_1068 ⟨by decide, by decide, (by decide +kernel : (parseMethodDescriptor yX3_examine.desc).map (fun d => d.parameters.length) = some 1)⟩ rfl (Nat.le_of_ble_eq_true rfl) ⟨⟨by decide, by decide⟩, by decide, by decide⟩ (fun E m9 h9 => h9.elim) (fun r9 m9 h9 => ?_)
                    obtain ⟨rfl, h8⟩ := h9
                    replace h8 := h8.symm
                    subst h8
                    show mV g x _ _ _ _ _ [.int (X3_examine_r g m f (gA m (p + 4 + i) 0) N)]
                    exact v_iret (pc := 155) hX hZ dX8_carryOut_155 (by decide) (by decide) ⟨(by rw [X8_carryOut_r, if_neg c1, if_neg c2, if_neg c3, if_neg c4, if_neg c5, if_neg c6, if_neg c7, if_neg c8, if_pos c9]), (by rw [X8_carryOut_m, if_neg c1, if_neg c2, if_neg c3, if_neg c4, if_neg c5, if_neg c6, if_neg c7, if_neg c8, if_pos c9])⟩
                  ·
                    by_cases c10 : (swV kc) = 10
                    ·
                      refine v_tsI (off := 136) (tgt := 156) (pc := 20) hX dX8_carryOut_20 (by rw [c10]; decide) (by rw [c10]; decide) (by rw [c10]; rfl) (by decide) ?_
                      refine v_aload_n (pc := 156) hX dX8_carryOut_156 rfl ?_
                      refine v_aload_n (pc := 157) hX dX8_carryOut_157 rfl ?_
                      refine v_iconst (v := 0) (pc := 158) hX dX8_carryOut_158 (by decide) ?_
                      refine v_iald (j := 0) (v := gA m (p + 4 + i) 0) (pc := 159) hX dX8_carryOut_159 (hs.kr hi12) (by decide) (by decide) (by decide) rfl ?_
                      refine v_aload_n (pc := 160) hX dX8_carryOut_160 rfl ?_
                      refine v_iconst (v := 1) (pc := 161) hX dX8_carryOut_161 (by decide) ?_
                      refine v_iald (j := 1) (v := gA m (p + 4 + i) 1) (pc := 162) hX dX8_carryOut_162 (hs.kr hi12) (by decide) (by decide) (by decide) rfl ?_
                      refine v_aload_n (pc := 163) hX dX8_carryOut_163 rfl ?_
                      refine v_iconst (v := 2) (pc := 164) hX dX8_carryOut_164 (by decide) ?_
                      refine v_iald (j := 2) (v := gA m (p + 4 + i) 2) (pc := 165) hX dX8_carryOut_165 (hs.kr hi12) (by decide) (by decide) (by decide) rfl ?_
                      refine v_aload_n (pc := 166) hX dX8_carryOut_166 rfl ?_
                      refine v_iconst (v := 3) (pc := 167) hX dX8_carryOut_167 (by decide) ?_
                      refine v_iald (j := 3) (v := gA m (p + 4 + i) 3) (pc := 168) hX dX8_carryOut_168 (hs.kr hi12) (by decide) (by decide) (by decide) rfl ?_
                      refine v_callV (z := yX3_join) (pc := 169) hX dX8_carryOut_169 (c_X3_join hO m f (gA m (p + 4 + i) 0) (gA m (p + 4 + i) 1) (gA m (p + 4 + i) 2) (gA m (p + 4 + i) 3) N hf hN hN8) hf.k rfl wd_1423 wd_1085 wd_1086 wd_2 wd_1087 ⟨by decide, by decide, (by decide +kernel : (parseMethodDescriptor yX3_join.desc).map (fun d => d.parameters.length) = some 4)⟩ rfl (Nat.le_of_ble_eq_true rfl) ⟨⟨by decide, by decide⟩, by decide, by decide⟩ (fun E m9 h9 => h9.elim) (fun r9 m9 h9 => ?_)
                      obtain ⟨rfl, h8⟩ := h9
                      replace h8 := h8.symm
                      subst h8
                      show mV g x _ _ _ _ _ [.int (X3_join_r g m f (gA m (p + 4 + i) 0) (gA m (p + 4 + i) 1) (gA m (p + 4 + i) 2) (gA m (p + 4 + i) 3) N)]
                      exact v_iret (pc := 172) hX hZ dX8_carryOut_172 (by decide) (by decide) ⟨(by rw [X8_carryOut_r, if_neg c1, if_neg c2, if_neg c3, if_neg c4, if_neg c5, if_neg c6, if_neg c7, if_neg c8, if_neg c9, if_pos c10]), (by rw [X8_carryOut_m, if_neg c1, if_neg c2, if_neg c3, if_neg c4, if_neg c5, if_neg c6, if_neg c7, if_neg c8, if_neg c9, if_pos c10])⟩
                    ·
                      by_cases c11 : (swV kc) = 11
                      ·
                        refine v_tsI (off := 153) (tgt := 173) (pc := 20) hX dX8_carryOut_20 (by rw [c11]; decide) (by rw [c11]; decide) (by rw [c11]; rfl) (by decide) ?_
                        refine v_aload_n (pc := 173) hX dX8_carryOut_173 rfl ?_
                        refine v_aload_n (pc := 174) hX dX8_carryOut_174 rfl ?_
                        refine v_iconst (v := 0) (pc := 175) hX dX8_carryOut_175 (by decide) ?_
                        refine v_iald (j := 0) (v := gA m (p + 4 + i) 0) (pc := 176) hX dX8_carryOut_176 (hs.kr hi12) (by decide) (by decide) (by decide) rfl ?_
                        refine v_callV (z := yX3_throwAway) (pc := 177) hX dX8_carryOut_177 (c_X3_throwAway hO m f (gA m (p + 4 + i) 0) N hf hN hN8) hf.k rfl wd_1424 wd_1105 wd_1106 wd_2 wd_1107 ⟨by decide, by decide, (by decide +kernel : (parseMethodDescriptor yX3_throwAway.desc).map (fun d => d.parameters.length) = some 1)⟩ rfl (Nat.le_of_ble_eq_true rfl) ⟨⟨by decide, by decide⟩, by decide, by decide⟩ (fun E m9 h9 => h9.elim) (fun r9 m9 h9 => ?_)
                        obtain ⟨rfl, h8⟩ := h9
                        replace h8 := h8.symm
                        subst h8
                        show mV g x _ _ _ _ _ [.int (X3_throwAway_r g m f (gA m (p + 4 + i) 0) N)]
                        exact v_iret (pc := 180) hX hZ dX8_carryOut_180 (by decide) (by decide) ⟨(by rw [X8_carryOut_r, if_neg c1, if_neg c2, if_neg c3, if_neg c4, if_neg c5, if_neg c6, if_neg c7, if_neg c8, if_neg c9, if_neg c10, if_pos c11]), (by rw [X8_carryOut_m, if_neg c1, if_neg c2, if_neg c3, if_neg c4, if_neg c5, if_neg c6, if_neg c7, if_neg c8, if_neg c9, if_neg c10, if_pos c11])⟩
                      ·
                        refine v_tsO (tgt := 181) (pc := 20) hX dX8_carryOut_20 (by have e0 := ts_ne c1 (show (1 : Int32).toInt = 1 by decide); have e1 := ts_ne c2 (show (2 : Int32).toInt = 2 by decide); have e2 := ts_ne c3 (show (3 : Int32).toInt = 3 by decide); have e3 := ts_ne c4 (show (4 : Int32).toInt = 4 by decide); have e4 := ts_ne c5 (show (5 : Int32).toInt = 5 by decide); have e5 := ts_ne c6 (show (6 : Int32).toInt = 6 by decide); have e6 := ts_ne c7 (show (7 : Int32).toInt = 7 by decide); have e7 := ts_ne c8 (show (8 : Int32).toInt = 8 by decide); have e8 := ts_ne c9 (show (9 : Int32).toInt = 9 by decide); have e9 := ts_ne c10 (show (10 : Int32).toInt = 10 by decide); have e10 := ts_ne c11 (show (11 : Int32).toInt = 11 by decide); omega) (by decide) ?_
                        refine v_aload_n (pc := 181) hX dX8_carryOut_181 rfl ?_
                        refine v_aload_n (pc := 182) hX dX8_carryOut_182 rfl ?_
                        refine v_iconst (v := 0) (pc := 183) hX dX8_carryOut_183 (by decide) ?_
                        refine v_iald (j := 0) (v := gA m (p + 4 + i) 0) (pc := 184) hX dX8_carryOut_184 (hs.kr hi12) (by decide) (by decide) (by decide) rfl ?_
                        refine v_callV (z := yX3_passMinutes) (pc := 185) hX dX8_carryOut_185 (c_X3_passMinutes hO m f (gA m (p + 4 + i) 0) N hf hN hN8) hf.k rfl wd_1425 wd_956 wd_957 wd_2 wd_958 ⟨by decide, by decide, (by decide +kernel : (parseMethodDescriptor yX3_passMinutes.desc).map (fun d => d.parameters.length) = some 1)⟩ rfl (Nat.le_of_ble_eq_true rfl) ⟨⟨by decide, by decide⟩, by decide, by decide⟩ (fun E m9 h9 => h9.elim) (fun r9 m9 h9 => ?_)
                        obtain ⟨rfl, h8⟩ := h9
                        replace h8 := h8.symm
                        subst h8
                        show mV g x _ _ _ _ _ [.int (X3_passMinutes_r g m f (gA m (p + 4 + i) 0) N)]
                        exact v_iret (pc := 188) hX hZ dX8_carryOut_188 (by decide) (by decide) ⟨(by rw [X8_carryOut_r, if_neg c1, if_neg c2, if_neg c3, if_neg c4, if_neg c5, if_neg c6, if_neg c7, if_neg c8, if_neg c9, if_neg c10, if_neg c11]), (by rw [X8_carryOut_m, if_neg c1, if_neg c2, if_neg c3, if_neg c4, if_neg c5, if_neg c6, if_neg c7, if_neg c8, if_neg c9, if_neg c10, if_neg c11])⟩
theorem fr_X8_carryOut {g : mG} {m : mM} {p f i k N H : Nat} {a : Int32} (hs : SF m f) (hN8 : N ≤ 8) (hH4 : H ≤ 4) : Fr f (f + 16) m (X8_carryOut_m g m p a f i k N H) := by
  unfold X8_carryOut_m
  repeat' split
  all_goals first
    | exact fr_X3_storeCoal _ _ _ _ hs 
    | exact fr_X3_changeLevel _ _ _ _ hs 
    | exact fr_X3_newPiece _ _ _ _ _ hs hN8
    | exact fr_X3_newHammer _ _ _ _ _ hs hH4
    | exact fr_X3_intoFurnace _ _ _ _ _ hs hN8
    | exact fr_X3_ontoBench _ _ _ _ _ hs hN8
    | exact fr_X3_strike _ _ _ _ _ _ _ hs hN8 hH4
    | exact fr_X3_chill _ _ _ _ _ hs hN8
    | exact fr_X3_examine _ _ _ _ _ hs hN8
    | exact fr_X3_join _ _ _ _ _ _ _ _ hs hN8
    | exact fr_X3_throwAway _ _ _ _ _ hs hN8
    | exact fr_X3_passMinutes _ _ _ _ _ hs hN8
theorem SF_carryOut {g : mG} {m : mM} {p f i k N H : Nat} {a : Int32} (hs : SF m f) (hN8 : N ≤ 8) : SF (X8_carryOut_m g m p a f i k N H) f := by
  unfold X8_carryOut_m
  repeat' split
  all_goals first
    | exact SF_join hs hN8
    | exact SF_throwAway hs hN8
    | exact hs.to (by simp only [kK_X3_storeCoal]) (by simp [kR_X3_storeCoal]) (by simp [kR_X3_storeCoal]) (by simp [kR_X3_storeCoal]) (by simp only [kQ_X3_storeCoal])
    | exact hs.to (by simp only [kK_X3_changeLevel]) (by simp [kR_X3_changeLevel]) (by simp [kR_X3_changeLevel]) (by simp [kR_X3_changeLevel]) (by simp only [kQ_X3_changeLevel])
    | exact hs.to (by simp only [kK_X3_newPiece]) (by simp [kR_X3_newPiece]) (by simp [kR_X3_newPiece]) (by simp [kR_X3_newPiece]) (by simp only [kQ_X3_newPiece])
    | exact hs.to (by simp only [kK_X3_newHammer]) (by simp [kR_X3_newHammer]) (by simp [kR_X3_newHammer]) (by simp [kR_X3_newHammer]) (by simp only [kQ_X3_newHammer])
    | exact hs.to (by simp only [kK_X3_intoFurnace]) (by simp [kR_X3_intoFurnace]) (by simp [kR_X3_intoFurnace]) (by simp [kR_X3_intoFurnace]) (by simp only [kQ_X3_intoFurnace])
    | exact hs.to (by simp only [kK_X3_ontoBench]) (by simp [kR_X3_ontoBench]) (by simp [kR_X3_ontoBench]) (by simp [kR_X3_ontoBench]) (by simp only [kQ_X3_ontoBench])
    | exact hs.to (by simp only [kK_X3_strike]) (by simp [kR_X3_strike]) (by simp [kR_X3_strike]) (by simp [kR_X3_strike]) (by simp only [kQ_X3_strike])
    | exact hs.to (by simp only [kK_X3_chill]) (by simp [kR_X3_chill]) (by simp [kR_X3_chill]) (by simp [kR_X3_chill]) (by simp only [kQ_X3_chill])
    | exact hs.to (by simp only [kK_X3_examine]) (by simp [kR_X3_examine]) (by simp [kR_X3_examine]) (by simp [kR_X3_examine]) (by simp only [kQ_X3_examine])
    | exact hs.to (by simp only [kK_X3_passMinutes]) (by simp [kR_X3_passMinutes]) (by simp [kR_X3_passMinutes]) (by simp [kR_X3_passMinutes]) (by simp only [kQ_X3_passMinutes])
theorem okI_of {x : Int32} {n B : Nat} (h : x = nI n) (hn : n ≤ B) (hB : B < 2 ^ 31) : okI x B := by
  rw [h]
  exact okI_nI hn hB
theorem N_newPiece {g : mG} {m : mM} {f N : Nat} {a : Int32} (hs : SF m f) (hN : gI m 163 f = nI N) (hN8 : N ≤ 8) : okI (gI (X3_newPiece_m g m f a N) 163 f) 8 := by
  have h0 := okI_of hN hN8 (by decide)
  unfold X3_newPiece_m
  repeat' split
  all_goals first
    | exact h0
    | (rename_i c
       have hlt : N < 8 := by first | exact n8_lt' c hN8 | (have := n8_lt (by assumption) hN8; exact this)
       simp [mm, kI_X7_begin, hN]
       first | exact okI_of (nI_1 N) (by omega) (by decide) | exact okI_of rfl (by omega) (by decide))
theorem H_newHammer {g : mG} {m : mM} {f H : Nat} {a : Int32} (hs : SF m f) (hH : gI m 164 f = nI H) (hH4 : H ≤ 4) : okI (gI (X3_newHammer_m g m f a H) 164 f) 4 := by
  have h0 := okI_of hH hH4 (by decide)
  unfold X3_newHammer_m
  repeat' split
  all_goals first
    | exact h0
    | (rename_i c
       have hlt : H < 4 := n4_lt' c hH4
       simp [mm, kI_X5_begin, hH]
       first | exact okI_of (nI_1 H) (by omega) (by decide) | exact okI_of rfl (by omega) (by decide))
theorem N_throwAway {g : mG} {m : mM} {f N : Nat} {a : Int32} (hs : SF m f) (hN : gI m 163 f = nI N) (hN8 : N ≤ 8) : okI (gI (X3_throwAway_m g m f a N) 163 f) 8 := by
  have h0 := okI_of hN hN8 (by decide)
  unfold X3_throwAway_m
  split
  · exact h0
  · exact rem_N hs hN8
theorem N_join {g : mG} {m : mM} {f : Nat} {a b c d : Int32} {N : Nat} (hs : SF m f) (hN : gI m 163 f = nI N) (hN8 : N ≤ 8) : okI (gI (X3_join_m g m f a b c d N) 163 f) 8 := by
  have h0 := okI_of hN hN8 (by decide)
  unfold X3_join_m
  repeat' split
  all_goals first | with_reducible exact h0 | skip
  have s1 := SF_remove (g := g) (a := a) hs hN8
  have q1 := rem_N (g := g) (a := a) hs hN8
  have n1 := q1.2
  generalize X3_remove_m g m f a (N) = m1 at *
  have s2 := SF_remove (g := g) (a := b) s1 n1
  have q2 := rem_N (g := g) (a := b) s1 n1
  have n2 := q2.2
  generalize X3_remove_m g m1 f b ((gI m1 163 f).toNatClampNeg) = m2 at *
  have s3 := SF_remove (g := g) (a := c) s2 n2
  have q3 := rem_N (g := g) (a := c) s2 n2
  have n3 := q3.2
  generalize X3_remove_m g m2 f c ((gI m2 163 f).toNatClampNeg) = m3 at *
  have s4 := SF_remove (g := g) (a := d) s3 n3
  have q4 := rem_N (g := g) (a := d) s3 n3
  have n4 := q4.2
  generalize X3_remove_m g m3 f d ((gI m3 163 f).toNatClampNeg) = m4 at *
  simp [mm]
  exact q4
theorem N_carryOut {g : mG} {m : mM} {p f i k N H : Nat} {a : Int32} (hs : SF m f) (hN : gI m 163 f = nI N) (hN8 : N ≤ 8) : okI (gI (X8_carryOut_m g m p a f i k N H) 163 f) 8 := by
  have h0 := okI_of hN hN8 (by decide)
  unfold X8_carryOut_m
  repeat' split
  all_goals first
    | exact N_join hs hN hN8
    | exact N_throwAway hs hN hN8
    | exact N_newPiece hs hN hN8
    | (rw [kI_X3_storeCoal _ _ _ _ _ _ (by decide) ]; exact h0)
    | (rw [kI_X3_changeLevel _ _ _ _ _ _ (by decide) ]; exact h0)
    | (rw [kI_X3_newHammer _ _ _ _ _ _ _ (by decide) (by decide) (by decide) ]; exact h0)
    | (rw [kI_X3_intoFurnace _ _ _ _ _ _ _ (by decide) ]; exact h0)
    | (rw [kI_X3_ontoBench _ _ _ _ _ _ _ (by decide) ]; exact h0)
    | (rw [kI_X3_strike _ _ _ _ _ _ _ _ _ (by decide) (by decide) (by decide) (by decide) ]; exact h0)
    | (rw [kI_X3_chill _ _ _ _ _ _ _ (by decide) (by decide) (by decide) ]; exact h0)
    | (rw [kI_X3_examine _ _ _ _ _ _ _ (by decide) (by decide) ]; exact h0)
    | (rw [kI_X3_passMinutes _ _ _ _ _ _ _ (by decide) (by decide) (by decide) (by decide) (by decide) (by decide) (by decide) ]; exact h0)
theorem H_carryOut {g : mG} {m : mM} {p f i k N H : Nat} {a : Int32} (hs : SF m f) (hH : gI m 164 f = nI H) (hH4 : H ≤ 4) : okI (gI (X8_carryOut_m g m p a f i k N H) 164 f) 4 := by
  have h0 := okI_of hH hH4 (by decide)
  unfold X8_carryOut_m
  repeat' split
  all_goals first
    | exact H_newHammer hs hH hH4
    | (rw [kI_X3_storeCoal _ _ _ _ _ _ (by decide) ]; exact h0)
    | (rw [kI_X3_changeLevel _ _ _ _ _ _ (by decide) ]; exact h0)
    | (rw [kI_X3_newPiece _ _ _ _ _ _ _ (by decide) (by decide) (by decide) (by decide) (by decide) (by decide) (by decide) (by decide) (by decide) ]; exact h0)
    | (rw [kI_X3_intoFurnace _ _ _ _ _ _ _ (by decide) ]; exact h0)
    | (rw [kI_X3_ontoBench _ _ _ _ _ _ _ (by decide) ]; exact h0)
    | (rw [kI_X3_strike _ _ _ _ _ _ _ _ _ (by decide) (by decide) (by decide) (by decide) ]; exact h0)
    | (rw [kI_X3_chill _ _ _ _ _ _ _ (by decide) (by decide) (by decide) ]; exact h0)
    | (rw [kI_X3_examine _ _ _ _ _ _ _ (by decide) (by decide) ]; exact h0)
    | (rw [kI_X3_passMinutes _ _ _ _ _ _ _ (by decide) (by decide) (by decide) (by decide) (by decide) (by decide) (by decide) ]; exact h0)
    | (rw [kI_X3_join _ _ _ _ _ _ _ _ _ _ (by decide) (by decide) ]; exact h0)
    | (rw [kI_X3_throwAway _ _ _ _ _ _ _ (by decide) ]; exact h0)
