/-! THE LAW'S CALLS (6) -/
set_option maxHeartbeats 4000000 in
theorem lwc_45 {l : Launch} {g : mG} {x : mCx} {nm : String} {m : mM} {sc b r o d T ce sl j L : Nat} {xs : Nat → Int32} (hO : mO l g) (hd : VD g) (hcm : ∀ j, j < 12 → cmI g (cmA g j) = j) (hX : mX l g x cL_law (yLw nm) room_1 9) (hs : oT g .int sc L (fun i => .int (xs i))) (hw : OBJ g m m b r T) (hp : PL m b r o d) (hT : T + 12 ≤ 9000) (hj : 5 * j + 5 ≤ L) (hL : L ≤ 2560) (hce : ce + 24 ≤ 613022) (hsl : sl + 6000 ≤ 7185358) (k : ∀ (R : mM) (T1 : Nat), OBJ g R R b r T1 → PL R b r o d → T1 ≤ T + 12 → mV g x R (ce + 24) (sl + 6000) 2680 [(5, .int (nI (5 * j))), (4, .ref d), (3, .ref o), (2, .ref r), (1, .ref b), (0, .ref sc)] []) : mV g x m ce sl 2388 [(5, .int (nI (5 * j))), (4, .ref d), (3, .ref o), (2, .ref r), (1, .ref b), (0, .ref sc)] [] := by
  obtain ⟨N, H, nx, C, v⟩ := VW.of hw
  have hc : ∀ mr, VW g m mr b r T N H nx C → CL g b r o d T m mr m (X11_errorPosition_m g mr r) [("java/util/NoSuchElementException", 1)] (X10_errorPosition_x g m b) (X10_errorPosition_r g m b = X11_errorPosition_r g mr r) := fun mr v => (q_errorPosition v.1).toCL hp
  have c0 := hc m v
  refine v_aload_n (pc := 2388) hX dL_law_2388 rfl ?_
  refine v_aload_n (pc := 2389) hX dL_law_2389 rfl ?_
  refine v_callSX (z := yL_errorPosition) (pc := 2390) hX dL_law_2390 (c_L_errorPosition hO m b o v.sb hp.2.2.2.1 c0.e1) wd_1427 wd_1428 wd_0 wd_1429 ⟨by decide, by decide, (by decide +kernel : (parseMethodDescriptor yL_errorPosition.desc).map (fun d => d.parameters.length) = some 2)⟩ rfl (Nat.le_of_ble_eq_true rfl) ⟨⟨Nat.le_of_ble_eq_true rfl, Nat.le_of_ble_eq_true rfl⟩, (by show ce + 1 ≤ 613022; omega), (by show sl + 6 ≤ 7185358; omega)⟩ (fun E9 m9 h9 => h9.elim) (fun u9 m9 h9 => ?_)
  obtain ⟨kk, rfl, wk⟩ := wkL h9
  clear h9
  have v9 := v.toR (c0.keep (q := o) hp (by have := hp.2.1; have := hp.2.2.1; omega) wk.1 wk.2.1)
  have c9 := hc m9 v9
  clear hc c0
  show mV g x m9 _ _ _ _ [.int kk]
  refine v_istore (pc := 2393) hX dL_law_2393 (by decide) rfl ?_
  refine v_aload_n (pc := 2395) hX dL_law_2395 rfl ?_
  refine v_callV (z := yX11_errorPosition) (pc := 2396) hX dL_law_2396 (c_X11_errorPosition hO m9 r v9.sr) v9.sr.1 rfl wd_1921 wd_1922 wd_1923 wd_16 wd_1924 ⟨by decide, by decide, (by decide +kernel : (parseMethodDescriptor yX11_errorPosition.desc).map (fun d => d.parameters.length) = some 0)⟩ rfl (Nat.le_of_ble_eq_true rfl) ⟨⟨Nat.le_of_ble_eq_true rfl, Nat.le_of_ble_eq_true rfl⟩, (by show ce + 1 + 0 ≤ 613022; omega), (by show sl + 6 + 0 ≤ 7185358; omega)⟩ (fun E9 m8 h9 => h9.elim) (fun u8 R h9 => ?_)
  obtain ⟨rfl, h7⟩ := h9
  rw [← h7] at c9
  generalize (X11_errorPosition_r g m9 r) = yv at c9 ⊢
  show mV g x R _ _ _ _ [.int yv]
  obtain ⟨w1, w2, wl, wd⟩ := c9.next (q := o) hp v9.sr (by first | exact Or.inl rfl | exact Or.inr rfl) wk.1 wk.2.1
  obtain ⟨w3, w4⟩ := c9.out wk (by decide)
  clear c9
  refine v_istore (pc := 2399) hX dL_law_2399 (by decide) rfl ?_
  refine v_aload_n (pc := 2401) hX dL_law_2401 rfl ?_
  refine v_callV (z := yX11_thrown) (pc := 2402) hX dL_law_2402 (c_X11_thrown hO R r w1.2.2.2.1) w1.2.2.2.1.1 rfl wd_1573 wd_1574 wd_1575 wd_16 wd_1576 ⟨by decide, by decide, (by decide +kernel : (parseMethodDescriptor yX11_thrown.desc).map (fun d => d.parameters.length) = some 0)⟩ rfl (Nat.le_of_ble_eq_true rfl) ⟨⟨Nat.le_of_ble_eq_true rfl, Nat.le_of_ble_eq_true rfl⟩, (by show ce + 1 + 0 + 0 ≤ 613022; omega), (by show sl + 6 + 0 + 0 ≤ 7185358; omega)⟩ (fun E9 m8 h9 => h9.elim) (fun u8 m8 h9 => ?_)
  obtain ⟨rfl, h6⟩ := h9
  replace h6 := h6.symm
  subst h6
  rw [show X11_thrown_r g R r = kk from w3]
  show mV g x R _ _ _ _ [.int kk]
  refine v_iload (pc := 2405) hX dL_law_2405 rfl ?_
  refine v_icmp_eq (tgt := 2412) (pc := 2407) hX dL_law_2407 (by decide) (fun _ => ?_) (fun c => absurd rfl c)
  refine v_iload (pc := 2412) hX dL_law_2412 rfl ?_
  refine v_if_ne (tgt := 2429) (pc := 2414) hX dL_law_2414 (by decide) (fun _ => ?_) (fun c1 => ?_)
  ·
    refine v_goto (tgt := 2680) (pc := 2429) hX dL_law_2429 (by decide) ?_
    refine mV_sub (lv' := [(5, .int (nI (5 * j))), (4, .ref d), (3, .ref o), (2, .ref r), (1, .ref b), (0, .ref sc)]) ⟨rfl, rfl, rfl, rfl, rfl, rfl, trivial⟩ ?_
    refine mV_widen (ce' := ce + 24) (sl' := sl + 6000) (by omega) (by omega) ?_
    exact k _ _ w1 w2 (by omega)
  ·
    obtain ⟨wa, wb⟩ := w4 c1
    have hv : gL R o 0 = yv.toInt64 := by rw [wl, wa, wb]
    refine v_aload_n (pc := 2417) hX dL_law_2417 rfl ?_
    refine v_iconst (v := 0) (pc := 2418) hX dL_law_2418 (by decide) ?_
    refine v_lald (pc := 2419) hX dL_law_2419 w2.2.2.2.1 (j := 0) rfl (by decide) (by decide) hv ?_
    refine v_iload (pc := 2420) hX dL_law_2420 rfl ?_
    refine v_i2l (pc := 2422) hX dL_law_2422 ?_
    refine v_lcmp (pc := 2423) hX dL_law_2423 ?_
    refine v_if_eq (tgt := 2429) (pc := 2424) hX dL_law_2424 (by decide) (fun _ => ?_) (fun c => absurd (lg_self _) c)
    refine v_goto (tgt := 2680) (pc := 2429) hX dL_law_2429 (by decide) ?_
    refine mV_sub (lv' := [(5, .int (nI (5 * j))), (4, .ref d), (3, .ref o), (2, .ref r), (1, .ref b), (0, .ref sc)]) ⟨rfl, rfl, rfl, rfl, rfl, rfl, trivial⟩ ?_
    refine mV_widen (ce' := ce + 24) (sl' := sl + 6000) (by omega) (by omega) ?_
    exact k _ _ w1 w2 (by omega)
set_option maxHeartbeats 4000000 in
theorem lwc_46 {l : Launch} {g : mG} {x : mCx} {nm : String} {m : mM} {sc b r o d T ce sl j L : Nat} {xs : Nat → Int32} (hO : mO l g) (hd : VD g) (hcm : ∀ j, j < 12 → cmI g (cmA g j) = j) (hX : mX l g x cL_law (yLw nm) room_1 9) (hs : oT g .int sc L (fun i => .int (xs i))) (hw : OBJ g m m b r T) (hp : PL m b r o d) (hT : T + 12 ≤ 9000) (hj : 5 * j + 5 ≤ L) (hL : L ≤ 2560) (hce : ce + 24 ≤ 613022) (hsl : sl + 6000 ≤ 7185358) (k : ∀ (R : mM) (T1 : Nat), OBJ g R R b r T1 → PL R b r o d → T1 ≤ T + 12 → mV g x R (ce + 24) (sl + 6000) 2680 [(5, .int (nI (5 * j))), (4, .ref d), (3, .ref o), (2, .ref r), (1, .ref b), (0, .ref sc)] []) : mV g x m ce sl 2432 [(5, .int (nI (5 * j))), (4, .ref d), (3, .ref o), (2, .ref r), (1, .ref b), (0, .ref sc)] [] := by
  obtain ⟨N, H, nx, C, v⟩ := VW.of hw
  have hc : ∀ mr, VW g m mr b r T N H nx C → CL g b r o d T m mr m (X11_failedCommand_m g mr r) [("java/util/NoSuchElementException", 1)] (X10_failedCommand_x g m b) (X10_failedCommand_r g m b = X11_failedCommand_r g mr r) := fun mr v => (q_failedCommand v.1).toCL hp
  have c0 := hc m v
  refine v_aload_n (pc := 2432) hX dL_law_2432 rfl ?_
  refine v_aload_n (pc := 2433) hX dL_law_2433 rfl ?_
  refine v_callSX (z := yL_failedCommand) (pc := 2434) hX dL_law_2434 (c_L_failedCommand hO m b o v.sb hp.2.2.2.1 c0.e1) wd_1435 wd_1436 wd_0 wd_1437 ⟨by decide, by decide, (by decide +kernel : (parseMethodDescriptor yL_failedCommand.desc).map (fun d => d.parameters.length) = some 2)⟩ rfl (Nat.le_of_ble_eq_true rfl) ⟨⟨Nat.le_of_ble_eq_true rfl, Nat.le_of_ble_eq_true rfl⟩, (by show ce + 1 ≤ 613022; omega), (by show sl + 6 ≤ 7185358; omega)⟩ (fun E9 m9 h9 => h9.elim) (fun u9 m9 h9 => ?_)
  obtain ⟨kk, rfl, wk⟩ := wkL h9
  clear h9
  have v9 := v.toR (c0.keep (q := o) hp (by have := hp.2.1; have := hp.2.2.1; omega) wk.1 wk.2.1)
  have c9 := hc m9 v9
  clear hc c0
  show mV g x m9 _ _ _ _ [.int kk]
  refine v_istore (pc := 2437) hX dL_law_2437 (by decide) rfl ?_
  refine v_aload_n (pc := 2439) hX dL_law_2439 rfl ?_
  refine v_callV (z := yX11_failedCommand) (pc := 2440) hX dL_law_2440 (c_X11_failedCommand hO m9 r v9.sr) v9.sr.1 rfl wd_1925 wd_1926 wd_1927 wd_16 wd_1928 ⟨by decide, by decide, (by decide +kernel : (parseMethodDescriptor yX11_failedCommand.desc).map (fun d => d.parameters.length) = some 0)⟩ rfl (Nat.le_of_ble_eq_true rfl) ⟨⟨Nat.le_of_ble_eq_true rfl, Nat.le_of_ble_eq_true rfl⟩, (by show ce + 1 + 0 ≤ 613022; omega), (by show sl + 6 + 0 ≤ 7185358; omega)⟩ (fun E9 m8 h9 => h9.elim) (fun u8 R h9 => ?_)
  obtain ⟨rfl, h7⟩ := h9
  rw [← h7] at c9
  generalize (X11_failedCommand_r g m9 r) = yv at c9 ⊢
  show mV g x R _ _ _ _ [.int yv]
  obtain ⟨w1, w2, wl, wd⟩ := c9.next (q := o) hp v9.sr (by first | exact Or.inl rfl | exact Or.inr rfl) wk.1 wk.2.1
  obtain ⟨w3, w4⟩ := c9.out wk (by decide)
  clear c9
  refine v_istore (pc := 2443) hX dL_law_2443 (by decide) rfl ?_
  refine v_aload_n (pc := 2445) hX dL_law_2445 rfl ?_
  refine v_callV (z := yX11_thrown) (pc := 2446) hX dL_law_2446 (c_X11_thrown hO R r w1.2.2.2.1) w1.2.2.2.1.1 rfl wd_1573 wd_1574 wd_1575 wd_16 wd_1576 ⟨by decide, by decide, (by decide +kernel : (parseMethodDescriptor yX11_thrown.desc).map (fun d => d.parameters.length) = some 0)⟩ rfl (Nat.le_of_ble_eq_true rfl) ⟨⟨Nat.le_of_ble_eq_true rfl, Nat.le_of_ble_eq_true rfl⟩, (by show ce + 1 + 0 + 0 ≤ 613022; omega), (by show sl + 6 + 0 + 0 ≤ 7185358; omega)⟩ (fun E9 m8 h9 => h9.elim) (fun u8 m8 h9 => ?_)
  obtain ⟨rfl, h6⟩ := h9
  replace h6 := h6.symm
  subst h6
  rw [show X11_thrown_r g R r = kk from w3]
  show mV g x R _ _ _ _ [.int kk]
  refine v_iload (pc := 2449) hX dL_law_2449 rfl ?_
  refine v_icmp_eq (tgt := 2456) (pc := 2451) hX dL_law_2451 (by decide) (fun _ => ?_) (fun c => absurd rfl c)
  refine v_iload (pc := 2456) hX dL_law_2456 rfl ?_
  refine v_if_ne (tgt := 2473) (pc := 2458) hX dL_law_2458 (by decide) (fun _ => ?_) (fun c1 => ?_)
  ·
    refine v_goto (tgt := 2680) (pc := 2473) hX dL_law_2473 (by decide) ?_
    refine mV_sub (lv' := [(5, .int (nI (5 * j))), (4, .ref d), (3, .ref o), (2, .ref r), (1, .ref b), (0, .ref sc)]) ⟨rfl, rfl, rfl, rfl, rfl, rfl, trivial⟩ ?_
    refine mV_widen (ce' := ce + 24) (sl' := sl + 6000) (by omega) (by omega) ?_
    exact k _ _ w1 w2 (by omega)
  ·
    obtain ⟨wa, wb⟩ := w4 c1
    have hv : gL R o 0 = yv.toInt64 := by rw [wl, wa, wb]
    refine v_aload_n (pc := 2461) hX dL_law_2461 rfl ?_
    refine v_iconst (v := 0) (pc := 2462) hX dL_law_2462 (by decide) ?_
    refine v_lald (pc := 2463) hX dL_law_2463 w2.2.2.2.1 (j := 0) rfl (by decide) (by decide) hv ?_
    refine v_iload (pc := 2464) hX dL_law_2464 rfl ?_
    refine v_i2l (pc := 2466) hX dL_law_2466 ?_
    refine v_lcmp (pc := 2467) hX dL_law_2467 ?_
    refine v_if_eq (tgt := 2473) (pc := 2468) hX dL_law_2468 (by decide) (fun _ => ?_) (fun c => absurd (lg_self _) c)
    refine v_goto (tgt := 2680) (pc := 2473) hX dL_law_2473 (by decide) ?_
    refine mV_sub (lv' := [(5, .int (nI (5 * j))), (4, .ref d), (3, .ref o), (2, .ref r), (1, .ref b), (0, .ref sc)]) ⟨rfl, rfl, rfl, rfl, rfl, rfl, trivial⟩ ?_
    refine mV_widen (ce' := ce + 24) (sl' := sl + 6000) (by omega) (by omega) ?_
    exact k _ _ w1 w2 (by omega)
set_option maxHeartbeats 4000000 in
theorem lwc_47 {l : Launch} {g : mG} {x : mCx} {nm : String} {m : mM} {sc b r o d T ce sl j L : Nat} {xs : Nat → Int32} (hO : mO l g) (hd : VD g) (hcm : ∀ j, j < 12 → cmI g (cmA g j) = j) (hX : mX l g x cL_law (yLw nm) room_1 9) (hs : oT g .int sc L (fun i => .int (xs i))) (hw : OBJ g m m b r T) (hp : PL m b r o d) (hT : T + 12 ≤ 9000) (hj : 5 * j + 5 ≤ L) (hL : L ≤ 2560) (hce : ce + 24 ≤ 613022) (hsl : sl + 6000 ≤ 7185358) (k : ∀ (R : mM) (T1 : Nat), OBJ g R R b r T1 → PL R b r o d → T1 ≤ T + 12 → mV g x R (ce + 24) (sl + 6000) 2680 [(5, .int (nI (5 * j))), (4, .ref d), (3, .ref o), (2, .ref r), (1, .ref b), (0, .ref sc)] []) : mV g x m ce sl 2476 [(5, .int (nI (5 * j))), (4, .ref d), (3, .ref o), (2, .ref r), (1, .ref b), (0, .ref sc)] [] := by
  obtain ⟨N, H, nx, C, v⟩ := VW.of hw
  refine mV_fresh (fun hF => ?_)
  have w0 := v
  have hc : ∀ mr, VW g m mr b r T N H nx C → CL g b r o d T m mr (X10_writePiece_m g m b (xs (5 * j + 1)) N) (X11_writePiece_m g mr r (xs (5 * j + 1)) N) [("java/util/NoSuchElementException", 1)] (X10_writePiece_x g m b (xs (5 * j + 1)) N) (X10_writePiece_r g m b (xs (5 * j + 1)) N = X11_writePiece_r g mr r (xs (5 * j + 1)) N) := fun mr v => (call_writePiece hd v.1 hF v.2.1 v.2.2.1 (xs (5 * j + 1))).toCL hp w0.sr
  have c0 := hc m v
  refine v_aload_n (pc := 2476) hX dL_law_2476 rfl ?_
  refine v_aload_n (pc := 2477) hX dL_law_2477 rfl ?_
  refine v_iload (pc := 2478) hX dL_law_2478 rfl ?_
  refine v_iconst (v := 1) (pc := 2480) hX dL_law_2480 (by decide) ?_
  refine v_iadd (pc := 2481) hX dL_law_2481 ?_
  refine v_tiO (j := 5 * j + 1) (pc := 2482) hX dL_law_2482 hs (nI_k rfl) (by omega) (by omega) ?_
  show mV g x _ _ _ _ _ [.int (xs (5 * j + 1)), .ref b]
  refine v_aload_n (pc := 2483) hX dL_law_2483 rfl ?_
  refine v_callSX (z := yL_writePiece) (pc := 2484) hX dL_law_2484 (c_L_writePiece hO m b (xs (5 * j + 1)) o N v.sb v.hN v.N8 v.slo v.wp (c0.ko hp) c0.e1) wd_1443 wd_1444 wd_0 wd_1445 ⟨by decide, by decide, (by decide +kernel : (parseMethodDescriptor yL_writePiece.desc).map (fun d => d.parameters.length) = some 3)⟩ rfl (Nat.le_of_ble_eq_true rfl) ⟨⟨Nat.le_of_ble_eq_true rfl, Nat.le_of_ble_eq_true rfl⟩, (by show ce + 14 ≤ 613022; omega), (by show sl + 3412 ≤ 7185358; omega)⟩ (fun E9 m9 h9 => h9.elim) (fun u9 m9 h9 => ?_)
  obtain ⟨kk, rfl, wk⟩ := wkL h9
  clear h9
  have v9 := v.toR (c0.keep (q := o) hp (by have := hp.2.1; have := hp.2.2.1; omega) wk.1 wk.2.1)
  have c9 := hc m9 v9
  clear hc c0
  show mV g x m9 _ _ _ _ [.int kk]
  refine v_istore (pc := 2487) hX dL_law_2487 (by decide) rfl ?_
  refine v_aload_n (pc := 2489) hX dL_law_2489 rfl ?_
  refine v_aload_n (pc := 2490) hX dL_law_2490 rfl ?_
  refine v_iload (pc := 2491) hX dL_law_2491 rfl ?_
  refine v_iconst (v := 1) (pc := 2493) hX dL_law_2493 (by decide) ?_
  refine v_iadd (pc := 2494) hX dL_law_2494 ?_
  refine v_tiO (j := 5 * j + 1) (pc := 2495) hX dL_law_2495 hs (nI_k rfl) (by omega) (by omega) ?_
  show mV g x _ _ _ _ _ [.int (xs (5 * j + 1)), .ref r]
  refine v_callV (z := yX11_writePiece) (pc := 2496) hX dL_law_2496 (c_X11_writePiece hO m9 r (xs (5 * j + 1)) N v9.sr v9.rN v9.N8 v9.rp) v9.sr.1 rfl wd_1929 wd_1930 wd_1931 wd_16 wd_1932 ⟨by decide, by decide, (by decide +kernel : (parseMethodDescriptor yX11_writePiece.desc).map (fun d => d.parameters.length) = some 1)⟩ rfl (Nat.le_of_ble_eq_true rfl) ⟨⟨Nat.le_of_ble_eq_true rfl, Nat.le_of_ble_eq_true rfl⟩, (by show ce + 14 + 0 ≤ 613022; omega), (by show sl + 3412 + 0 ≤ 7185358; omega)⟩ (fun E9 m8 h9 => h9.elim) (fun u8 R h9 => ?_)
  obtain ⟨rfl, h7⟩ := h9
  rw [← h7] at c9
  generalize (X11_writePiece_r g m9 r (xs (5 * j + 1)) N) = yv at c9 ⊢
  show mV g x R _ _ _ _ [.int yv]
  obtain ⟨w1, w2, wl, wd⟩ := c9.next (q := o) hp v9.sr (by first | exact Or.inl rfl | exact Or.inr rfl) wk.1 wk.2.1
  obtain ⟨w3, w4⟩ := c9.out wk (by decide)
  clear c9
  refine v_istore (pc := 2499) hX dL_law_2499 (by decide) rfl ?_
  refine v_aload_n (pc := 2501) hX dL_law_2501 rfl ?_
  refine v_callV (z := yX11_thrown) (pc := 2502) hX dL_law_2502 (c_X11_thrown hO R r w1.2.2.2.1) w1.2.2.2.1.1 rfl wd_1573 wd_1574 wd_1575 wd_16 wd_1576 ⟨by decide, by decide, (by decide +kernel : (parseMethodDescriptor yX11_thrown.desc).map (fun d => d.parameters.length) = some 0)⟩ rfl (Nat.le_of_ble_eq_true rfl) ⟨⟨Nat.le_of_ble_eq_true rfl, Nat.le_of_ble_eq_true rfl⟩, (by show ce + 14 + 0 + 0 ≤ 613022; omega), (by show sl + 3412 + 0 + 0 ≤ 7185358; omega)⟩ (fun E9 m8 h9 => h9.elim) (fun u8 m8 h9 => ?_)
  obtain ⟨rfl, h6⟩ := h9
  replace h6 := h6.symm
  subst h6
  rw [show X11_thrown_r g R r = kk from w3]
  show mV g x R _ _ _ _ [.int kk]
  refine v_iload (pc := 2505) hX dL_law_2505 rfl ?_
  refine v_icmp_eq (tgt := 2512) (pc := 2507) hX dL_law_2507 (by decide) (fun _ => ?_) (fun c => absurd rfl c)
  refine v_iload (pc := 2512) hX dL_law_2512 rfl ?_
  refine v_if_ne (tgt := 2529) (pc := 2514) hX dL_law_2514 (by decide) (fun _ => ?_) (fun c1 => ?_)
  ·
    refine v_goto (tgt := 2680) (pc := 2529) hX dL_law_2529 (by decide) ?_
    refine mV_sub (lv' := [(5, .int (nI (5 * j))), (4, .ref d), (3, .ref o), (2, .ref r), (1, .ref b), (0, .ref sc)]) ⟨rfl, rfl, rfl, rfl, rfl, rfl, trivial⟩ ?_
    refine mV_widen (ce' := ce + 24) (sl' := sl + 6000) (by omega) (by omega) ?_
    exact k _ _ w1 w2 (by omega)
  ·
    obtain ⟨wa, wb⟩ := w4 c1
    have hv : gL R o 0 = yv.toInt64 := by rw [wl, wa, wb]
    refine v_aload_n (pc := 2517) hX dL_law_2517 rfl ?_
    refine v_iconst (v := 0) (pc := 2518) hX dL_law_2518 (by decide) ?_
    refine v_lald (pc := 2519) hX dL_law_2519 w2.2.2.2.1 (j := 0) rfl (by decide) (by decide) hv ?_
    refine v_iload (pc := 2520) hX dL_law_2520 rfl ?_
    refine v_i2l (pc := 2522) hX dL_law_2522 ?_
    refine v_lcmp (pc := 2523) hX dL_law_2523 ?_
    refine v_if_eq (tgt := 2529) (pc := 2524) hX dL_law_2524 (by decide) (fun _ => ?_) (fun c => absurd (lg_self _) c)
    refine v_goto (tgt := 2680) (pc := 2529) hX dL_law_2529 (by decide) ?_
    refine mV_sub (lv' := [(5, .int (nI (5 * j))), (4, .ref d), (3, .ref o), (2, .ref r), (1, .ref b), (0, .ref sc)]) ⟨rfl, rfl, rfl, rfl, rfl, rfl, trivial⟩ ?_
    refine mV_widen (ce' := ce + 24) (sl' := sl + 6000) (by omega) (by omega) ?_
    exact k _ _ w1 w2 (by omega)
set_option maxHeartbeats 4000000 in
theorem lwc_48 {l : Launch} {g : mG} {x : mCx} {nm : String} {m : mM} {sc b r o d T ce sl j L : Nat} {xs : Nat → Int32} (hO : mO l g) (hd : VD g) (hcm : ∀ j, j < 12 → cmI g (cmA g j) = j) (hX : mX l g x cL_law (yLw nm) room_1 9) (hs : oT g .int sc L (fun i => .int (xs i))) (hw : OBJ g m m b r T) (hp : PL m b r o d) (hT : T + 12 ≤ 9000) (hj : 5 * j + 5 ≤ L) (hL : L ≤ 2560) (hce : ce + 24 ≤ 613022) (hsl : sl + 6000 ≤ 7185358) (k : ∀ (R : mM) (T1 : Nat), OBJ g R R b r T1 → PL R b r o d → T1 ≤ T + 12 → mV g x R (ce + 24) (sl + 6000) 2680 [(5, .int (nI (5 * j))), (4, .ref d), (3, .ref o), (2, .ref r), (1, .ref b), (0, .ref sc)] []) : mV g x m ce sl 2532 [(5, .int (nI (5 * j))), (4, .ref d), (3, .ref o), (2, .ref r), (1, .ref b), (0, .ref sc)] [] := by
  obtain ⟨N, H, nx, C, v⟩ := VW.of hw
  refine mV_fresh (fun hF => ?_)
  have w0 := v
  have hc : ∀ mr, VW g m mr b r T N H nx C → CL g b r o d T m mr (X10_writeFurnace_m g m b N) (X11_writeFurnace_m g mr r N) [] none (X10_writeFurnace_r g m b N = X11_writeFurnace_r g mr r N) := fun mr v => (call_writeFurnace v.1 hF v.2.1 v.2.2.1).toCL hp w0.sr
  have c0 := hc m v
  refine v_aload_n (pc := 2532) hX dL_law_2532 rfl ?_
  refine v_callV (z := yX10_writeFurnace) (pc := 2533) hX dL_law_2533 (c_X10_writeFurnace hO m b N v.sb v.hN v.N8 v.slo v.cn v.c3.1 v.c3.2.1 v.c3.2.2) v.sb.1 rfl wd_466 wd_467 wd_468 wd_1 wd_469 ⟨by decide, by decide, (by decide +kernel : (parseMethodDescriptor yX10_writeFurnace.desc).map (fun d => d.parameters.length) = some 0)⟩ rfl (Nat.le_of_ble_eq_true rfl) ⟨⟨Nat.le_of_ble_eq_true rfl, Nat.le_of_ble_eq_true rfl⟩, (by show ce + 22 ≤ 613022; omega), (by show sl + 5764 ≤ 7185358; omega)⟩ (fun E9 m9 h9 => h9.elim) (fun u9 m9 h9 => ?_)
  obtain ⟨rfl, h8⟩ := h9
  have v9 : VW g m m9 b r T N H nx C := v.toR (fun a h1 h2 => by rw [h8]; exact c0.keep (q := o) hp hp.2.1 rfl (fun _ _ => Sm.rf) a h1 h2)
  have c9 := hc m9 v9
  clear hc c0
  rw [← h8] at c9
  show mV g x m9 _ _ _ _ [.int (X10_writeFurnace_r g m b N)]
  refine v_aload_n (pc := 2536) hX dL_law_2536 rfl ?_
  refine v_callV (z := yX11_writeFurnace) (pc := 2537) hX dL_law_2537 (c_X11_writeFurnace hO m9 r N v9.sr v9.rN v9.N8 v9.rn v9.r3.1 v9.r3.2.1 v9.r3.2.2 v9.i3) v9.sr.1 rfl wd_1941 wd_1942 wd_1943 wd_16 wd_1944 ⟨by decide, by decide, (by decide +kernel : (parseMethodDescriptor yX11_writeFurnace.desc).map (fun d => d.parameters.length) = some 0)⟩ rfl (Nat.le_of_ble_eq_true rfl) ⟨⟨Nat.le_of_ble_eq_true rfl, Nat.le_of_ble_eq_true rfl⟩, (by show ce + 22 + 0 ≤ 613022; omega), (by show sl + 5764 + 0 ≤ 7185358; omega)⟩ (fun E9 m8 h9 => h9.elim) (fun u8 R h9 => ?_)
  obtain ⟨rfl, h7⟩ := h9
  rw [← h7] at c9
  generalize (X11_writeFurnace_r g m9 r N) = yv at c9 ⊢
  show mV g x R _ _ _ _ [.int yv, .int (X10_writeFurnace_r g m b N)]
  obtain ⟨w1, w2, -, -⟩ := c9.next (q := o) hp v9.sr (Or.inl rfl) rfl (fun _ _ => Sm.rf)
  have ws := c9.same0
  clear c9
  refine v_icmp_eq (tgt := 2680) (pc := 2540) hX dL_law_2540 (by decide) (fun _ => ?_) (fun c => absurd ws c)
  refine mV_sub (lv' := [(5, .int (nI (5 * j))), (4, .ref d), (3, .ref o), (2, .ref r), (1, .ref b), (0, .ref sc)]) ⟨rfl, rfl, rfl, rfl, rfl, rfl, trivial⟩ ?_
  refine mV_widen (ce' := ce + 24) (sl' := sl + 6000) (by omega) (by omega) ?_
  exact k _ _ w1 w2 (by omega)
set_option maxHeartbeats 4000000 in
theorem lwc_49 {l : Launch} {g : mG} {x : mCx} {nm : String} {m : mM} {sc b r o d T ce sl j L : Nat} {xs : Nat → Int32} (hO : mO l g) (hd : VD g) (hcm : ∀ j, j < 12 → cmI g (cmA g j) = j) (hX : mX l g x cL_law (yLw nm) room_1 9) (hs : oT g .int sc L (fun i => .int (xs i))) (hw : OBJ g m m b r T) (hp : PL m b r o d) (hT : T + 12 ≤ 9000) (hj : 5 * j + 5 ≤ L) (hL : L ≤ 2560) (hce : ce + 24 ≤ 613022) (hsl : sl + 6000 ≤ 7185358) (k : ∀ (R : mM) (T1 : Nat), OBJ g R R b r T1 → PL R b r o d → T1 ≤ T + 12 → mV g x R (ce + 24) (sl + 6000) 2680 [(5, .int (nI (5 * j))), (4, .ref d), (3, .ref o), (2, .ref r), (1, .ref b), (0, .ref sc)] []) : mV g x m ce sl 2545 [(5, .int (nI (5 * j))), (4, .ref d), (3, .ref o), (2, .ref r), (1, .ref b), (0, .ref sc)] [] := by
  obtain ⟨N, H, nx, C, v⟩ := VW.of hw
  have hc : ∀ mr, VW g m mr b r T N H nx C → CL g b r o d T m mr m (X11_outputAt_m g mr r (xs (5 * j + 1))) [("java/lang/IndexOutOfBoundsException", 1)] (X10_outputAt_x g m b (xs (5 * j + 1))) (X10_outputAt_r g m b (xs (5 * j + 1)) = X11_outputAt_r g mr r (xs (5 * j + 1))) := fun mr v => (q_outputAt v.1 (xs (5 * j + 1))).toCL hp
  have c0 := hc m v
  refine v_aload_n (pc := 2545) hX dL_law_2545 rfl ?_
  refine v_aload_n (pc := 2546) hX dL_law_2546 rfl ?_
  refine v_iload (pc := 2547) hX dL_law_2547 rfl ?_
  refine v_iconst (v := 1) (pc := 2549) hX dL_law_2549 (by decide) ?_
  refine v_iadd (pc := 2550) hX dL_law_2550 ?_
  refine v_tiO (j := 5 * j + 1) (pc := 2551) hX dL_law_2551 hs (nI_k rfl) (by omega) (by omega) ?_
  show mV g x _ _ _ _ _ [.int (xs (5 * j + 1)), .ref b]
  refine v_aload_n (pc := 2552) hX dL_law_2552 rfl ?_
  refine v_callSX (z := yL_outputAt) (pc := 2553) hX dL_law_2553 (c_L_outputAt hO m b (xs (5 * j + 1)) o v.sb v.slo hp.2.2.2.1 c0.e1) wd_1457 wd_1458 wd_0 wd_1459 ⟨by decide, by decide, (by decide +kernel : (parseMethodDescriptor yL_outputAt.desc).map (fun d => d.parameters.length) = some 3)⟩ rfl (Nat.le_of_ble_eq_true rfl) ⟨⟨Nat.le_of_ble_eq_true rfl, Nat.le_of_ble_eq_true rfl⟩, (by show ce + 1 ≤ 613022; omega), (by show sl + 6 ≤ 7185358; omega)⟩ (fun E9 m9 h9 => h9.elim) (fun u9 m9 h9 => ?_)
  obtain ⟨kk, rfl, wk⟩ := wkL h9
  clear h9
  have v9 := v.toR (c0.keep (q := o) hp (by have := hp.2.1; have := hp.2.2.1; omega) wk.1 wk.2.1)
  have c9 := hc m9 v9
  clear hc c0
  show mV g x m9 _ _ _ _ [.int kk]
  refine v_istore (pc := 2556) hX dL_law_2556 (by decide) rfl ?_
  refine v_aload_n (pc := 2558) hX dL_law_2558 rfl ?_
  refine v_aload_n (pc := 2559) hX dL_law_2559 rfl ?_
  refine v_iload (pc := 2560) hX dL_law_2560 rfl ?_
  refine v_iconst (v := 1) (pc := 2562) hX dL_law_2562 (by decide) ?_
  refine v_iadd (pc := 2563) hX dL_law_2563 ?_
  refine v_tiO (j := 5 * j + 1) (pc := 2564) hX dL_law_2564 hs (nI_k rfl) (by omega) (by omega) ?_
  show mV g x _ _ _ _ _ [.int (xs (5 * j + 1)), .ref r]
  refine v_callV (z := yX11_outputAt) (pc := 2565) hX dL_law_2565 (c_X11_outputAt hO m9 r (xs (5 * j + 1)) v9.sr v9.rL) v9.sr.1 rfl wd_1945 wd_1946 wd_1947 wd_16 wd_1948 ⟨by decide, by decide, (by decide +kernel : (parseMethodDescriptor yX11_outputAt.desc).map (fun d => d.parameters.length) = some 1)⟩ rfl (Nat.le_of_ble_eq_true rfl) ⟨⟨Nat.le_of_ble_eq_true rfl, Nat.le_of_ble_eq_true rfl⟩, (by show ce + 1 + 0 ≤ 613022; omega), (by show sl + 6 + 0 ≤ 7185358; omega)⟩ (fun E9 m8 h9 => h9.elim) (fun u8 R h9 => ?_)
  obtain ⟨rfl, h7⟩ := h9
  rw [← h7] at c9
  generalize (X11_outputAt_r g m9 r (xs (5 * j + 1))) = yv at c9 ⊢
  show mV g x R _ _ _ _ [.int yv]
  obtain ⟨w1, w2, wl, wd⟩ := c9.next (q := o) hp v9.sr (by first | exact Or.inl rfl | exact Or.inr rfl) wk.1 wk.2.1
  obtain ⟨w3, w4⟩ := c9.out wk (by decide)
  clear c9
  refine v_istore (pc := 2568) hX dL_law_2568 (by decide) rfl ?_
  refine v_aload_n (pc := 2570) hX dL_law_2570 rfl ?_
  refine v_callV (z := yX11_thrown) (pc := 2571) hX dL_law_2571 (c_X11_thrown hO R r w1.2.2.2.1) w1.2.2.2.1.1 rfl wd_1573 wd_1574 wd_1575 wd_16 wd_1576 ⟨by decide, by decide, (by decide +kernel : (parseMethodDescriptor yX11_thrown.desc).map (fun d => d.parameters.length) = some 0)⟩ rfl (Nat.le_of_ble_eq_true rfl) ⟨⟨Nat.le_of_ble_eq_true rfl, Nat.le_of_ble_eq_true rfl⟩, (by show ce + 1 + 0 + 0 ≤ 613022; omega), (by show sl + 6 + 0 + 0 ≤ 7185358; omega)⟩ (fun E9 m8 h9 => h9.elim) (fun u8 m8 h9 => ?_)
  obtain ⟨rfl, h6⟩ := h9
  replace h6 := h6.symm
  subst h6
  rw [show X11_thrown_r g R r = kk from w3]
  show mV g x R _ _ _ _ [.int kk]
  refine v_iload (pc := 2574) hX dL_law_2574 rfl ?_
  refine v_icmp_eq (tgt := 2581) (pc := 2576) hX dL_law_2576 (by decide) (fun _ => ?_) (fun c => absurd rfl c)
  refine v_iload (pc := 2581) hX dL_law_2581 rfl ?_
  refine v_if_ne (tgt := 2598) (pc := 2583) hX dL_law_2583 (by decide) (fun _ => ?_) (fun c1 => ?_)
  ·
    refine v_goto (tgt := 2680) (pc := 2598) hX dL_law_2598 (by decide) ?_
    refine mV_sub (lv' := [(5, .int (nI (5 * j))), (4, .ref d), (3, .ref o), (2, .ref r), (1, .ref b), (0, .ref sc)]) ⟨rfl, rfl, rfl, rfl, rfl, rfl, trivial⟩ ?_
    refine mV_widen (ce' := ce + 24) (sl' := sl + 6000) (by omega) (by omega) ?_
    exact k _ _ w1 w2 (by omega)
  ·
    obtain ⟨wa, wb⟩ := w4 c1
    have hv : gL R o 0 = yv.toInt64 := by rw [wl, wa, wb]
    refine v_aload_n (pc := 2586) hX dL_law_2586 rfl ?_
    refine v_iconst (v := 0) (pc := 2587) hX dL_law_2587 (by decide) ?_
    refine v_lald (pc := 2588) hX dL_law_2588 w2.2.2.2.1 (j := 0) rfl (by decide) (by decide) hv ?_
    refine v_iload (pc := 2589) hX dL_law_2589 rfl ?_
    refine v_i2l (pc := 2591) hX dL_law_2591 ?_
    refine v_lcmp (pc := 2592) hX dL_law_2592 ?_
    refine v_if_eq (tgt := 2598) (pc := 2593) hX dL_law_2593 (by decide) (fun _ => ?_) (fun c => absurd (lg_self _) c)
    refine v_goto (tgt := 2680) (pc := 2598) hX dL_law_2598 (by decide) ?_
    refine mV_sub (lv' := [(5, .int (nI (5 * j))), (4, .ref d), (3, .ref o), (2, .ref r), (1, .ref b), (0, .ref sc)]) ⟨rfl, rfl, rfl, rfl, rfl, rfl, trivial⟩ ?_
    refine mV_widen (ce' := ce + 24) (sl' := sl + 6000) (by omega) (by omega) ?_
    exact k _ _ w1 w2 (by omega)
set_option maxHeartbeats 4000000 in
theorem lwc_50 {l : Launch} {g : mG} {x : mCx} {nm : String} {m : mM} {sc b r o d T ce sl j L : Nat} {xs : Nat → Int32} (hO : mO l g) (hd : VD g) (hcm : ∀ j, j < 12 → cmI g (cmA g j) = j) (hX : mX l g x cL_law (yLw nm) room_1 9) (hs : oT g .int sc L (fun i => .int (xs i))) (hw : OBJ g m m b r T) (hp : PL m b r o d) (hT : T + 12 ≤ 9000) (hj : 5 * j + 5 ≤ L) (hL : L ≤ 2560) (hce : ce + 24 ≤ 613022) (hsl : sl + 6000 ≤ 7185358) (k : ∀ (R : mM) (T1 : Nat), OBJ g R R b r T1 → PL R b r o d → T1 ≤ T + 12 → mV g x R (ce + 24) (sl + 6000) 2680 [(5, .int (nI (5 * j))), (4, .ref d), (3, .ref o), (2, .ref r), (1, .ref b), (0, .ref sc)] []) : mV g x m ce sl 2601 [(5, .int (nI (5 * j))), (4, .ref d), (3, .ref o), (2, .ref r), (1, .ref b), (0, .ref sc)] [] := by
  obtain ⟨N, H, nx, C, v⟩ := VW.of hw
  have hc : ∀ mr, VW g m mr b r T N H nx C → CL g b r o d T m mr (X10_undo_m g m b nx) (X11_undo_m g mr r C) [("java/lang/IllegalStateException", 1)] (X10_undo_x g m b nx) (X10_undo_r g m b nx = X11_undo_r g mr r C) := fun mr v => (call_undo v.1 v.2.2.2).toCL hp
  have c0 := hc m v
  refine v_aload_n (pc := 2601) hX dL_law_2601 rfl ?_
  refine v_aload_n (pc := 2602) hX dL_law_2602 rfl ?_
  refine v_callSX (z := yL_undo) (pc := 2603) hX dL_law_2603 (c_L_undo hO m b o nx v.sb v.hn v.n9 (c0.ko hp) c0.e1) wd_1475 wd_1476 wd_0 wd_1477 ⟨by decide, by decide, (by decide +kernel : (parseMethodDescriptor yL_undo.desc).map (fun d => d.parameters.length) = some 2)⟩ rfl (Nat.le_of_ble_eq_true rfl) ⟨⟨Nat.le_of_ble_eq_true rfl, Nat.le_of_ble_eq_true rfl⟩, (by show ce + 1 ≤ 613022; omega), (by show sl + 6 ≤ 7185358; omega)⟩ (fun E9 m9 h9 => h9.elim) (fun u9 m9 h9 => ?_)
  obtain ⟨kk, rfl, wk⟩ := wkL h9
  clear h9
  have v9 := v.toR (c0.keep (q := o) hp (by have := hp.2.1; have := hp.2.2.1; omega) wk.1 wk.2.1)
  have c9 := hc m9 v9
  clear hc c0
  show mV g x m9 _ _ _ _ [.int kk]
  refine v_istore (pc := 2606) hX dL_law_2606 (by decide) rfl ?_
  refine v_aload_n (pc := 2608) hX dL_law_2608 rfl ?_
  refine v_callV (z := yX11_undo) (pc := 2609) hX dL_law_2609 (c_X11_undo hO m9 r C v9.sr v9.hC v9.C8) v9.sr.1 rfl wd_1949 wd_1950 wd_1951 wd_16 wd_1952 ⟨by decide, by decide, (by decide +kernel : (parseMethodDescriptor yX11_undo.desc).map (fun d => d.parameters.length) = some 0)⟩ rfl (Nat.le_of_ble_eq_true rfl) ⟨⟨Nat.le_of_ble_eq_true rfl, Nat.le_of_ble_eq_true rfl⟩, (by show ce + 1 + 0 ≤ 613022; omega), (by show sl + 6 + 0 ≤ 7185358; omega)⟩ (fun E9 m8 h9 => h9.elim) (fun u8 R h9 => ?_)
  obtain ⟨rfl, h7⟩ := h9
  rw [← h7] at c9
  generalize (X11_undo_r g m9 r C) = yv at c9 ⊢
  show mV g x R _ _ _ _ [.int yv]
  obtain ⟨w1, w2, wl, wd⟩ := c9.next (q := o) hp v9.sr (by first | exact Or.inl rfl | exact Or.inr rfl) wk.1 wk.2.1
  obtain ⟨w3, w4⟩ := c9.out wk (by decide)
  clear c9
  refine v_istore (pc := 2612) hX dL_law_2612 (by decide) rfl ?_
  refine v_aload_n (pc := 2614) hX dL_law_2614 rfl ?_
  refine v_callV (z := yX11_thrown) (pc := 2615) hX dL_law_2615 (c_X11_thrown hO R r w1.2.2.2.1) w1.2.2.2.1.1 rfl wd_1573 wd_1574 wd_1575 wd_16 wd_1576 ⟨by decide, by decide, (by decide +kernel : (parseMethodDescriptor yX11_thrown.desc).map (fun d => d.parameters.length) = some 0)⟩ rfl (Nat.le_of_ble_eq_true rfl) ⟨⟨Nat.le_of_ble_eq_true rfl, Nat.le_of_ble_eq_true rfl⟩, (by show ce + 1 + 0 + 0 ≤ 613022; omega), (by show sl + 6 + 0 + 0 ≤ 7185358; omega)⟩ (fun E9 m8 h9 => h9.elim) (fun u8 m8 h9 => ?_)
  obtain ⟨rfl, h6⟩ := h9
  replace h6 := h6.symm
  subst h6
  rw [show X11_thrown_r g R r = kk from w3]
  show mV g x R _ _ _ _ [.int kk]
  refine v_iload (pc := 2618) hX dL_law_2618 rfl ?_
  refine v_icmp_eq (tgt := 2625) (pc := 2620) hX dL_law_2620 (by decide) (fun _ => ?_) (fun c => absurd rfl c)
  refine v_iload (pc := 2625) hX dL_law_2625 rfl ?_
  refine v_if_ne (tgt := 2642) (pc := 2627) hX dL_law_2627 (by decide) (fun _ => ?_) (fun c1 => ?_)
  ·
    refine v_goto (tgt := 2680) (pc := 2642) hX dL_law_2642 (by decide) ?_
    refine mV_sub (lv' := [(5, .int (nI (5 * j))), (4, .ref d), (3, .ref o), (2, .ref r), (1, .ref b), (0, .ref sc)]) ⟨rfl, rfl, rfl, rfl, rfl, rfl, trivial⟩ ?_
    refine mV_widen (ce' := ce + 24) (sl' := sl + 6000) (by omega) (by omega) ?_
    exact k _ _ w1 w2 (by omega)
  ·
    obtain ⟨wa, wb⟩ := w4 c1
    have hv : gL R o 0 = yv.toInt64 := by rw [wl, wa, wb]
    refine v_aload_n (pc := 2630) hX dL_law_2630 rfl ?_
    refine v_iconst (v := 0) (pc := 2631) hX dL_law_2631 (by decide) ?_
    refine v_lald (pc := 2632) hX dL_law_2632 w2.2.2.2.1 (j := 0) rfl (by decide) (by decide) hv ?_
    refine v_iload (pc := 2633) hX dL_law_2633 rfl ?_
    refine v_i2l (pc := 2635) hX dL_law_2635 ?_
    refine v_lcmp (pc := 2636) hX dL_law_2636 ?_
    refine v_if_eq (tgt := 2642) (pc := 2637) hX dL_law_2637 (by decide) (fun _ => ?_) (fun c => absurd (lg_self _) c)
    refine v_goto (tgt := 2680) (pc := 2642) hX dL_law_2642 (by decide) ?_
    refine mV_sub (lv' := [(5, .int (nI (5 * j))), (4, .ref d), (3, .ref o), (2, .ref r), (1, .ref b), (0, .ref sc)]) ⟨rfl, rfl, rfl, rfl, rfl, rfl, trivial⟩ ?_
    refine mV_widen (ce' := ce + 24) (sl' := sl + 6000) (by omega) (by omega) ?_
    exact k _ _ w1 w2 (by omega)
set_option maxHeartbeats 4000000 in
theorem lwc_51 {l : Launch} {g : mG} {x : mCx} {nm : String} {m : mM} {sc b r o d T ce sl j L : Nat} {xs : Nat → Int32} (hO : mO l g) (hd : VD g) (hcm : ∀ j, j < 12 → cmI g (cmA g j) = j) (hX : mX l g x cL_law (yLw nm) room_1 9) (hs : oT g .int sc L (fun i => .int (xs i))) (hw : OBJ g m m b r T) (hp : PL m b r o d) (hT : T + 12 ≤ 9000) (hj : 5 * j + 5 ≤ L) (hL : L ≤ 2560) (hce : ce + 24 ≤ 613022) (hsl : sl + 6000 ≤ 7185358) (k : ∀ (R : mM) (T1 : Nat), OBJ g R R b r T1 → PL R b r o d → T1 ≤ T + 12 → mV g x R (ce + 24) (sl + 6000) 2680 [(5, .int (nI (5 * j))), (4, .ref d), (3, .ref o), (2, .ref r), (1, .ref b), (0, .ref sc)] []) : mV g x m ce sl 2645 [(5, .int (nI (5 * j))), (4, .ref d), (3, .ref o), (2, .ref r), (1, .ref b), (0, .ref sc)] [] := by
  obtain ⟨N, H, nx, C, v⟩ := VW.of hw
  have hc : ∀ mr, VW g m mr b r T N H nx C → CL g b r o d T m mr (X10_save_m g m b) (X11_save_m g mr r) [] none True := fun mr v => (call_save v.1).toCL hp
  have c0 := hc m v
  refine v_aload_n (pc := 2645) hX dL_law_2645 rfl ?_
  refine v_callV (z := yX10_save) (pc := 2646) hX dL_law_2646 (c_X10_save hO m b v.sb) v.sb.1 rfl wd_841 wd_842 wd_843 wd_1 wd_844 ⟨by decide, by decide, (by decide +kernel : (parseMethodDescriptor yX10_save.desc).map (fun d => d.parameters.length) = some 0)⟩ rfl (Nat.le_of_ble_eq_true rfl) ⟨⟨Nat.le_of_ble_eq_true rfl, Nat.le_of_ble_eq_true rfl⟩, (by show ce + 0 ≤ 613022; omega), (by show sl + 0 ≤ 7185358; omega)⟩ (fun E9 m9 h9 => h9.elim) (fun u9 m9 h9 => ?_)
  obtain ⟨rfl, h8⟩ := h9
  have v9 : VW g m m9 b r T N H nx C := v.toR (fun a h1 h2 => by rw [h8]; exact c0.keep (q := o) hp hp.2.1 rfl (fun _ _ => Sm.rf) a h1 h2)
  have c9 := hc m9 v9
  clear hc c0
  rw [← h8] at c9
  show mV g x m9 _ _ _ _ []
  refine v_aload_n (pc := 2649) hX dL_law_2649 rfl ?_
  refine v_callV (z := yX11_save) (pc := 2650) hX dL_law_2650 (c_X11_save hO m9 r v9.sr) v9.sr.1 rfl wd_1953 wd_1954 wd_1955 wd_16 wd_1956 ⟨by decide, by decide, (by decide +kernel : (parseMethodDescriptor yX11_save.desc).map (fun d => d.parameters.length) = some 0)⟩ rfl (Nat.le_of_ble_eq_true rfl) ⟨⟨Nat.le_of_ble_eq_true rfl, Nat.le_of_ble_eq_true rfl⟩, (by show ce + 0 + 0 ≤ 613022; omega), (by show sl + 0 + 0 ≤ 7185358; omega)⟩ (fun E9 m8 h9 => h9.elim) (fun u8 R h9 => ?_)
  obtain ⟨rfl, h7⟩ := h9
  rw [← h7] at c9
  show mV g x R _ _ _ _ []
  obtain ⟨w1, w2, -, -⟩ := c9.next (q := o) hp v9.sr (Or.inl rfl) rfl (fun _ _ => Sm.rf)
  clear c9
  refine v_goto (tgt := 2680) (pc := 2653) hX dL_law_2653 (by decide) ?_
  refine mV_sub (lv' := [(5, .int (nI (5 * j))), (4, .ref d), (3, .ref o), (2, .ref r), (1, .ref b), (0, .ref sc)]) ⟨rfl, rfl, rfl, rfl, rfl, rfl, trivial⟩ ?_
  refine mV_widen (ce' := ce + 24) (sl' := sl + 6000) (by omega) (by omega) ?_
  exact k _ _ w1 w2 (by omega)
set_option maxHeartbeats 4000000 in
theorem lwc_52 {l : Launch} {g : mG} {x : mCx} {nm : String} {m : mM} {sc b r o d T ce sl j L : Nat} {xs : Nat → Int32} (hO : mO l g) (hd : VD g) (hcm : ∀ j, j < 12 → cmI g (cmA g j) = j) (hX : mX l g x cL_law (yLw nm) room_1 9) (hs : oT g .int sc L (fun i => .int (xs i))) (hw : OBJ g m m b r T) (hp : PL m b r o d) (hT : T + 12 ≤ 9000) (hj : 5 * j + 5 ≤ L) (hL : L ≤ 2560) (hce : ce + 24 ≤ 613022) (hsl : sl + 6000 ≤ 7185358) (k : ∀ (R : mM) (T1 : Nat), OBJ g R R b r T1 → PL R b r o d → T1 ≤ T + 12 → mV g x R (ce + 24) (sl + 6000) 2680 [(5, .int (nI (5 * j))), (4, .ref d), (3, .ref o), (2, .ref r), (1, .ref b), (0, .ref sc)] []) : mV g x m ce sl 2656 [(5, .int (nI (5 * j))), (4, .ref d), (3, .ref o), (2, .ref r), (1, .ref b), (0, .ref sc)] [] := by
  obtain ⟨N, H, nx, C, v⟩ := VW.of hw
  have hc : ∀ mr, VW g m mr b r T N H nx C → CL g b r o d T m mr (X10_restore_m g m b) (X11_restore_m g mr r) [("java/lang/IllegalStateException", 1)] (X10_restore_x g m b) True := fun mr v => (call_restore v.1).toCL hp
  have c0 := hc m v
  refine v_aload_n (pc := 2656) hX dL_law_2656 rfl ?_
  refine v_callSX (z := yL_restore) (pc := 2657) hX dL_law_2657 (c_L_restore hO m b v.sb c0.e1) wd_1488 wd_1489 wd_0 wd_1490 ⟨by decide, by decide, (by decide +kernel : (parseMethodDescriptor yL_restore.desc).map (fun d => d.parameters.length) = some 1)⟩ rfl (Nat.le_of_ble_eq_true rfl) ⟨⟨Nat.le_of_ble_eq_true rfl, Nat.le_of_ble_eq_true rfl⟩, (by show ce + 1 ≤ 613022; omega), (by show sl + 6 ≤ 7185358; omega)⟩ (fun E9 m9 h9 => h9.elim) (fun u9 m9 h9 => ?_)
  obtain ⟨kk, rfl, wk⟩ := wk0 (o := o) h9
  clear h9
  have v9 := v.toR (c0.keep (q := o) hp (by have := hp.2.1; have := hp.2.2.1; omega) wk.1 wk.2.1)
  have c9 := hc m9 v9
  clear hc c0
  show mV g x m9 _ _ _ _ [.int kk]
  refine v_istore (pc := 2660) hX dL_law_2660 (by decide) rfl ?_
  refine v_aload_n (pc := 2662) hX dL_law_2662 rfl ?_
  refine v_callV (z := yX11_restore) (pc := 2663) hX dL_law_2663 (c_X11_restore hO m9 r v9.sr) v9.sr.1 rfl wd_1957 wd_1958 wd_1959 wd_16 wd_1960 ⟨by decide, by decide, (by decide +kernel : (parseMethodDescriptor yX11_restore.desc).map (fun d => d.parameters.length) = some 0)⟩ rfl (Nat.le_of_ble_eq_true rfl) ⟨⟨Nat.le_of_ble_eq_true rfl, Nat.le_of_ble_eq_true rfl⟩, (by show ce + 1 + 0 ≤ 613022; omega), (by show sl + 6 + 0 ≤ 7185358; omega)⟩ (fun E9 m8 h9 => h9.elim) (fun u8 R h9 => ?_)
  obtain ⟨rfl, h7⟩ := h9
  rw [← h7] at c9
  show mV g x R _ _ _ _ []
  obtain ⟨w1, w2, wl, wd⟩ := c9.next (q := o) hp v9.sr (by first | exact Or.inl rfl | exact Or.inr rfl) wk.1 wk.2.1
  obtain ⟨w3, w4⟩ := c9.out wk (by decide)
  clear c9
  refine v_aload_n (pc := 2666) hX dL_law_2666 rfl ?_
  refine v_callV (z := yX11_thrown) (pc := 2667) hX dL_law_2667 (c_X11_thrown hO R r w1.2.2.2.1) w1.2.2.2.1.1 rfl wd_1573 wd_1574 wd_1575 wd_16 wd_1576 ⟨by decide, by decide, (by decide +kernel : (parseMethodDescriptor yX11_thrown.desc).map (fun d => d.parameters.length) = some 0)⟩ rfl (Nat.le_of_ble_eq_true rfl) ⟨⟨Nat.le_of_ble_eq_true rfl, Nat.le_of_ble_eq_true rfl⟩, (by show ce + 1 + 0 + 0 ≤ 613022; omega), (by show sl + 6 + 0 + 0 ≤ 7185358; omega)⟩ (fun E9 m8 h9 => h9.elim) (fun u8 m8 h9 => ?_)
  obtain ⟨rfl, h6⟩ := h9
  replace h6 := h6.symm
  subst h6
  rw [show X11_thrown_r g R r = kk from w3]
  show mV g x R _ _ _ _ [.int kk]
  refine v_iload (pc := 2670) hX dL_law_2670 rfl ?_
  refine v_icmp_eq (tgt := 2677) (pc := 2672) hX dL_law_2672 (by decide) (fun _ => ?_) (fun c => absurd rfl c)
  refine v_goto (tgt := 2680) (pc := 2677) hX dL_law_2677 (by decide) ?_
  refine mV_sub (lv' := [(5, .int (nI (5 * j))), (4, .ref d), (3, .ref o), (2, .ref r), (1, .ref b), (0, .ref sc)]) ⟨rfl, rfl, rfl, rfl, rfl, rfl, trivial⟩ ?_
  refine mV_widen (ce' := ce + 24) (sl' := sl + 6000) (by omega) (by omega) ?_
  exact k _ _ w1 w2 (by omega)
