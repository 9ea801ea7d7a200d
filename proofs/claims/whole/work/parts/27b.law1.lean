/-! THE LAW'S CALLS (1) -/
set_option maxHeartbeats 4000000 in
theorem lwc_0 {l : Launch} {g : mG} {x : mCx} {nm : String} {m : mM} {sc b r o d T ce sl j L : Nat} {xs : Nat → Int32} (hO : mO l g) (hd : VD g) (hcm : ∀ j, j < 12 → cmI g (cmA g j) = j) (hX : mX l g x cL_law (yLw nm) room_1 9) (hs : oT g .int sc L (fun i => .int (xs i))) (hw : OBJ g m m b r T) (hp : PL m b r o d) (hT : T + 12 ≤ 9000) (hj : 5 * j + 5 ≤ L) (hL : L ≤ 2560) (hce : ce + 24 ≤ 613022) (hsl : sl + 6000 ≤ 7185358) (k : ∀ (R : mM) (T1 : Nat), OBJ g R R b r T1 → PL R b r o d → T1 ≤ T + 12 → mV g x R (ce + 24) (sl + 6000) 2680 [(5, .int (nI (5 * j))), (4, .ref d), (3, .ref o), (2, .ref r), (1, .ref b), (0, .ref sc)] []) : mV g x m ce sl 272 [(5, .int (nI (5 * j))), (4, .ref d), (3, .ref o), (2, .ref r), (1, .ref b), (0, .ref sc)] [] := by
  obtain ⟨N, H, nx, C, v⟩ := VW.of hw
  have hc : ∀ mr, VW g m mr b r T N H nx C → CL g b r o d (T + 1) m mr (X10_addCoal_m g m b (xs (5 * j + 1)) nx) (X11_addCoal_m g mr r (xs (5 * j + 1))  C) [("java/lang/IllegalArgumentException", 1), ("java/lang/IllegalStateException", 2)] (X10_addCoal_x g m b (xs (5 * j + 1)) nx) (X10_addCoal_r g m b (xs (5 * j + 1)) nx = X11_addCoal_r g mr r (xs (5 * j + 1))  C) := fun mr v => (call_addCoal hd v.1 v.2.2.2 v.2.1 v.2.2.1 (by omega) (xs (5 * j + 1))).toCL hp
  have c0 := hc m v
  refine v_aload_n (pc := 272) hX dL_law_272 rfl ?_
  refine v_aload_n (pc := 273) hX dL_law_273 rfl ?_
  refine v_iload (pc := 274) hX dL_law_274 rfl ?_
  refine v_iconst (v := 1) (pc := 276) hX dL_law_276 (by decide) ?_
  refine v_iadd (pc := 277) hX dL_law_277 ?_
  refine v_tiO (j := 5 * j + 1) (pc := 278) hX dL_law_278 hs (nI_k rfl) (by omega) (by omega) ?_
  show mV g x _ _ _ _ _ [.int (xs (5 * j + 1)), .ref b]
  refine v_aload_n (pc := 279) hX dL_law_279 rfl ?_
  refine v_callSX (z := yL_addCoal) (pc := 280) hX dL_law_280 (c_L_addCoal hO m b (xs (5 * j + 1)) o nx v.sb v.hn v.n9 (c0.ko hp) c0.e2) wd_846 wd_847 wd_0 wd_848 ⟨by decide, by decide, (by decide +kernel : (parseMethodDescriptor yL_addCoal.desc).map (fun d => d.parameters.length) = some 3)⟩ rfl (Nat.le_of_ble_eq_true rfl) ⟨⟨Nat.le_of_ble_eq_true rfl, Nat.le_of_ble_eq_true rfl⟩, (by show ce + 1 ≤ 613022; omega), (by show sl + 6 ≤ 7185358; omega)⟩ (fun E9 m9 h9 => h9.elim) (fun u9 m9 h9 => ?_)
  obtain ⟨kk, rfl, wk⟩ := wkL h9
  clear h9
  have v9 := v.toR (c0.keep (q := o) hp (by have := hp.2.1; have := hp.2.2.1; omega) wk.1 wk.2.1)
  have c9 := hc m9 v9
  clear hc c0
  show mV g x m9 _ _ _ _ [.int kk]
  refine v_istore (pc := 283) hX dL_law_283 (by decide) rfl ?_
  refine v_aload_n (pc := 285) hX dL_law_285 rfl ?_
  refine v_aload_n (pc := 286) hX dL_law_286 rfl ?_
  refine v_iload (pc := 287) hX dL_law_287 rfl ?_
  refine v_iconst (v := 1) (pc := 289) hX dL_law_289 (by decide) ?_
  refine v_iadd (pc := 290) hX dL_law_290 ?_
  refine v_tiO (j := 5 * j + 1) (pc := 291) hX dL_law_291 hs (nI_k rfl) (by omega) (by omega) ?_
  show mV g x _ _ _ _ _ [.int (xs (5 * j + 1)), .ref r]
  refine v_callV (z := yX11_addCoal) (pc := 292) hX dL_law_292 (c_X11_addCoal hO m9 r (xs (5 * j + 1)) C v9.sr v9.hC v9.C8) v9.sr.1 rfl wd_1577 wd_1578 wd_1579 wd_16 wd_1580 ⟨by decide, by decide, (by decide +kernel : (parseMethodDescriptor yX11_addCoal.desc).map (fun d => d.parameters.length) = some 1)⟩ rfl (Nat.le_of_ble_eq_true rfl) ⟨⟨Nat.le_of_ble_eq_true rfl, Nat.le_of_ble_eq_true rfl⟩, (by show ce + 1 + 0 ≤ 613022; omega), (by show sl + 6 + 0 ≤ 7185358; omega)⟩ (fun E9 m8 h9 => h9.elim) (fun u8 R h9 => ?_)
  obtain ⟨rfl, h7⟩ := h9
  rw [← h7] at c9
  generalize (X11_addCoal_r g m9 r (xs (5 * j + 1))  C) = yv at c9 ⊢
  show mV g x R _ _ _ _ [.int yv]
  obtain ⟨w1, w2, wl, wd⟩ := c9.next (q := o) hp v9.sr (by first | exact Or.inl rfl | exact Or.inr rfl) wk.1 wk.2.1
  obtain ⟨w3, w4⟩ := c9.out wk (by decide)
  clear c9
  refine v_istore (pc := 295) hX dL_law_295 (by decide) rfl ?_
  refine v_aload_n (pc := 297) hX dL_law_297 rfl ?_
  refine v_callV (z := yX11_thrown) (pc := 298) hX dL_law_298 (c_X11_thrown hO R r w1.2.2.2.1) w1.2.2.2.1.1 rfl wd_1573 wd_1574 wd_1575 wd_16 wd_1576 ⟨by decide, by decide, (by decide +kernel : (parseMethodDescriptor yX11_thrown.desc).map (fun d => d.parameters.length) = some 0)⟩ rfl (Nat.le_of_ble_eq_true rfl) ⟨⟨Nat.le_of_ble_eq_true rfl, Nat.le_of_ble_eq_true rfl⟩, (by show ce + 1 + 0 + 0 ≤ 613022; omega), (by show sl + 6 + 0 + 0 ≤ 7185358; omega)⟩ (fun E9 m8 h9 => h9.elim) (fun u8 m8 h9 => ?_)
  obtain ⟨rfl, h6⟩ := h9
  replace h6 := h6.symm
  subst h6
  rw [show X11_thrown_r g R r = kk from w3]
  show mV g x R _ _ _ _ [.int kk]
  refine v_iload (pc := 301) hX dL_law_301 rfl ?_
  refine v_icmp_eq (tgt := 308) (pc := 303) hX dL_law_303 (by decide) (fun _ => ?_) (fun c => absurd rfl c)
  refine v_iload (pc := 308) hX dL_law_308 rfl ?_
  refine v_if_ne (tgt := 325) (pc := 310) hX dL_law_310 (by decide) (fun _ => ?_) (fun c1 => ?_)
  ·
    refine v_goto (tgt := 2680) (pc := 325) hX dL_law_325 (by decide) ?_
    refine mV_sub (lv' := [(5, .int (nI (5 * j))), (4, .ref d), (3, .ref o), (2, .ref r), (1, .ref b), (0, .ref sc)]) ⟨rfl, rfl, rfl, rfl, rfl, rfl, trivial⟩ ?_
    refine mV_widen (ce' := ce + 24) (sl' := sl + 6000) (by omega) (by omega) ?_
    exact k _ _ w1 w2 (by omega)
  ·
    obtain ⟨wa, wb⟩ := w4 c1
    have hv : gL R o 0 = yv.toInt64 := by rw [wl, wa, wb]
    refine v_aload_n (pc := 313) hX dL_law_313 rfl ?_
    refine v_iconst (v := 0) (pc := 314) hX dL_law_314 (by decide) ?_
    refine v_lald (pc := 315) hX dL_law_315 w2.2.2.2.1 (j := 0) rfl (by decide) (by decide) hv ?_
    refine v_iload (pc := 316) hX dL_law_316 rfl ?_
    refine v_i2l (pc := 318) hX dL_law_318 ?_
    refine v_lcmp (pc := 319) hX dL_law_319 ?_
    refine v_if_eq (tgt := 325) (pc := 320) hX dL_law_320 (by decide) (fun _ => ?_) (fun c => absurd (lg_self _) c)
    refine v_goto (tgt := 2680) (pc := 325) hX dL_law_325 (by decide) ?_
    refine mV_sub (lv' := [(5, .int (nI (5 * j))), (4, .ref d), (3, .ref o), (2, .ref r), (1, .ref b), (0, .ref sc)]) ⟨rfl, rfl, rfl, rfl, rfl, rfl, trivial⟩ ?_
    refine mV_widen (ce' := ce + 24) (sl' := sl + 6000) (by omega) (by omega) ?_
    exact k _ _ w1 w2 (by omega)
set_option maxHeartbeats 4000000 in
theorem lwc_1 {l : Launch} {g : mG} {x : mCx} {nm : String} {m : mM} {sc b r o d T ce sl j L : Nat} {xs : Nat → Int32} (hO : mO l g) (hd : VD g) (hcm : ∀ j, j < 12 → cmI g (cmA g j) = j) (hX : mX l g x cL_law (yLw nm) room_1 9) (hs : oT g .int sc L (fun i => .int (xs i))) (hw : OBJ g m m b r T) (hp : PL m b r o d) (hT : T + 12 ≤ 9000) (hj : 5 * j + 5 ≤ L) (hL : L ≤ 2560) (hce : ce + 24 ≤ 613022) (hsl : sl + 6000 ≤ 7185358) (k : ∀ (R : mM) (T1 : Nat), OBJ g R R b r T1 → PL R b r o d → T1 ≤ T + 12 → mV g x R (ce + 24) (sl + 6000) 2680 [(5, .int (nI (5 * j))), (4, .ref d), (3, .ref o), (2, .ref r), (1, .ref b), (0, .ref sc)] []) : mV g x m ce sl 328 [(5, .int (nI (5 * j))), (4, .ref d), (3, .ref o), (2, .ref r), (1, .ref b), (0, .ref sc)] [] := by
  obtain ⟨N, H, nx, C, v⟩ := VW.of hw
  have hc : ∀ mr, VW g m mr b r T N H nx C → CL g b r o d (T + 1) m mr (X10_setBellows_m g m b (xs (5 * j + 1)) nx) (X11_setBellows_m g mr r (xs (5 * j + 1))  C) [("java/lang/IllegalArgumentException", 1)] (X10_setBellows_x g m b (xs (5 * j + 1)) nx) (X10_setBellows_r g m b (xs (5 * j + 1)) nx = X11_setBellows_r g mr r (xs (5 * j + 1))  C) := fun mr v => (call_setBellows hd v.1 v.2.2.2 v.2.1 v.2.2.1 (by omega) (xs (5 * j + 1))).toCL hp
  have c0 := hc m v
  refine v_aload_n (pc := 328) hX dL_law_328 rfl ?_
  refine v_aload_n (pc := 329) hX dL_law_329 rfl ?_
  refine v_iload (pc := 330) hX dL_law_330 rfl ?_
  refine v_iconst (v := 1) (pc := 332) hX dL_law_332 (by decide) ?_
  refine v_iadd (pc := 333) hX dL_law_333 ?_
  refine v_tiO (j := 5 * j + 1) (pc := 334) hX dL_law_334 hs (nI_k rfl) (by omega) (by omega) ?_
  show mV g x _ _ _ _ _ [.int (xs (5 * j + 1)), .ref b]
  refine v_aload_n (pc := 335) hX dL_law_335 rfl ?_
  refine v_callSX (z := yL_setBellows) (pc := 336) hX dL_law_336 (c_L_setBellows hO m b (xs (5 * j + 1)) o nx v.sb v.hn v.n9 (c0.ko hp) c0.e1) wd_937 wd_938 wd_0 wd_939 ⟨by decide, by decide, (by decide +kernel : (parseMethodDescriptor yL_setBellows.desc).map (fun d => d.parameters.length) = some 3)⟩ rfl (Nat.le_of_ble_eq_true rfl) ⟨⟨Nat.le_of_ble_eq_true rfl, Nat.le_of_ble_eq_true rfl⟩, (by show ce + 1 ≤ 613022; omega), (by show sl + 6 ≤ 7185358; omega)⟩ (fun E9 m9 h9 => h9.elim) (fun u9 m9 h9 => ?_)
  obtain ⟨kk, rfl, wk⟩ := wkL h9
  clear h9
  have v9 := v.toR (c0.keep (q := o) hp (by have := hp.2.1; have := hp.2.2.1; omega) wk.1 wk.2.1)
  have c9 := hc m9 v9
  clear hc c0
  show mV g x m9 _ _ _ _ [.int kk]
  refine v_istore (pc := 339) hX dL_law_339 (by decide) rfl ?_
  refine v_aload_n (pc := 341) hX dL_law_341 rfl ?_
  refine v_aload_n (pc := 342) hX dL_law_342 rfl ?_
  refine v_iload (pc := 343) hX dL_law_343 rfl ?_
  refine v_iconst (v := 1) (pc := 345) hX dL_law_345 (by decide) ?_
  refine v_iadd (pc := 346) hX dL_law_346 ?_
  refine v_tiO (j := 5 * j + 1) (pc := 347) hX dL_law_347 hs (nI_k rfl) (by omega) (by omega) ?_
  show mV g x _ _ _ _ _ [.int (xs (5 * j + 1)), .ref r]
  refine v_callV (z := yX11_setBellows) (pc := 348) hX dL_law_348 (c_X11_setBellows hO m9 r (xs (5 * j + 1)) C v9.sr v9.hC v9.C8) v9.sr.1 rfl wd_1603 wd_1604 wd_1605 wd_16 wd_1606 ⟨by decide, by decide, (by decide +kernel : (parseMethodDescriptor yX11_setBellows.desc).map (fun d => d.parameters.length) = some 1)⟩ rfl (Nat.le_of_ble_eq_true rfl) ⟨⟨Nat.le_of_ble_eq_true rfl, Nat.le_of_ble_eq_true rfl⟩, (by show ce + 1 + 0 ≤ 613022; omega), (by show sl + 6 + 0 ≤ 7185358; omega)⟩ (fun E9 m8 h9 => h9.elim) (fun u8 R h9 => ?_)
  obtain ⟨rfl, h7⟩ := h9
  rw [← h7] at c9
  generalize (X11_setBellows_r g m9 r (xs (5 * j + 1))  C) = yv at c9 ⊢
  show mV g x R _ _ _ _ [.int yv]
  obtain ⟨w1, w2, wl, wd⟩ := c9.next (q := o) hp v9.sr (by first | exact Or.inl rfl | exact Or.inr rfl) wk.1 wk.2.1
  obtain ⟨w3, w4⟩ := c9.out wk (by decide)
  clear c9
  refine v_istore (pc := 351) hX dL_law_351 (by decide) rfl ?_
  refine v_aload_n (pc := 353) hX dL_law_353 rfl ?_
  refine v_callV (z := yX11_thrown) (pc := 354) hX dL_law_354 (c_X11_thrown hO R r w1.2.2.2.1) w1.2.2.2.1.1 rfl wd_1573 wd_1574 wd_1575 wd_16 wd_1576 ⟨by decide, by decide, (by decide +kernel : (parseMethodDescriptor yX11_thrown.desc).map (fun d => d.parameters.length) = some 0)⟩ rfl (Nat.le_of_ble_eq_true rfl) ⟨⟨Nat.le_of_ble_eq_true rfl, Nat.le_of_ble_eq_true rfl⟩, (by show ce + 1 + 0 + 0 ≤ 613022; omega), (by show sl + 6 + 0 + 0 ≤ 7185358; omega)⟩ (fun E9 m8 h9 => h9.elim) (fun u8 m8 h9 => ?_)
  obtain ⟨rfl, h6⟩ := h9
  replace h6 := h6.symm
  subst h6
  rw [show X11_thrown_r g R r = kk from w3]
  show mV g x R _ _ _ _ [.int kk]
  refine v_iload (pc := 357) hX dL_law_357 rfl ?_
  refine v_icmp_eq (tgt := 364) (pc := 359) hX dL_law_359 (by decide) (fun _ => ?_) (fun c => absurd rfl c)
  refine v_iload (pc := 364) hX dL_law_364 rfl ?_
  refine v_if_ne (tgt := 381) (pc := 366) hX dL_law_366 (by decide) (fun _ => ?_) (fun c1 => ?_)
  ·
    refine v_goto (tgt := 2680) (pc := 381) hX dL_law_381 (by decide) ?_
    refine mV_sub (lv' := [(5, .int (nI (5 * j))), (4, .ref d), (3, .ref o), (2, .ref r), (1, .ref b), (0, .ref sc)]) ⟨rfl, rfl, rfl, rfl, rfl, rfl, trivial⟩ ?_
    refine mV_widen (ce' := ce + 24) (sl' := sl + 6000) (by omega) (by omega) ?_
    exact k _ _ w1 w2 (by omega)
  ·
    obtain ⟨wa, wb⟩ := w4 c1
    have hv : gL R o 0 = yv.toInt64 := by rw [wl, wa, wb]
    refine v_aload_n (pc := 369) hX dL_law_369 rfl ?_
    refine v_iconst (v := 0) (pc := 370) hX dL_law_370 (by decide) ?_
    refine v_lald (pc := 371) hX dL_law_371 w2.2.2.2.1 (j := 0) rfl (by decide) (by decide) hv ?_
    refine v_iload (pc := 372) hX dL_law_372 rfl ?_
    refine v_i2l (pc := 374) hX dL_law_374 ?_
    refine v_lcmp (pc := 375) hX dL_law_375 ?_
    refine v_if_eq (tgt := 381) (pc := 376) hX dL_law_376 (by decide) (fun _ => ?_) (fun c => absurd (lg_self _) c)
    refine v_goto (tgt := 2680) (pc := 381) hX dL_law_381 (by decide) ?_
    refine mV_sub (lv' := [(5, .int (nI (5 * j))), (4, .ref d), (3, .ref o), (2, .ref r), (1, .ref b), (0, .ref sc)]) ⟨rfl, rfl, rfl, rfl, rfl, rfl, trivial⟩ ?_
    refine mV_widen (ce' := ce + 24) (sl' := sl + 6000) (by omega) (by omega) ?_
    exact k _ _ w1 w2 (by omega)
set_option maxHeartbeats 4000000 in
theorem lwc_2 {l : Launch} {g : mG} {x : mCx} {nm : String} {m : mM} {sc b r o d T ce sl j L : Nat} {xs : Nat → Int32} (hO : mO l g) (hd : VD g) (hcm : ∀ j, j < 12 → cmI g (cmA g j) = j) (hX : mX l g x cL_law (yLw nm) room_1 9) (hs : oT g .int sc L (fun i => .int (xs i))) (hw : OBJ g m m b r T) (hp : PL m b r o d) (hT : T + 12 ≤ 9000) (hj : 5 * j + 5 ≤ L) (hL : L ≤ 2560) (hce : ce + 24 ≤ 613022) (hsl : sl + 6000 ≤ 7185358) (k : ∀ (R : mM) (T1 : Nat), OBJ g R R b r T1 → PL R b r o d → T1 ≤ T + 12 → mV g x R (ce + 24) (sl + 6000) 2680 [(5, .int (nI (5 * j))), (4, .ref d), (3, .ref o), (2, .ref r), (1, .ref b), (0, .ref sc)] []) : mV g x m ce sl 384 [(5, .int (nI (5 * j))), (4, .ref d), (3, .ref o), (2, .ref r), (1, .ref b), (0, .ref sc)] [] := by
  obtain ⟨N, H, nx, C, v⟩ := VW.of hw
  have hc : ∀ mr, VW g m mr b r T N H nx C → CL g b r o d (T + 1) m mr (X10_advance_m g m b (xs (5 * j + 1)) N nx) (X11_advance_m g mr r (xs (5 * j + 1)) N C) [("java/lang/IllegalArgumentException", 1)] (X10_advance_x g m b (xs (5 * j + 1)) N nx) (X10_advance_r g m b (xs (5 * j + 1)) N nx = X11_advance_r g mr r (xs (5 * j + 1)) N C) := fun mr v => (call_advance hd v.1 v.2.2.2 v.2.1 v.2.2.1 (by omega) (xs (5 * j + 1))).toCL hp
  have c0 := hc m v
  refine v_aload_n (pc := 384) hX dL_law_384 rfl ?_
  refine v_aload_n (pc := 385) hX dL_law_385 rfl ?_
  refine v_iload (pc := 386) hX dL_law_386 rfl ?_
  refine v_iconst (v := 1) (pc := 388) hX dL_law_388 (by decide) ?_
  refine v_iadd (pc := 389) hX dL_law_389 ?_
  refine v_tiO (j := 5 * j + 1) (pc := 390) hX dL_law_390 hs (nI_k rfl) (by omega) (by omega) ?_
  show mV g x _ _ _ _ _ [.int (xs (5 * j + 1)), .ref b]
  refine v_aload_n (pc := 391) hX dL_law_391 rfl ?_
  refine v_callSX (z := yL_advance) (pc := 392) hX dL_law_392 (c_L_advance hO m b (xs (5 * j + 1)) o N nx v.sb v.hN v.N8 v.hn v.n9 (c0.ko hp) c0.e1) wd_948 wd_949 wd_0 wd_950 ⟨by decide, by decide, (by decide +kernel : (parseMethodDescriptor yL_advance.desc).map (fun d => d.parameters.length) = some 3)⟩ rfl (Nat.le_of_ble_eq_true rfl) ⟨⟨Nat.le_of_ble_eq_true rfl, Nat.le_of_ble_eq_true rfl⟩, (by show ce + 1 ≤ 613022; omega), (by show sl + 6 ≤ 7185358; omega)⟩ (fun E9 m9 h9 => h9.elim) (fun u9 m9 h9 => ?_)
  obtain ⟨kk, rfl, wk⟩ := wkL h9
  clear h9
  have v9 := v.toR (c0.keep (q := o) hp (by have := hp.2.1; have := hp.2.2.1; omega) wk.1 wk.2.1)
  have c9 := hc m9 v9
  clear hc c0
  show mV g x m9 _ _ _ _ [.int kk]
  refine v_istore (pc := 395) hX dL_law_395 (by decide) rfl ?_
  refine v_aload_n (pc := 397) hX dL_law_397 rfl ?_
  refine v_aload_n (pc := 398) hX dL_law_398 rfl ?_
  refine v_iload (pc := 399) hX dL_law_399 rfl ?_
  refine v_iconst (v := 1) (pc := 401) hX dL_law_401 (by decide) ?_
  refine v_iadd (pc := 402) hX dL_law_402 ?_
  refine v_tiO (j := 5 * j + 1) (pc := 403) hX dL_law_403 hs (nI_k rfl) (by omega) (by omega) ?_
  show mV g x _ _ _ _ _ [.int (xs (5 * j + 1)), .ref r]
  refine v_callV (z := yX11_advance) (pc := 404) hX dL_law_404 (c_X11_advance hO m9 r (xs (5 * j + 1)) N C v9.sr v9.rN v9.N8 v9.hC v9.C8) v9.sr.1 rfl wd_1611 wd_1612 wd_1613 wd_16 wd_1614 ⟨by decide, by decide, (by decide +kernel : (parseMethodDescriptor yX11_advance.desc).map (fun d => d.parameters.length) = some 1)⟩ rfl (Nat.le_of_ble_eq_true rfl) ⟨⟨Nat.le_of_ble_eq_true rfl, Nat.le_of_ble_eq_true rfl⟩, (by show ce + 1 + 0 ≤ 613022; omega), (by show sl + 6 + 0 ≤ 7185358; omega)⟩ (fun E9 m8 h9 => h9.elim) (fun u8 R h9 => ?_)
  obtain ⟨rfl, h7⟩ := h9
  rw [← h7] at c9
  generalize (X11_advance_r g m9 r (xs (5 * j + 1)) N C) = yv at c9 ⊢
  show mV g x R _ _ _ _ [.int yv]
  obtain ⟨w1, w2, wl, wd⟩ := c9.next (q := o) hp v9.sr (by first | exact Or.inl rfl | exact Or.inr rfl) wk.1 wk.2.1
  obtain ⟨w3, w4⟩ := c9.out wk (by decide)
  clear c9
  refine v_istore (pc := 407) hX dL_law_407 (by decide) rfl ?_
  refine v_aload_n (pc := 409) hX dL_law_409 rfl ?_
  refine v_callV (z := yX11_thrown) (pc := 410) hX dL_law_410 (c_X11_thrown hO R r w1.2.2.2.1) w1.2.2.2.1.1 rfl wd_1573 wd_1574 wd_1575 wd_16 wd_1576 ⟨by decide, by decide, (by decide +kernel : (parseMethodDescriptor yX11_thrown.desc).map (fun d => d.parameters.length) = some 0)⟩ rfl (Nat.le_of_ble_eq_true rfl) ⟨⟨Nat.le_of_ble_eq_true rfl, Nat.le_of_ble_eq_true rfl⟩, (by show ce + 1 + 0 + 0 ≤ 613022; omega), (by show sl + 6 + 0 + 0 ≤ 7185358; omega)⟩ (fun E9 m8 h9 => h9.elim) (fun u8 m8 h9 => ?_)
  obtain ⟨rfl, h6⟩ := h9
  replace h6 := h6.symm
  subst h6
  rw [show X11_thrown_r g R r = kk from w3]
  show mV g x R _ _ _ _ [.int kk]
  refine v_iload (pc := 413) hX dL_law_413 rfl ?_
  refine v_icmp_eq (tgt := 420) (pc := 415) hX dL_law_415 (by decide) (fun _ => ?_) (fun c => absurd rfl c)
  refine v_iload (pc := 420) hX dL_law_420 rfl ?_
  refine v_if_ne (tgt := 437) (pc := 422) hX dL_law_422 (by decide) (fun _ => ?_) (fun c1 => ?_)
  ·
    refine v_goto (tgt := 2680) (pc := 437) hX dL_law_437 (by decide) ?_
    refine mV_sub (lv' := [(5, .int (nI (5 * j))), (4, .ref d), (3, .ref o), (2, .ref r), (1, .ref b), (0, .ref sc)]) ⟨rfl, rfl, rfl, rfl, rfl, rfl, trivial⟩ ?_
    refine mV_widen (ce' := ce + 24) (sl' := sl + 6000) (by omega) (by omega) ?_
    exact k _ _ w1 w2 (by omega)
  ·
    obtain ⟨wa, wb⟩ := w4 c1
    have hv : gL R o 0 = yv.toInt64 := by rw [wl, wa, wb]
    refine v_aload_n (pc := 425) hX dL_law_425 rfl ?_
    refine v_iconst (v := 0) (pc := 426) hX dL_law_426 (by decide) ?_
    refine v_lald (pc := 427) hX dL_law_427 w2.2.2.2.1 (j := 0) rfl (by decide) (by decide) hv ?_
    refine v_iload (pc := 428) hX dL_law_428 rfl ?_
    refine v_i2l (pc := 430) hX dL_law_430 ?_
    refine v_lcmp (pc := 431) hX dL_law_431 ?_
    refine v_if_eq (tgt := 437) (pc := 432) hX dL_law_432 (by decide) (fun _ => ?_) (fun c => absurd (lg_self _) c)
    refine v_goto (tgt := 2680) (pc := 437) hX dL_law_437 (by decide) ?_
    refine mV_sub (lv' := [(5, .int (nI (5 * j))), (4, .ref d), (3, .ref o), (2, .ref r), (1, .ref b), (0, .ref sc)]) ⟨rfl, rfl, rfl, rfl, rfl, rfl, trivial⟩ ?_
    refine mV_widen (ce' := ce + 24) (sl' := sl + 6000) (by omega) (by omega) ?_
    exact k _ _ w1 w2 (by omega)
set_option maxHeartbeats 4000000 in
theorem lwc_3 {l : Launch} {g : mG} {x : mCx} {nm : String} {m : mM} {sc b r o d T ce sl j L : Nat} {xs : Nat → Int32} (hO : mO l g) (hd : VD g) (hcm : ∀ j, j < 12 → cmI g (cmA g j) = j) (hX : mX l g x cL_law (yLw nm) room_1 9) (hs : oT g .int sc L (fun i => .int (xs i))) (hw : OBJ g m m b r T) (hp : PL m b r o d) (hT : T + 12 ≤ 9000) (hj : 5 * j + 5 ≤ L) (hL : L ≤ 2560) (hce : ce + 24 ≤ 613022) (hsl : sl + 6000 ≤ 7185358) (k : ∀ (R : mM) (T1 : Nat), OBJ g R R b r T1 → PL R b r o d → T1 ≤ T + 12 → mV g x R (ce + 24) (sl + 6000) 2680 [(5, .int (nI (5 * j))), (4, .ref d), (3, .ref o), (2, .ref r), (1, .ref b), (0, .ref sc)] []) : mV g x m ce sl 440 [(5, .int (nI (5 * j))), (4, .ref d), (3, .ref o), (2, .ref r), (1, .ref b), (0, .ref sc)] [] := by
  obtain ⟨N, H, nx, C, v⟩ := VW.of hw
  have hc : ∀ mr, VW g m mr b r T N H nx C → CL g b r o d (T + 1) m mr (X10_addPiece_m g m b (((xs (5 * j + 1)).toUInt32 % 65536).toInt32) N nx) (X11_addPiece_m g mr r (((xs (5 * j + 1)).toUInt32 % 65536).toInt32) N C) [("java/lang/IllegalArgumentException", 1), ("java/lang/IllegalStateException", 2)] (X10_addPiece_x g m b (((xs (5 * j + 1)).toUInt32 % 65536).toInt32) N nx) (X10_addPiece_r g m b (((xs (5 * j + 1)).toUInt32 % 65536).toInt32) N nx = X11_addPiece_r g mr r (((xs (5 * j + 1)).toUInt32 % 65536).toInt32) N C) := fun mr v => (call_addPiece hd v.1 v.2.2.2 v.2.1 v.2.2.1 (by omega) (((xs (5 * j + 1)).toUInt32 % 65536).toInt32)).toCL hp
  have c0 := hc m v
  refine v_aload_n (pc := 440) hX dL_law_440 rfl ?_
  refine v_aload_n (pc := 441) hX dL_law_441 rfl ?_
  refine v_iload (pc := 442) hX dL_law_442 rfl ?_
  refine v_iconst (v := 1) (pc := 444) hX dL_law_444 (by decide) ?_
  refine v_iadd (pc := 445) hX dL_law_445 ?_
  refine v_tiO (j := 5 * j + 1) (pc := 446) hX dL_law_446 hs (nI_k rfl) (by omega) (by omega) ?_
  show mV g x _ _ _ _ _ [.int (xs (5 * j + 1)), .ref b]
  refine v_i2c (v := (((xs (5 * j + 1)).toUInt32 % 65536).toInt32)) (pc := 447) hX dL_law_447 rfl ?_
  refine v_aload_n (pc := 448) hX dL_law_448 rfl ?_
  refine v_callSX (z := yL_addPiece) (pc := 449) hX dL_law_449 (c_L_addPiece hO m b (((xs (5 * j + 1)).toUInt32 % 65536).toInt32) o N nx v.sb v.hN v.N8 v.hn v.n9 (c0.ko hp) c0.e2) wd_960 wd_961 wd_0 wd_962 ⟨by decide, by decide, (by decide +kernel : (parseMethodDescriptor yL_addPiece.desc).map (fun d => d.parameters.length) = some 3)⟩ rfl (Nat.le_of_ble_eq_true rfl) ⟨⟨Nat.le_of_ble_eq_true rfl, Nat.le_of_ble_eq_true rfl⟩, (by show ce + 1 ≤ 613022; omega), (by show sl + 6 ≤ 7185358; omega)⟩ (fun E9 m9 h9 => h9.elim) (fun u9 m9 h9 => ?_)
  obtain ⟨kk, rfl, wk⟩ := wkL h9
  clear h9
  have v9 := v.toR (c0.keep (q := o) hp (by have := hp.2.1; have := hp.2.2.1; omega) wk.1 wk.2.1)
  have c9 := hc m9 v9
  clear hc c0
  show mV g x m9 _ _ _ _ [.int kk]
  refine v_istore (pc := 452) hX dL_law_452 (by decide) rfl ?_
  refine v_aload_n (pc := 454) hX dL_law_454 rfl ?_
  refine v_aload_n (pc := 455) hX dL_law_455 rfl ?_
  refine v_iload (pc := 456) hX dL_law_456 rfl ?_
  refine v_iconst (v := 1) (pc := 458) hX dL_law_458 (by decide) ?_
  refine v_iadd (pc := 459) hX dL_law_459 ?_
  refine v_tiO (j := 5 * j + 1) (pc := 460) hX dL_law_460 hs (nI_k rfl) (by omega) (by omega) ?_
  show mV g x _ _ _ _ _ [.int (xs (5 * j + 1)), .ref r]
  refine v_i2c (v := (((xs (5 * j + 1)).toUInt32 % 65536).toInt32)) (pc := 461) hX dL_law_461 rfl ?_
  refine v_callV (z := yX11_addPiece) (pc := 462) hX dL_law_462 (c_X11_addPiece hO m9 r (((xs (5 * j + 1)).toUInt32 % 65536).toInt32) N C v9.sr v9.rN v9.N8 v9.hC v9.C8) v9.sr.1 rfl wd_1632 wd_1633 wd_1634 wd_16 wd_1635 ⟨by decide, by decide, (by decide +kernel : (parseMethodDescriptor yX11_addPiece.desc).map (fun d => d.parameters.length) = some 1)⟩ rfl (Nat.le_of_ble_eq_true rfl) ⟨⟨Nat.le_of_ble_eq_true rfl, Nat.le_of_ble_eq_true rfl⟩, (by show ce + 1 + 0 ≤ 613022; omega), (by show sl + 6 + 0 ≤ 7185358; omega)⟩ (fun E9 m8 h9 => h9.elim) (fun u8 R h9 => ?_)
  obtain ⟨rfl, h7⟩ := h9
  rw [← h7] at c9
  generalize (X11_addPiece_r g m9 r (((xs (5 * j + 1)).toUInt32 % 65536).toInt32) N C) = yv at c9 ⊢
  show mV g x R _ _ _ _ [.int yv]
  obtain ⟨w1, w2, wl, wd⟩ := c9.next (q := o) hp v9.sr (by first | exact Or.inl rfl | exact Or.inr rfl) wk.1 wk.2.1
  obtain ⟨w3, w4⟩ := c9.out wk (by decide)
  clear c9
  refine v_istore (pc := 465) hX dL_law_465 (by decide) rfl ?_
  refine v_aload_n (pc := 467) hX dL_law_467 rfl ?_
  refine v_callV (z := yX11_thrown) (pc := 468) hX dL_law_468 (c_X11_thrown hO R r w1.2.2.2.1) w1.2.2.2.1.1 rfl wd_1573 wd_1574 wd_1575 wd_16 wd_1576 ⟨by decide, by decide, (by decide +kernel : (parseMethodDescriptor yX11_thrown.desc).map (fun d => d.parameters.length) = some 0)⟩ rfl (Nat.le_of_ble_eq_true rfl) ⟨⟨Nat.le_of_ble_eq_true rfl, Nat.le_of_ble_eq_true rfl⟩, (by show ce + 1 + 0 + 0 ≤ 613022; omega), (by show sl + 6 + 0 + 0 ≤ 7185358; omega)⟩ (fun E9 m8 h9 => h9.elim) (fun u8 m8 h9 => ?_)
  obtain ⟨rfl, h6⟩ := h9
  replace h6 := h6.symm
  subst h6
  rw [show X11_thrown_r g R r = kk from w3]
  show mV g x R _ _ _ _ [.int kk]
  refine v_iload (pc := 471) hX dL_law_471 rfl ?_
  refine v_icmp_eq (tgt := 478) (pc := 473) hX dL_law_473 (by decide) (fun _ => ?_) (fun c => absurd rfl c)
  refine v_iload (pc := 478) hX dL_law_478 rfl ?_
  refine v_if_ne (tgt := 495) (pc := 480) hX dL_law_480 (by decide) (fun _ => ?_) (fun c1 => ?_)
  ·
    refine v_goto (tgt := 2680) (pc := 495) hX dL_law_495 (by decide) ?_
    refine mV_sub (lv' := [(5, .int (nI (5 * j))), (4, .ref d), (3, .ref o), (2, .ref r), (1, .ref b), (0, .ref sc)]) ⟨rfl, rfl, rfl, rfl, rfl, rfl, trivial⟩ ?_
    refine mV_widen (ce' := ce + 24) (sl' := sl + 6000) (by omega) (by omega) ?_
    exact k _ _ w1 w2 (by omega)
  ·
    obtain ⟨wa, wb⟩ := w4 c1
    have hv : gL R o 0 = yv.toInt64 := by rw [wl, wa, wb]
    refine v_aload_n (pc := 483) hX dL_law_483 rfl ?_
    refine v_iconst (v := 0) (pc := 484) hX dL_law_484 (by decide) ?_
    refine v_lald (pc := 485) hX dL_law_485 w2.2.2.2.1 (j := 0) rfl (by decide) (by decide) hv ?_
    refine v_iload (pc := 486) hX dL_law_486 rfl ?_
    refine v_i2l (pc := 488) hX dL_law_488 ?_
    refine v_lcmp (pc := 489) hX dL_law_489 ?_
    refine v_if_eq (tgt := 495) (pc := 490) hX dL_law_490 (by decide) (fun _ => ?_) (fun c => absurd (lg_self _) c)
    refine v_goto (tgt := 2680) (pc := 495) hX dL_law_495 (by decide) ?_
    refine mV_sub (lv' := [(5, .int (nI (5 * j))), (4, .ref d), (3, .ref o), (2, .ref r), (1, .ref b), (0, .ref sc)]) ⟨rfl, rfl, rfl, rfl, rfl, rfl, trivial⟩ ?_
    refine mV_widen (ce' := ce + 24) (sl' := sl + 6000) (by omega) (by omega) ?_
    exact k _ _ w1 w2 (by omega)
set_option maxHeartbeats 4000000 in
theorem lwc_4 {l : Launch} {g : mG} {x : mCx} {nm : String} {m : mM} {sc b r o d T ce sl j L : Nat} {xs : Nat → Int32} (hO : mO l g) (hd : VD g) (hcm : ∀ j, j < 12 → cmI g (cmA g j) = j) (hX : mX l g x cL_law (yLw nm) room_1 9) (hs : oT g .int sc L (fun i => .int (xs i))) (hw : OBJ g m m b r T) (hp : PL m b r o d) (hT : T + 12 ≤ 9000) (hj : 5 * j + 5 ≤ L) (hL : L ≤ 2560) (hce : ce + 24 ≤ 613022) (hsl : sl + 6000 ≤ 7185358) (k : ∀ (R : mM) (T1 : Nat), OBJ g R R b r T1 → PL R b r o d → T1 ≤ T + 12 → mV g x R (ce + 24) (sl + 6000) 2680 [(5, .int (nI (5 * j))), (4, .ref d), (3, .ref o), (2, .ref r), (1, .ref b), (0, .ref sc)] []) : mV g x m ce sl 498 [(5, .int (nI (5 * j))), (4, .ref d), (3, .ref o), (2, .ref r), (1, .ref b), (0, .ref sc)] [] := by
  obtain ⟨N, H, nx, C, v⟩ := VW.of hw
  have hc : ∀ mr, VW g m mr b r T N H nx C → CL g b r o d (T + 1) m mr (X10_addHammer_m g m b (xs (5 * j + 1)) H nx) (X11_addHammer_m g mr r (xs (5 * j + 1)) H C) [("java/lang/IllegalArgumentException", 1), ("java/lang/IllegalStateException", 2)] (X10_addHammer_x g m b (xs (5 * j + 1)) H nx) (X10_addHammer_r g m b (xs (5 * j + 1)) H nx = X11_addHammer_r g mr r (xs (5 * j + 1)) H C) := fun mr v => (call_addHammer hd v.1 v.2.2.2 v.2.1 v.2.2.1 (by omega) (xs (5 * j + 1))).toCL hp
  have c0 := hc m v
  refine v_aload_n (pc := 498) hX dL_law_498 rfl ?_
  refine v_aload_n (pc := 499) hX dL_law_499 rfl ?_
  refine v_iload (pc := 500) hX dL_law_500 rfl ?_
  refine v_iconst (v := 1) (pc := 502) hX dL_law_502 (by decide) ?_
  refine v_iadd (pc := 503) hX dL_law_503 ?_
  refine v_tiO (j := 5 * j + 1) (pc := 504) hX dL_law_504 hs (nI_k rfl) (by omega) (by omega) ?_
  show mV g x _ _ _ _ _ [.int (xs (5 * j + 1)), .ref b]
  refine v_aload_n (pc := 505) hX dL_law_505 rfl ?_
  refine v_callSX (z := yL_addHammer) (pc := 506) hX dL_law_506 (c_L_addHammer hO m b (xs (5 * j + 1)) o H nx v.sb v.hH v.H4 v.hn v.n9 (c0.ko hp) c0.e2) wd_975 wd_976 wd_0 wd_977 ⟨by decide, by decide, (by decide +kernel : (parseMethodDescriptor yL_addHammer.desc).map (fun d => d.parameters.length) = some 3)⟩ rfl (Nat.le_of_ble_eq_true rfl) ⟨⟨Nat.le_of_ble_eq_true rfl, Nat.le_of_ble_eq_true rfl⟩, (by show ce + 1 ≤ 613022; omega), (by show sl + 6 ≤ 7185358; omega)⟩ (fun E9 m9 h9 => h9.elim) (fun u9 m9 h9 => ?_)
  obtain ⟨kk, rfl, wk⟩ := wkL h9
  clear h9
  have v9 := v.toR (c0.keep (q := o) hp (by have := hp.2.1; have := hp.2.2.1; omega) wk.1 wk.2.1)
  have c9 := hc m9 v9
  clear hc c0
  show mV g x m9 _ _ _ _ [.int kk]
  refine v_istore (pc := 509) hX dL_law_509 (by decide) rfl ?_
  refine v_aload_n (pc := 511) hX dL_law_511 rfl ?_
  refine v_aload_n (pc := 512) hX dL_law_512 rfl ?_
  refine v_iload (pc := 513) hX dL_law_513 rfl ?_
  refine v_iconst (v := 1) (pc := 515) hX dL_law_515 (by decide) ?_
  refine v_iadd (pc := 516) hX dL_law_516 ?_
  refine v_tiO (j := 5 * j + 1) (pc := 517) hX dL_law_517 hs (nI_k rfl) (by omega) (by omega) ?_
  show mV g x _ _ _ _ _ [.int (xs (5 * j + 1)), .ref r]
  refine v_callV (z := yX11_addHammer) (pc := 518) hX dL_law_518 (c_X11_addHammer hO m9 r (xs (5 * j + 1)) H C v9.sr v9.rH v9.H4 v9.hC v9.C8) v9.sr.1 rfl wd_1640 wd_1641 wd_1642 wd_16 wd_1643 ⟨by decide, by decide, (by decide +kernel : (parseMethodDescriptor yX11_addHammer.desc).map (fun d => d.parameters.length) = some 1)⟩ rfl (Nat.le_of_ble_eq_true rfl) ⟨⟨Nat.le_of_ble_eq_true rfl, Nat.le_of_ble_eq_true rfl⟩, (by show ce + 1 + 0 ≤ 613022; omega), (by show sl + 6 + 0 ≤ 7185358; omega)⟩ (fun E9 m8 h9 => h9.elim) (fun u8 R h9 => ?_)
  obtain ⟨rfl, h7⟩ := h9
  rw [← h7] at c9
  generalize (X11_addHammer_r g m9 r (xs (5 * j + 1)) H C) = yv at c9 ⊢
  show mV g x R _ _ _ _ [.int yv]
  obtain ⟨w1, w2, wl, wd⟩ := c9.next (q := o) hp v9.sr (by first | exact Or.inl rfl | exact Or.inr rfl) wk.1 wk.2.1
  obtain ⟨w3, w4⟩ := c9.out wk (by decide)
  clear c9
  refine v_istore (pc := 521) hX dL_law_521 (by decide) rfl ?_
  refine v_aload_n (pc := 523) hX dL_law_523 rfl ?_
  refine v_callV (z := yX11_thrown) (pc := 524) hX dL_law_524 (c_X11_thrown hO R r w1.2.2.2.1) w1.2.2.2.1.1 rfl wd_1573 wd_1574 wd_1575 wd_16 wd_1576 ⟨by decide, by decide, (by decide +kernel : (parseMethodDescriptor yX11_thrown.desc).map (fun d => d.parameters.length) = some 0)⟩ rfl (Nat.le_of_ble_eq_true rfl) ⟨⟨Nat.le_of_ble_eq_true rfl, Nat.le_of_ble_eq_true rfl⟩, (by show ce + 1 + 0 + 0 ≤ 613022; omega), (by show sl + 6 + 0 + 0 ≤ 7185358; omega)⟩ (fun E9 m8 h9 => h9.elim) (fun u8 m8 h9 => ?_)
  obtain ⟨rfl, h6⟩ := h9
  replace h6 := h6.symm
  subst h6
  rw [show X11_thrown_r g R r = kk from w3]
  show mV g x R _ _ _ _ [.int kk]
  refine v_iload (pc := 527) hX dL_law_527 rfl ?_
  refine v_icmp_eq (tgt := 534) (pc := 529) hX dL_law_529 (by decide) (fun _ => ?_) (fun c => absurd rfl c)
  refine v_iload (pc := 534) hX dL_law_534 rfl ?_
  refine v_if_ne (tgt := 551) (pc := 536) hX dL_law_536 (by decide) (fun _ => ?_) (fun c1 => ?_)
  ·
    refine v_goto (tgt := 2680) (pc := 551) hX dL_law_551 (by decide) ?_
    refine mV_sub (lv' := [(5, .int (nI (5 * j))), (4, .ref d), (3, .ref o), (2, .ref r), (1, .ref b), (0, .ref sc)]) ⟨rfl, rfl, rfl, rfl, rfl, rfl, trivial⟩ ?_
    refine mV_widen (ce' := ce + 24) (sl' := sl + 6000) (by omega) (by omega) ?_
    exact k _ _ w1 w2 (by omega)
  ·
    obtain ⟨wa, wb⟩ := w4 c1
    have hv : gL R o 0 = yv.toInt64 := by rw [wl, wa, wb]
    refine v_aload_n (pc := 539) hX dL_law_539 rfl ?_
    refine v_iconst (v := 0) (pc := 540) hX dL_law_540 (by decide) ?_
    refine v_lald (pc := 541) hX dL_law_541 w2.2.2.2.1 (j := 0) rfl (by decide) (by decide) hv ?_
    refine v_iload (pc := 542) hX dL_law_542 rfl ?_
    refine v_i2l (pc := 544) hX dL_law_544 ?_
    refine v_lcmp (pc := 545) hX dL_law_545 ?_
    refine v_if_eq (tgt := 551) (pc := 546) hX dL_law_546 (by decide) (fun _ => ?_) (fun c => absurd (lg_self _) c)
    refine v_goto (tgt := 2680) (pc := 551) hX dL_law_551 (by decide) ?_
    refine mV_sub (lv' := [(5, .int (nI (5 * j))), (4, .ref d), (3, .ref o), (2, .ref r), (1, .ref b), (0, .ref sc)]) ⟨rfl, rfl, rfl, rfl, rfl, rfl, trivial⟩ ?_
    refine mV_widen (ce' := ce + 24) (sl' := sl + 6000) (by omega) (by omega) ?_
    exact k _ _ w1 w2 (by omega)
set_option maxHeartbeats 4000000 in
theorem lwc_5 {l : Launch} {g : mG} {x : mCx} {nm : String} {m : mM} {sc b r o d T ce sl j L : Nat} {xs : Nat → Int32} (hO : mO l g) (hd : VD g) (hcm : ∀ j, j < 12 → cmI g (cmA g j) = j) (hX : mX l g x cL_law (yLw nm) room_1 9) (hs : oT g .int sc L (fun i => .int (xs i))) (hw : OBJ g m m b r T) (hp : PL m b r o d) (hT : T + 12 ≤ 9000) (hj : 5 * j + 5 ≤ L) (hL : L ≤ 2560) (hce : ce + 24 ≤ 613022) (hsl : sl + 6000 ≤ 7185358) (k : ∀ (R : mM) (T1 : Nat), OBJ g R R b r T1 → PL R b r o d → T1 ≤ T + 12 → mV g x R (ce + 24) (sl + 6000) 2680 [(5, .int (nI (5 * j))), (4, .ref d), (3, .ref o), (2, .ref r), (1, .ref b), (0, .ref sc)] []) : mV g x m ce sl 554 [(5, .int (nI (5 * j))), (4, .ref d), (3, .ref o), (2, .ref r), (1, .ref b), (0, .ref sc)] [] := by
  obtain ⟨N, H, nx, C, v⟩ := VW.of hw
  have hc : ∀ mr, VW g m mr b r T N H nx C → CL g b r o d (T + 1) m mr (X10_putIn_m g m b (xs (5 * j + 1)) N nx) (X11_putIn_m g mr r (xs (5 * j + 1)) N C) [("java/util/NoSuchElementException", 1), ("java/lang/IllegalStateException", 2)] (X10_putIn_x g m b (xs (5 * j + 1)) N nx) (X10_putIn_r g m b (xs (5 * j + 1)) N nx = X11_putIn_r g mr r (xs (5 * j + 1)) N C) := fun mr v => (call_putIn hd v.1 v.2.2.2 v.2.1 v.2.2.1 (by omega) (xs (5 * j + 1))).toCL hp
  have c0 := hc m v
  refine v_aload_n (pc := 554) hX dL_law_554 rfl ?_
  refine v_aload_n (pc := 555) hX dL_law_555 rfl ?_
  refine v_iload (pc := 556) hX dL_law_556 rfl ?_
  refine v_iconst (v := 1) (pc := 558) hX dL_law_558 (by decide) ?_
  refine v_iadd (pc := 559) hX dL_law_559 ?_
  refine v_tiO (j := 5 * j + 1) (pc := 560) hX dL_law_560 hs (nI_k rfl) (by omega) (by omega) ?_
  show mV g x _ _ _ _ _ [.int (xs (5 * j + 1)), .ref b]
  refine v_aload_n (pc := 561) hX dL_law_561 rfl ?_
  refine v_callSX (z := yL_putIn) (pc := 562) hX dL_law_562 (c_L_putIn hO m b (xs (5 * j + 1)) o N nx v.sb v.hN v.N8 v.hn v.n9 (c0.ko hp) c0.e2) wd_990 wd_991 wd_0 wd_992 ⟨by decide, by decide, (by decide +kernel : (parseMethodDescriptor yL_putIn.desc).map (fun d => d.parameters.length) = some 3)⟩ rfl (Nat.le_of_ble_eq_true rfl) ⟨⟨Nat.le_of_ble_eq_true rfl, Nat.le_of_ble_eq_true rfl⟩, (by show ce + 1 ≤ 613022; omega), (by show sl + 6 ≤ 7185358; omega)⟩ (fun E9 m9 h9 => h9.elim) (fun u9 m9 h9 => ?_)
  obtain ⟨kk, rfl, wk⟩ := wkL h9
  clear h9
  have v9 := v.toR (c0.keep (q := o) hp (by have := hp.2.1; have := hp.2.2.1; omega) wk.1 wk.2.1)
  have c9 := hc m9 v9
  clear hc c0
  show mV g x m9 _ _ _ _ [.int kk]
  refine v_istore (pc := 565) hX dL_law_565 (by decide) rfl ?_
  refine v_aload_n (pc := 567) hX dL_law_567 rfl ?_
  refine v_aload_n (pc := 568) hX dL_law_568 rfl ?_
  refine v_iload (pc := 569) hX dL_law_569 rfl ?_
  refine v_iconst (v := 1) (pc := 571) hX dL_law_571 (by decide) ?_
  refine v_iadd (pc := 572) hX dL_law_572 ?_
  refine v_tiO (j := 5 * j + 1) (pc := 573) hX dL_law_573 hs (nI_k rfl) (by omega) (by omega) ?_
  show mV g x _ _ _ _ _ [.int (xs (5 * j + 1)), .ref r]
  refine v_callV (z := yX11_putIn) (pc := 574) hX dL_law_574 (c_X11_putIn hO m9 r (xs (5 * j + 1)) N C v9.sr v9.rN v9.N8 v9.hC v9.C8) v9.sr.1 rfl wd_1648 wd_1649 wd_1650 wd_16 wd_1651 ⟨by decide, by decide, (by decide +kernel : (parseMethodDescriptor yX11_putIn.desc).map (fun d => d.parameters.length) = some 1)⟩ rfl (Nat.le_of_ble_eq_true rfl) ⟨⟨Nat.le_of_ble_eq_true rfl, Nat.le_of_ble_eq_true rfl⟩, (by show ce + 1 + 0 ≤ 613022; omega), (by show sl + 6 + 0 ≤ 7185358; omega)⟩ (fun E9 m8 h9 => h9.elim) (fun u8 R h9 => ?_)
  obtain ⟨rfl, h7⟩ := h9
  rw [← h7] at c9
  generalize (X11_putIn_r g m9 r (xs (5 * j + 1)) N C) = yv at c9 ⊢
  show mV g x R _ _ _ _ [.int yv]
  obtain ⟨w1, w2, wl, wd⟩ := c9.next (q := o) hp v9.sr (by first | exact Or.inl rfl | exact Or.inr rfl) wk.1 wk.2.1
  obtain ⟨w3, w4⟩ := c9.out wk (by decide)
  clear c9
  refine v_istore (pc := 577) hX dL_law_577 (by decide) rfl ?_
  refine v_aload_n (pc := 579) hX dL_law_579 rfl ?_
  refine v_callV (z := yX11_thrown) (pc := 580) hX dL_law_580 (c_X11_thrown hO R r w1.2.2.2.1) w1.2.2.2.1.1 rfl wd_1573 wd_1574 wd_1575 wd_16 wd_1576 ⟨by decide, by decide, (by decide +kernel : (parseMethodDescriptor yX11_thrown.desc).map (fun d => d.parameters.length) = some 0)⟩ rfl (Nat.le_of_ble_eq_true rfl) ⟨⟨Nat.le_of_ble_eq_true rfl, Nat.le_of_ble_eq_true rfl⟩, (by show ce + 1 + 0 + 0 ≤ 613022; omega), (by show sl + 6 + 0 + 0 ≤ 7185358; omega)⟩ (fun E9 m8 h9 => h9.elim) (fun u8 m8 h9 => ?_)
  obtain ⟨rfl, h6⟩ := h9
  replace h6 := h6.symm
  subst h6
  rw [show X11_thrown_r g R r = kk from w3]
  show mV g x R _ _ _ _ [.int kk]
  refine v_iload (pc := 583) hX dL_law_583 rfl ?_
  refine v_icmp_eq (tgt := 590) (pc := 585) hX dL_law_585 (by decide) (fun _ => ?_) (fun c => absurd rfl c)
  refine v_iload (pc := 590) hX dL_law_590 rfl ?_
  refine v_if_ne (tgt := 607) (pc := 592) hX dL_law_592 (by decide) (fun _ => ?_) (fun c1 => ?_)
  ·
    refine v_goto (tgt := 2680) (pc := 607) hX dL_law_607 (by decide) ?_
    refine mV_sub (lv' := [(5, .int (nI (5 * j))), (4, .ref d), (3, .ref o), (2, .ref r), (1, .ref b), (0, .ref sc)]) ⟨rfl, rfl, rfl, rfl, rfl, rfl, trivial⟩ ?_
    refine mV_widen (ce' := ce + 24) (sl' := sl + 6000) (by omega) (by omega) ?_
    exact k _ _ w1 w2 (by omega)
  ·
    obtain ⟨wa, wb⟩ := w4 c1
    have hv : gL R o 0 = yv.toInt64 := by rw [wl, wa, wb]
    refine v_aload_n (pc := 595) hX dL_law_595 rfl ?_
    refine v_iconst (v := 0) (pc := 596) hX dL_law_596 (by decide) ?_
    refine v_lald (pc := 597) hX dL_law_597 w2.2.2.2.1 (j := 0) rfl (by decide) (by decide) hv ?_
    refine v_iload (pc := 598) hX dL_law_598 rfl ?_
    refine v_i2l (pc := 600) hX dL_law_600 ?_
    refine v_lcmp (pc := 601) hX dL_law_601 ?_
    refine v_if_eq (tgt := 607) (pc := 602) hX dL_law_602 (by decide) (fun _ => ?_) (fun c => absurd (lg_self _) c)
    refine v_goto (tgt := 2680) (pc := 607) hX dL_law_607 (by decide) ?_
    refine mV_sub (lv' := [(5, .int (nI (5 * j))), (4, .ref d), (3, .ref o), (2, .ref r), (1, .ref b), (0, .ref sc)]) ⟨rfl, rfl, rfl, rfl, rfl, rfl, trivial⟩ ?_
    refine mV_widen (ce' := ce + 24) (sl' := sl + 6000) (by omega) (by omega) ?_
    exact k _ _ w1 w2 (by omega)
set_option maxHeartbeats 4000000 in
theorem lwc_6 {l : Launch} {g : mG} {x : mCx} {nm : String} {m : mM} {sc b r o d T ce sl j L : Nat} {xs : Nat → Int32} (hO : mO l g) (hd : VD g) (hcm : ∀ j, j < 12 → cmI g (cmA g j) = j) (hX : mX l g x cL_law (yLw nm) room_1 9) (hs : oT g .int sc L (fun i => .int (xs i))) (hw : OBJ g m m b r T) (hp : PL m b r o d) (hT : T + 12 ≤ 9000) (hj : 5 * j + 5 ≤ L) (hL : L ≤ 2560) (hce : ce + 24 ≤ 613022) (hsl : sl + 6000 ≤ 7185358) (k : ∀ (R : mM) (T1 : Nat), OBJ g R R b r T1 → PL R b r o d → T1 ≤ T + 12 → mV g x R (ce + 24) (sl + 6000) 2680 [(5, .int (nI (5 * j))), (4, .ref d), (3, .ref o), (2, .ref r), (1, .ref b), (0, .ref sc)] []) : mV g x m ce sl 610 [(5, .int (nI (5 * j))), (4, .ref d), (3, .ref o), (2, .ref r), (1, .ref b), (0, .ref sc)] [] := by
  obtain ⟨N, H, nx, C, v⟩ := VW.of hw
  have hc : ∀ mr, VW g m mr b r T N H nx C → CL g b r o d (T + 1) m mr (X10_takeOut_m g m b (xs (5 * j + 1)) N nx) (X11_takeOut_m g mr r (xs (5 * j + 1)) N C) [("java/util/NoSuchElementException", 1), ("java/lang/IllegalStateException", 2)] (X10_takeOut_x g m b (xs (5 * j + 1)) N nx) (X10_takeOut_r g m b (xs (5 * j + 1)) N nx = X11_takeOut_r g mr r (xs (5 * j + 1)) N C) := fun mr v => (call_takeOut hd v.1 v.2.2.2 v.2.1 v.2.2.1 (by omega) (xs (5 * j + 1))).toCL hp
  have c0 := hc m v
  refine v_aload_n (pc := 610) hX dL_law_610 rfl ?_
  refine v_aload_n (pc := 611) hX dL_law_611 rfl ?_
  refine v_iload (pc := 612) hX dL_law_612 rfl ?_
  refine v_iconst (v := 1) (pc := 614) hX dL_law_614 (by decide) ?_
  refine v_iadd (pc := 615) hX dL_law_615 ?_
  refine v_tiO (j := 5 * j + 1) (pc := 616) hX dL_law_616 hs (nI_k rfl) (by omega) (by omega) ?_
  show mV g x _ _ _ _ _ [.int (xs (5 * j + 1)), .ref b]
  refine v_aload_n (pc := 617) hX dL_law_617 rfl ?_
  refine v_callSX (z := yL_takeOut) (pc := 618) hX dL_law_618 (c_L_takeOut hO m b (xs (5 * j + 1)) o N nx v.sb v.hN v.N8 v.hn v.n9 (c0.ko hp) c0.e2) wd_1004 wd_1005 wd_0 wd_1006 ⟨by decide, by decide, (by decide +kernel : (parseMethodDescriptor yL_takeOut.desc).map (fun d => d.parameters.length) = some 3)⟩ rfl (Nat.le_of_ble_eq_true rfl) ⟨⟨Nat.le_of_ble_eq_true rfl, Nat.le_of_ble_eq_true rfl⟩, (by show ce + 1 ≤ 613022; omega), (by show sl + 6 ≤ 7185358; omega)⟩ (fun E9 m9 h9 => h9.elim) (fun u9 m9 h9 => ?_)
  obtain ⟨kk, rfl, wk⟩ := wkL h9
  clear h9
  have v9 := v.toR (c0.keep (q := o) hp (by have := hp.2.1; have := hp.2.2.1; omega) wk.1 wk.2.1)
  have c9 := hc m9 v9
  clear hc c0
  show mV g x m9 _ _ _ _ [.int kk]
  refine v_istore (pc := 621) hX dL_law_621 (by decide) rfl ?_
  refine v_aload_n (pc := 623) hX dL_law_623 rfl ?_
  refine v_aload_n (pc := 624) hX dL_law_624 rfl ?_
  refine v_iload (pc := 625) hX dL_law_625 rfl ?_
  refine v_iconst (v := 1) (pc := 627) hX dL_law_627 (by decide) ?_
  refine v_iadd (pc := 628) hX dL_law_628 ?_
  refine v_tiO (j := 5 * j + 1) (pc := 629) hX dL_law_629 hs (nI_k rfl) (by omega) (by omega) ?_
  show mV g x _ _ _ _ _ [.int (xs (5 * j + 1)), .ref r]
  refine v_callV (z := yX11_takeOut) (pc := 630) hX dL_law_630 (c_X11_takeOut hO m9 r (xs (5 * j + 1)) N C v9.sr v9.rN v9.N8 v9.hC v9.C8) v9.sr.1 rfl wd_1664 wd_1665 wd_1666 wd_16 wd_1667 ⟨by decide, by decide, (by decide +kernel : (parseMethodDescriptor yX11_takeOut.desc).map (fun d => d.parameters.length) = some 1)⟩ rfl (Nat.le_of_ble_eq_true rfl) ⟨⟨Nat.le_of_ble_eq_true rfl, Nat.le_of_ble_eq_true rfl⟩, (by show ce + 1 + 0 ≤ 613022; omega), (by show sl + 6 + 0 ≤ 7185358; omega)⟩ (fun E9 m8 h9 => h9.elim) (fun u8 R h9 => ?_)
  obtain ⟨rfl, h7⟩ := h9
  rw [← h7] at c9
  generalize (X11_takeOut_r g m9 r (xs (5 * j + 1)) N C) = yv at c9 ⊢
  show mV g x R _ _ _ _ [.int yv]
  obtain ⟨w1, w2, wl, wd⟩ := c9.next (q := o) hp v9.sr (by first | exact Or.inl rfl | exact Or.inr rfl) wk.1 wk.2.1
  obtain ⟨w3, w4⟩ := c9.out wk (by decide)
  clear c9
  refine v_istore (pc := 633) hX dL_law_633 (by decide) rfl ?_
  refine v_aload_n (pc := 635) hX dL_law_635 rfl ?_
  refine v_callV (z := yX11_thrown) (pc := 636) hX dL_law_636 (c_X11_thrown hO R r w1.2.2.2.1) w1.2.2.2.1.1 rfl wd_1573 wd_1574 wd_1575 wd_16 wd_1576 ⟨by decide, by decide, (by decide +kernel : (parseMethodDescriptor yX11_thrown.desc).map (fun d => d.parameters.length) = some 0)⟩ rfl (Nat.le_of_ble_eq_true rfl) ⟨⟨Nat.le_of_ble_eq_true rfl, Nat.le_of_ble_eq_true rfl⟩, (by show ce + 1 + 0 + 0 ≤ 613022; omega), (by show sl + 6 + 0 + 0 ≤ 7185358; omega)⟩ (fun E9 m8 h9 => h9.elim) (fun u8 m8 h9 => ?_)
  obtain ⟨rfl, h6⟩ := h9
  replace h6 := h6.symm
  subst h6
  rw [show X11_thrown_r g R r = kk from w3]
  show mV g x R _ _ _ _ [.int kk]
  refine v_iload (pc := 639) hX dL_law_639 rfl ?_
  refine v_icmp_eq (tgt := 646) (pc := 641) hX dL_law_641 (by decide) (fun _ => ?_) (fun c => absurd rfl c)
  refine v_iload (pc := 646) hX dL_law_646 rfl ?_
  refine v_if_ne (tgt := 663) (pc := 648) hX dL_law_648 (by decide) (fun _ => ?_) (fun c1 => ?_)
  ·
    refine v_goto (tgt := 2680) (pc := 663) hX dL_law_663 (by decide) ?_
    refine mV_sub (lv' := [(5, .int (nI (5 * j))), (4, .ref d), (3, .ref o), (2, .ref r), (1, .ref b), (0, .ref sc)]) ⟨rfl, rfl, rfl, rfl, rfl, rfl, trivial⟩ ?_
    refine mV_widen (ce' := ce + 24) (sl' := sl + 6000) (by omega) (by omega) ?_
    exact k _ _ w1 w2 (by omega)
  ·
    obtain ⟨wa, wb⟩ := w4 c1
    have hv : gL R o 0 = yv.toInt64 := by rw [wl, wa, wb]
    refine v_aload_n (pc := 651) hX dL_law_651 rfl ?_
    refine v_iconst (v := 0) (pc := 652) hX dL_law_652 (by decide) ?_
    refine v_lald (pc := 653) hX dL_law_653 w2.2.2.2.1 (j := 0) rfl (by decide) (by decide) hv ?_
    refine v_iload (pc := 654) hX dL_law_654 rfl ?_
    refine v_i2l (pc := 656) hX dL_law_656 ?_
    refine v_lcmp (pc := 657) hX dL_law_657 ?_
    refine v_if_eq (tgt := 663) (pc := 658) hX dL_law_658 (by decide) (fun _ => ?_) (fun c => absurd (lg_self _) c)
    refine v_goto (tgt := 2680) (pc := 663) hX dL_law_663 (by decide) ?_
    refine mV_sub (lv' := [(5, .int (nI (5 * j))), (4, .ref d), (3, .ref o), (2, .ref r), (1, .ref b), (0, .ref sc)]) ⟨rfl, rfl, rfl, rfl, rfl, rfl, trivial⟩ ?_
    refine mV_widen (ce' := ce + 24) (sl' := sl + 6000) (by omega) (by omega) ?_
    exact k _ _ w1 w2 (by omega)
set_option maxHeartbeats 4000000 in
theorem lwc_7 {l : Launch} {g : mG} {x : mCx} {nm : String} {m : mM} {sc b r o d T ce sl j L : Nat} {xs : Nat → Int32} (hO : mO l g) (hd : VD g) (hcm : ∀ j, j < 12 → cmI g (cmA g j) = j) (hX : mX l g x cL_law (yLw nm) room_1 9) (hs : oT g .int sc L (fun i => .int (xs i))) (hw : OBJ g m m b r T) (hp : PL m b r o d) (hT : T + 12 ≤ 9000) (hj : 5 * j + 5 ≤ L) (hL : L ≤ 2560) (hce : ce + 24 ≤ 613022) (hsl : sl + 6000 ≤ 7185358) (k : ∀ (R : mM) (T1 : Nat), OBJ g R R b r T1 → PL R b r o d → T1 ≤ T + 12 → mV g x R (ce + 24) (sl + 6000) 2680 [(5, .int (nI (5 * j))), (4, .ref d), (3, .ref o), (2, .ref r), (1, .ref b), (0, .ref sc)] []) : mV g x m ce sl 666 [(5, .int (nI (5 * j))), (4, .ref d), (3, .ref o), (2, .ref r), (1, .ref b), (0, .ref sc)] [] := by
  obtain ⟨N, H, nx, C, v⟩ := VW.of hw
  have hc : ∀ mr, VW g m mr b r T N H nx C → CL g b r o d (T + 1) m mr (X10_hammer_m g m b (xs (5 * j + 1)) (xs (5 * j + 2)) N H nx) (X11_hammer_m g mr r (xs (5 * j + 1)) (xs (5 * j + 2)) N H C) [("java/util/NoSuchElementException", 1), ("java/lang/IndexOutOfBoundsException", 2), ("java/lang/IllegalStateException", 3), ("java/lang/UnsupportedOperationException", 4)] (X10_hammer_x g m b (xs (5 * j + 1)) (xs (5 * j + 2)) N H nx) (X10_hammer_r g m b (xs (5 * j + 1)) (xs (5 * j + 2)) N H nx = X11_hammer_r g mr r (xs (5 * j + 1)) (xs (5 * j + 2)) N H C) := fun mr v => (call_hammer hd v.1 v.2.2.2 v.2.1 v.2.2.1 (by omega) (xs (5 * j + 1)) (xs (5 * j + 2))).toCL hp
  have c0 := hc m v
  refine v_aload_n (pc := 666) hX dL_law_666 rfl ?_
  refine v_aload_n (pc := 667) hX dL_law_667 rfl ?_
  refine v_iload (pc := 668) hX dL_law_668 rfl ?_
  refine v_iconst (v := 1) (pc := 670) hX dL_law_670 (by decide) ?_
  refine v_iadd (pc := 671) hX dL_law_671 ?_
  refine v_tiO (j := 5 * j + 1) (pc := 672) hX dL_law_672 hs (nI_k rfl) (by omega) (by omega) ?_
  show mV g x _ _ _ _ _ [.int (xs (5 * j + 1)), .ref b]
  refine v_aload_n (pc := 673) hX dL_law_673 rfl ?_
  refine v_iload (pc := 674) hX dL_law_674 rfl ?_
  refine v_iconst (v := 2) (pc := 676) hX dL_law_676 (by decide) ?_
  refine v_iadd (pc := 677) hX dL_law_677 ?_
  refine v_tiO (j := 5 * j + 2) (pc := 678) hX dL_law_678 hs (nI_k rfl) (by omega) (by omega) ?_
  show mV g x _ _ _ _ _ [.int (xs (5 * j + 2)), .int (xs (5 * j + 1)), .ref b]
  refine v_aload_n (pc := 679) hX dL_law_679 rfl ?_
  refine v_callSX (z := yL_hammer) (pc := 680) hX dL_law_680 (c_L_hammer hO m b (xs (5 * j + 1)) (xs (5 * j + 2)) o N H nx v.sb v.hN v.N8 v.hH v.H4 v.hn v.n9 (c0.ko hp) c0.e4) wd_1015 wd_1016 wd_0 wd_1017 ⟨by decide, by decide, (by decide +kernel : (parseMethodDescriptor yL_hammer.desc).map (fun d => d.parameters.length) = some 4)⟩ rfl (Nat.le_of_ble_eq_true rfl) ⟨⟨Nat.le_of_ble_eq_true rfl, Nat.le_of_ble_eq_true rfl⟩, (by show ce + 1 ≤ 613022; omega), (by show sl + 6 ≤ 7185358; omega)⟩ (fun E9 m9 h9 => h9.elim) (fun u9 m9 h9 => ?_)
  obtain ⟨kk, rfl, wk⟩ := wkL h9
  clear h9
  have v9 := v.toR (c0.keep (q := o) hp (by have := hp.2.1; have := hp.2.2.1; omega) wk.1 wk.2.1)
  have c9 := hc m9 v9
  clear hc c0
  show mV g x m9 _ _ _ _ [.int kk]
  refine v_istore (pc := 683) hX dL_law_683 (by decide) rfl ?_
  refine v_aload_n (pc := 685) hX dL_law_685 rfl ?_
  refine v_aload_n (pc := 686) hX dL_law_686 rfl ?_
  refine v_iload (pc := 687) hX dL_law_687 rfl ?_
  refine v_iconst (v := 1) (pc := 689) hX dL_law_689 (by decide) ?_
  refine v_iadd (pc := 690) hX dL_law_690 ?_
  refine v_tiO (j := 5 * j + 1) (pc := 691) hX dL_law_691 hs (nI_k rfl) (by omega) (by omega) ?_
  show mV g x _ _ _ _ _ [.int (xs (5 * j + 1)), .ref r]
  refine v_aload_n (pc := 692) hX dL_law_692 rfl ?_
  refine v_iload (pc := 693) hX dL_law_693 rfl ?_
  refine v_iconst (v := 2) (pc := 695) hX dL_law_695 (by decide) ?_
  refine v_iadd (pc := 696) hX dL_law_696 ?_
  refine v_tiO (j := 5 * j + 2) (pc := 697) hX dL_law_697 hs (nI_k rfl) (by omega) (by omega) ?_
  show mV g x _ _ _ _ _ [.int (xs (5 * j + 2)), .int (xs (5 * j + 1)), .ref r]
  refine v_callV (z := yX11_hammer) (pc := 698) hX dL_law_698 (c_X11_hammer hO m9 r (xs (5 * j + 1)) (xs (5 * j + 2)) N H C v9.sr v9.rN v9.N8 v9.rH v9.H4 v9.hC v9.C8) v9.sr.1 rfl wd_1672 wd_1673 wd_1674 wd_16 wd_1675 ⟨by decide, by decide, (by decide +kernel : (parseMethodDescriptor yX11_hammer.desc).map (fun d => d.parameters.length) = some 2)⟩ rfl (Nat.le_of_ble_eq_true rfl) ⟨⟨Nat.le_of_ble_eq_true rfl, Nat.le_of_ble_eq_true rfl⟩, (by show ce + 1 + 0 ≤ 613022; omega), (by show sl + 6 + 0 ≤ 7185358; omega)⟩ (fun E9 m8 h9 => h9.elim) (fun u8 R h9 => ?_)
  obtain ⟨rfl, h7⟩ := h9
  rw [← h7] at c9
  generalize (X11_hammer_r g m9 r (xs (5 * j + 1)) (xs (5 * j + 2)) N H C) = yv at c9 ⊢
  show mV g x R _ _ _ _ [.int yv]
  obtain ⟨w1, w2, wl, wd⟩ := c9.next (q := o) hp v9.sr (by first | exact Or.inl rfl | exact Or.inr rfl) wk.1 wk.2.1
  obtain ⟨w3, w4⟩ := c9.out wk (by decide)
  clear c9
  refine v_istore (pc := 701) hX dL_law_701 (by decide) rfl ?_
  refine v_aload_n (pc := 703) hX dL_law_703 rfl ?_
  refine v_callV (z := yX11_thrown) (pc := 704) hX dL_law_704 (c_X11_thrown hO R r w1.2.2.2.1) w1.2.2.2.1.1 rfl wd_1573 wd_1574 wd_1575 wd_16 wd_1576 ⟨by decide, by decide, (by decide +kernel : (parseMethodDescriptor yX11_thrown.desc).map (fun d => d.parameters.length) = some 0)⟩ rfl (Nat.le_of_ble_eq_true rfl) ⟨⟨Nat.le_of_ble_eq_true rfl, Nat.le_of_ble_eq_true rfl⟩, (by show ce + 1 + 0 + 0 ≤ 613022; omega), (by show sl + 6 + 0 + 0 ≤ 7185358; omega)⟩ (fun E9 m8 h9 => h9.elim) (fun u8 m8 h9 => ?_)
  obtain ⟨rfl, h6⟩ := h9
  replace h6 := h6.symm
  subst h6
  rw [show X11_thrown_r g R r = kk from w3]
  show mV g x R _ _ _ _ [.int kk]
  refine v_iload (pc := 707) hX dL_law_707 rfl ?_
  refine v_icmp_eq (tgt := 714) (pc := 709) hX dL_law_709 (by decide) (fun _ => ?_) (fun c => absurd rfl c)
  refine v_iload (pc := 714) hX dL_law_714 rfl ?_
  refine v_if_ne (tgt := 731) (pc := 716) hX dL_law_716 (by decide) (fun _ => ?_) (fun c1 => ?_)
  ·
    refine v_goto (tgt := 2680) (pc := 731) hX dL_law_731 (by decide) ?_
    refine mV_sub (lv' := [(5, .int (nI (5 * j))), (4, .ref d), (3, .ref o), (2, .ref r), (1, .ref b), (0, .ref sc)]) ⟨rfl, rfl, rfl, rfl, rfl, rfl, trivial⟩ ?_
    refine mV_widen (ce' := ce + 24) (sl' := sl + 6000) (by omega) (by omega) ?_
    exact k _ _ w1 w2 (by omega)
  ·
    obtain ⟨wa, wb⟩ := w4 c1
    have hv : gL R o 0 = yv.toInt64 := by rw [wl, wa, wb]
    refine v_aload_n (pc := 719) hX dL_law_719 rfl ?_
    refine v_iconst (v := 0) (pc := 720) hX dL_law_720 (by decide) ?_
    refine v_lald (pc := 721) hX dL_law_721 w2.2.2.2.1 (j := 0) rfl (by decide) (by decide) hv ?_
    refine v_iload (pc := 722) hX dL_law_722 rfl ?_
    refine v_i2l (pc := 724) hX dL_law_724 ?_
    refine v_lcmp (pc := 725) hX dL_law_725 ?_
    refine v_if_eq (tgt := 731) (pc := 726) hX dL_law_726 (by decide) (fun _ => ?_) (fun c => absurd (lg_self _) c)
    refine v_goto (tgt := 2680) (pc := 731) hX dL_law_731 (by decide) ?_
    refine mV_sub (lv' := [(5, .int (nI (5 * j))), (4, .ref d), (3, .ref o), (2, .ref r), (1, .ref b), (0, .ref sc)]) ⟨rfl, rfl, rfl, rfl, rfl, rfl, trivial⟩ ?_
    refine mV_widen (ce' := ce + 24) (sl' := sl + 6000) (by omega) (by omega) ?_
    exact k _ _ w1 w2 (by omega)
set_option maxHeartbeats 4000000 in
theorem lwc_8 {l : Launch} {g : mG} {x : mCx} {nm : String} {m : mM} {sc b r o d T ce sl j L : Nat} {xs : Nat → Int32} (hO : mO l g) (hd : VD g) (hcm : ∀ j, j < 12 → cmI g (cmA g j) = j) (hX : mX l g x cL_law (yLw nm) room_1 9) (hs : oT g .int sc L (fun i => .int (xs i))) (hw : OBJ g m m b r T) (hp : PL m b r o d) (hT : T + 12 ≤ 9000) (hj : 5 * j + 5 ≤ L) (hL : L ≤ 2560) (hce : ce + 24 ≤ 613022) (hsl : sl + 6000 ≤ 7185358) (k : ∀ (R : mM) (T1 : Nat), OBJ g R R b r T1 → PL R b r o d → T1 ≤ T + 12 → mV g x R (ce + 24) (sl + 6000) 2680 [(5, .int (nI (5 * j))), (4, .ref d), (3, .ref o), (2, .ref r), (1, .ref b), (0, .ref sc)] []) : mV g x m ce sl 734 [(5, .int (nI (5 * j))), (4, .ref d), (3, .ref o), (2, .ref r), (1, .ref b), (0, .ref sc)] [] := by
  obtain ⟨N, H, nx, C, v⟩ := VW.of hw
  have hc : ∀ mr, VW g m mr b r T N H nx C → CL g b r o d (T + 1) m mr (X10_quench_m g m b (xs (5 * j + 1)) N nx) (X11_quench_m g mr r (xs (5 * j + 1)) N C) [("java/util/NoSuchElementException", 1), ("java/lang/IllegalStateException", 2), ("java/lang/UnsupportedOperationException", 3)] (X10_quench_x g m b (xs (5 * j + 1)) N nx) (X10_quench_r g m b (xs (5 * j + 1)) N nx = X11_quench_r g mr r (xs (5 * j + 1)) N C) := fun mr v => (call_quench hd v.1 v.2.2.2 v.2.1 v.2.2.1 (by omega) (xs (5 * j + 1))).toCL hp
  have c0 := hc m v
  refine v_aload_n (pc := 734) hX dL_law_734 rfl ?_
  refine v_aload_n (pc := 735) hX dL_law_735 rfl ?_
  refine v_iload (pc := 736) hX dL_law_736 rfl ?_
  refine v_iconst (v := 1) (pc := 738) hX dL_law_738 (by decide) ?_
  refine v_iadd (pc := 739) hX dL_law_739 ?_
  refine v_tiO (j := 5 * j + 1) (pc := 740) hX dL_law_740 hs (nI_k rfl) (by omega) (by omega) ?_
  show mV g x _ _ _ _ _ [.int (xs (5 * j + 1)), .ref b]
  refine v_aload_n (pc := 741) hX dL_law_741 rfl ?_
  refine v_callSX (z := yL_quench) (pc := 742) hX dL_law_742 (c_L_quench hO m b (xs (5 * j + 1)) o N nx v.sb v.hN v.N8 v.hn v.n9 (c0.ko hp) c0.e3) wd_1047 wd_1048 wd_0 wd_1049 ⟨by decide, by decide, (by decide +kernel : (parseMethodDescriptor yL_quench.desc).map (fun d => d.parameters.length) = some 3)⟩ rfl (Nat.le_of_ble_eq_true rfl) ⟨⟨Nat.le_of_ble_eq_true rfl, Nat.le_of_ble_eq_true rfl⟩, (by show ce + 1 ≤ 613022; omega), (by show sl + 6 ≤ 7185358; omega)⟩ (fun E9 m9 h9 => h9.elim) (fun u9 m9 h9 => ?_)
  obtain ⟨kk, rfl, wk⟩ := wkL h9
  clear h9
  have v9 := v.toR (c0.keep (q := o) hp (by have := hp.2.1; have := hp.2.2.1; omega) wk.1 wk.2.1)
  have c9 := hc m9 v9
  clear hc c0
  show mV g x m9 _ _ _ _ [.int kk]
  refine v_istore (pc := 745) hX dL_law_745 (by decide) rfl ?_
  refine v_aload_n (pc := 747) hX dL_law_747 rfl ?_
  refine v_aload_n (pc := 748) hX dL_law_748 rfl ?_
  refine v_iload (pc := 749) hX dL_law_749 rfl ?_
  refine v_iconst (v := 1) (pc := 751) hX dL_law_751 (by decide) ?_
  refine v_iadd (pc := 752) hX dL_law_752 ?_
  refine v_tiO (j := 5 * j + 1) (pc := 753) hX dL_law_753 hs (nI_k rfl) (by omega) (by omega) ?_
  show mV g x _ _ _ _ _ [.int (xs (5 * j + 1)), .ref r]
  refine v_callV (z := yX11_quench) (pc := 754) hX dL_law_754 (c_X11_quench hO m9 r (xs (5 * j + 1)) N C v9.sr v9.rN v9.N8 v9.hC v9.C8) v9.sr.1 rfl wd_1700 wd_1701 wd_1702 wd_16 wd_1703 ⟨by decide, by decide, (by decide +kernel : (parseMethodDescriptor yX11_quench.desc).map (fun d => d.parameters.length) = some 1)⟩ rfl (Nat.le_of_ble_eq_true rfl) ⟨⟨Nat.le_of_ble_eq_true rfl, Nat.le_of_ble_eq_true rfl⟩, (by show ce + 1 + 0 ≤ 613022; omega), (by show sl + 6 + 0 ≤ 7185358; omega)⟩ (fun E9 m8 h9 => h9.elim) (fun u8 R h9 => ?_)
  obtain ⟨rfl, h7⟩ := h9
  rw [← h7] at c9
  generalize (X11_quench_r g m9 r (xs (5 * j + 1)) N C) = yv at c9 ⊢
  show mV g x R _ _ _ _ [.int yv]
  obtain ⟨w1, w2, wl, wd⟩ := c9.next (q := o) hp v9.sr (by first | exact Or.inl rfl | exact Or.inr rfl) wk.1 wk.2.1
  obtain ⟨w3, w4⟩ := c9.out wk (by decide)
  clear c9
  refine v_istore (pc := 757) hX dL_law_757 (by decide) rfl ?_
  refine v_aload_n (pc := 759) hX dL_law_759 rfl ?_
  refine v_callV (z := yX11_thrown) (pc := 760) hX dL_law_760 (c_X11_thrown hO R r w1.2.2.2.1) w1.2.2.2.1.1 rfl wd_1573 wd_1574 wd_1575 wd_16 wd_1576 ⟨by decide, by decide, (by decide +kernel : (parseMethodDescriptor yX11_thrown.desc).map (fun d => d.parameters.length) = some 0)⟩ rfl (Nat.le_of_ble_eq_true rfl) ⟨⟨Nat.le_of_ble_eq_true rfl, Nat.le_of_ble_eq_true rfl⟩, (by show ce + 1 + 0 + 0 ≤ 613022; omega), (by show sl + 6 + 0 + 0 ≤ 7185358; omega)⟩ (fun E9 m8 h9 => h9.elim) (fun u8 m8 h9 => ?_)
  obtain ⟨rfl, h6⟩ := h9
  replace h6 := h6.symm
  subst h6
  rw [show X11_thrown_r g R r = kk from w3]
  show mV g x R _ _ _ _ [.int kk]
  refine v_iload (pc := 763) hX dL_law_763 rfl ?_
  refine v_icmp_eq (tgt := 770) (pc := 765) hX dL_law_765 (by decide) (fun _ => ?_) (fun c => absurd rfl c)
  refine v_iload (pc := 770) hX dL_law_770 rfl ?_
  refine v_if_ne (tgt := 787) (pc := 772) hX dL_law_772 (by decide) (fun _ => ?_) (fun c1 => ?_)
  ·
    refine v_goto (tgt := 2680) (pc := 787) hX dL_law_787 (by decide) ?_
    refine mV_sub (lv' := [(5, .int (nI (5 * j))), (4, .ref d), (3, .ref o), (2, .ref r), (1, .ref b), (0, .ref sc)]) ⟨rfl, rfl, rfl, rfl, rfl, rfl, trivial⟩ ?_
    refine mV_widen (ce' := ce + 24) (sl' := sl + 6000) (by omega) (by omega) ?_
    exact k _ _ w1 w2 (by omega)
  ·
    obtain ⟨wa, wb⟩ := w4 c1
    have hv : gL R o 0 = yv.toInt64 := by rw [wl, wa, wb]
    refine v_aload_n (pc := 775) hX dL_law_775 rfl ?_
    refine v_iconst (v := 0) (pc := 776) hX dL_law_776 (by decide) ?_
    refine v_lald (pc := 777) hX dL_law_777 w2.2.2.2.1 (j := 0) rfl (by decide) (by decide) hv ?_
    refine v_iload (pc := 778) hX dL_law_778 rfl ?_
    refine v_i2l (pc := 780) hX dL_law_780 ?_
    refine v_lcmp (pc := 781) hX dL_law_781 ?_
    refine v_if_eq (tgt := 787) (pc := 782) hX dL_law_782 (by decide) (fun _ => ?_) (fun c => absurd (lg_self _) c)
    refine v_goto (tgt := 2680) (pc := 787) hX dL_law_787 (by decide) ?_
    refine mV_sub (lv' := [(5, .int (nI (5 * j))), (4, .ref d), (3, .ref o), (2, .ref r), (1, .ref b), (0, .ref sc)]) ⟨rfl, rfl, rfl, rfl, rfl, rfl, trivial⟩ ?_
    refine mV_widen (ce' := ce + 24) (sl' := sl + 6000) (by omega) (by omega) ?_
    exact k _ _ w1 w2 (by omega)
