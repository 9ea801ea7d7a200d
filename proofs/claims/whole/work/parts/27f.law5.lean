/-! THE LAW'S CALLS (5) -/
set_option maxHeartbeats 4000000 in
theorem lwc_36 {l : Launch} {g : mG} {x : mCx} {nm : String} {m : mM} {sc b r o d T ce sl j L : Nat} {xs : Nat → Int32} (hO : mO l g) (hd : VD g) (hcm : ∀ j, j < 12 → cmI g (cmA g j) = j) (hX : mX l g x cL_law (yLw nm) room_1 9) (hs : oT g .int sc L (fun i => .int (xs i))) (hw : OBJ g m m b r T) (hp : PL m b r o d) (hT : T + 12 ≤ 9000) (hj : 5 * j + 5 ≤ L) (hL : L ≤ 2560) (hce : ce + 24 ≤ 613022) (hsl : sl + 6000 ≤ 7185358) (k : ∀ (R : mM) (T1 : Nat), OBJ g R R b r T1 → PL R b r o d → T1 ≤ T + 12 → mV g x R (ce + 24) (sl + 6000) 2680 [(5, .int (nI (5 * j))), (4, .ref d), (3, .ref o), (2, .ref r), (1, .ref b), (0, .ref sc)] []) : mV g x m ce sl 2058 [(5, .int (nI (5 * j))), (4, .ref d), (3, .ref o), (2, .ref r), (1, .ref b), (0, .ref sc)] [] := by
  obtain ⟨N, H, nx, C, v⟩ := VW.of hw
  have hc : ∀ mr, VW g m mr b r T N H nx C → CL g b r o d T m mr m (X11_heaviestHammer_m g mr r H) [("java/util/NoSuchElementException", 1)] (X10_heaviestHammer_x g m b H) (X10_heaviestHammer_r g m b H = X11_heaviestHammer_r g mr r H) := fun mr v => (q_heaviestHammer v.1 v.2.1 v.2.2.1).toCL hp
  have c0 := hc m v
  refine v_aload_n (pc := 2058) hX dL_law_2058 rfl ?_
  refine v_aload_n (pc := 2059) hX dL_law_2059 rfl ?_
  refine v_callSX (z := yL_heaviestHammer) (pc := 2060) hX dL_law_2060 (c_L_heaviestHammer hO m b o H v.sb v.hH v.H4 hp.2.2.2.1 c0.e1) wd_1283 wd_1284 wd_0 wd_1285 ⟨by decide, by decide, (by decide +kernel : (parseMethodDescriptor yL_heaviestHammer.desc).map (fun d => d.parameters.length) = some 2)⟩ rfl (Nat.le_of_ble_eq_true rfl) ⟨⟨Nat.le_of_ble_eq_true rfl, Nat.le_of_ble_eq_true rfl⟩, (by show ce + 1 ≤ 613022; omega), (by show sl + 6 ≤ 7185358; omega)⟩ (fun E9 m9 h9 => h9.elim) (fun u9 m9 h9 => ?_)
  obtain ⟨kk, rfl, wk⟩ := wkL h9
  clear h9
  have v9 := v.toR (c0.keep (q := o) hp (by have := hp.2.1; have := hp.2.2.1; omega) wk.1 wk.2.1)
  have c9 := hc m9 v9
  clear hc c0
  show mV g x m9 _ _ _ _ [.int kk]
  refine v_istore (pc := 2063) hX dL_law_2063 (by decide) rfl ?_
  refine v_aload_n (pc := 2065) hX dL_law_2065 rfl ?_
  refine v_callV (z := yX11_heaviestHammer) (pc := 2066) hX dL_law_2066 (c_X11_heaviestHammer hO m9 r H v9.sr v9.rH v9.H4) v9.sr.1 rfl wd_1849 wd_1850 wd_1851 wd_16 wd_1852 ⟨by decide, by decide, (by decide +kernel : (parseMethodDescriptor yX11_heaviestHammer.desc).map (fun d => d.parameters.length) = some 0)⟩ rfl (Nat.le_of_ble_eq_true rfl) ⟨⟨Nat.le_of_ble_eq_true rfl, Nat.le_of_ble_eq_true rfl⟩, (by show ce + 1 + 0 ≤ 613022; omega), (by show sl + 6 + 0 ≤ 7185358; omega)⟩ (fun E9 m8 h9 => h9.elim) (fun u8 R h9 => ?_)
  obtain ⟨rfl, h7⟩ := h9
  rw [← h7] at c9
  generalize (X11_heaviestHammer_r g m9 r H) = yv at c9 ⊢
  show mV g x R _ _ _ _ [.int yv]
  obtain ⟨w1, w2, wl, wd⟩ := c9.next (q := o) hp v9.sr (by first | exact Or.inl rfl | exact Or.inr rfl) wk.1 wk.2.1
  obtain ⟨w3, w4⟩ := c9.out wk (by decide)
  clear c9
  refine v_istore (pc := 2069) hX dL_law_2069 (by decide) rfl ?_
  refine v_aload_n (pc := 2071) hX dL_law_2071 rfl ?_
  refine v_callV (z := yX11_thrown) (pc := 2072) hX dL_law_2072 (c_X11_thrown hO R r w1.2.2.2.1) w1.2.2.2.1.1 rfl wd_1573 wd_1574 wd_1575 wd_16 wd_1576 ⟨by decide, by decide, (by decide +kernel : (parseMethodDescriptor yX11_thrown.desc).map (fun d => d.parameters.length) = some 0)⟩ rfl (Nat.le_of_ble_eq_true rfl) ⟨⟨Nat.le_of_ble_eq_true rfl, Nat.le_of_ble_eq_true rfl⟩, (by show ce + 1 + 0 + 0 ≤ 613022; omega), (by show sl + 6 + 0 + 0 ≤ 7185358; omega)⟩ (fun E9 m8 h9 => h9.elim) (fun u8 m8 h9 => ?_)
  obtain ⟨rfl, h6⟩ := h9
  replace h6 := h6.symm
  subst h6
  rw [show X11_thrown_r g R r = kk from w3]
  show mV g x R _ _ _ _ [.int kk]
  refine v_iload (pc := 2075) hX dL_law_2075 rfl ?_
  refine v_icmp_eq (tgt := 2082) (pc := 2077) hX dL_law_2077 (by decide) (fun _ => ?_) (fun c => absurd rfl c)
  refine v_iload (pc := 2082) hX dL_law_2082 rfl ?_
  refine v_if_ne (tgt := 2099) (pc := 2084) hX dL_law_2084 (by decide) (fun _ => ?_) (fun c1 => ?_)
  ·
    refine v_goto (tgt := 2680) (pc := 2099) hX dL_law_2099 (by decide) ?_
    refine mV_sub (lv' := [(5, .int (nI (5 * j))), (4, .ref d), (3, .ref o), (2, .ref r), (1, .ref b), (0, .ref sc)]) ⟨rfl, rfl, rfl, rfl, rfl, rfl, trivial⟩ ?_
    refine mV_widen (ce' := ce + 24) (sl' := sl + 6000) (by omega) (by omega) ?_
    exact k _ _ w1 w2 (by omega)
  ·
    obtain ⟨wa, wb⟩ := w4 c1
    have hv : gL R o 0 = yv.toInt64 := by rw [wl, wa, wb]
    refine v_aload_n (pc := 2087) hX dL_law_2087 rfl ?_
    refine v_iconst (v := 0) (pc := 2088) hX dL_law_2088 (by decide) ?_
    refine v_lald (pc := 2089) hX dL_law_2089 w2.2.2.2.1 (j := 0) rfl (by decide) (by decide) hv ?_
    refine v_iload (pc := 2090) hX dL_law_2090 rfl ?_
    refine v_i2l (pc := 2092) hX dL_law_2092 ?_
    refine v_lcmp (pc := 2093) hX dL_law_2093 ?_
    refine v_if_eq (tgt := 2099) (pc := 2094) hX dL_law_2094 (by decide) (fun _ => ?_) (fun c => absurd (lg_self _) c)
    refine v_goto (tgt := 2680) (pc := 2099) hX dL_law_2099 (by decide) ?_
    refine mV_sub (lv' := [(5, .int (nI (5 * j))), (4, .ref d), (3, .ref o), (2, .ref r), (1, .ref b), (0, .ref sc)]) ⟨rfl, rfl, rfl, rfl, rfl, rfl, trivial⟩ ?_
    refine mV_widen (ce' := ce + 24) (sl' := sl + 6000) (by omega) (by omega) ?_
    exact k _ _ w1 w2 (by omega)
set_option maxHeartbeats 4000000 in
theorem lwc_37 {l : Launch} {g : mG} {x : mCx} {nm : String} {m : mM} {sc b r o d T ce sl j L : Nat} {xs : Nat → Int32} (hO : mO l g) (hd : VD g) (hcm : ∀ j, j < 12 → cmI g (cmA g j) = j) (hX : mX l g x cL_law (yLw nm) room_1 9) (hs : oT g .int sc L (fun i => .int (xs i))) (hw : OBJ g m m b r T) (hp : PL m b r o d) (hT : T + 12 ≤ 9000) (hj : 5 * j + 5 ≤ L) (hL : L ≤ 2560) (hce : ce + 24 ≤ 613022) (hsl : sl + 6000 ≤ 7185358) (k : ∀ (R : mM) (T1 : Nat), OBJ g R R b r T1 → PL R b r o d → T1 ≤ T + 12 → mV g x R (ce + 24) (sl + 6000) 2680 [(5, .int (nI (5 * j))), (4, .ref d), (3, .ref o), (2, .ref r), (1, .ref b), (0, .ref sc)] []) : mV g x m ce sl 2102 [(5, .int (nI (5 * j))), (4, .ref d), (3, .ref o), (2, .ref r), (1, .ref b), (0, .ref sc)] [] := by
  obtain ⟨N, H, nx, C, v⟩ := VW.of hw
  have hc : ∀ mr, VW g m mr b r T N H nx C → CL g b r o d T m mr m (X11_strokeTotal_m g mr r) [] none (X10_strokeTotal_r g m b = X11_strokeTotal_r g mr r) := fun mr v => (q_strokeTotal v.1 v.2.1).toCL hp
  have c0 := hc m v
  refine v_aload_n (pc := 2102) hX dL_law_2102 rfl ?_
  refine v_callV (z := yX10_strokeTotal) (pc := 2103) hX dL_law_2103 (c_X10_strokeTotal hO m b v.sb) v.sb.1 rfl wd_377 wd_378 wd_379 wd_1 wd_380 ⟨by decide, by decide, (by decide +kernel : (parseMethodDescriptor yX10_strokeTotal.desc).map (fun d => d.parameters.length) = some 0)⟩ rfl (Nat.le_of_ble_eq_true rfl) ⟨⟨Nat.le_of_ble_eq_true rfl, Nat.le_of_ble_eq_true rfl⟩, (by show ce + 0 ≤ 613022; omega), (by show sl + 0 ≤ 7185358; omega)⟩ (fun E9 m9 h9 => h9.elim) (fun u9 m9 h9 => ?_)
  obtain ⟨rfl, h8⟩ := h9
  replace h8 := h8.symm
  subst h8
  have v9 := v
  have c9 := c0
  clear hc c0
  show mV g x m _ _ _ _ [.int (X10_strokeTotal_r g m b)]
  refine v_aload_n (pc := 2106) hX dL_law_2106 rfl ?_
  refine v_callV (z := yX11_strokeTotal) (pc := 2107) hX dL_law_2107 (c_X11_strokeTotal hO m r v9.sr) v9.sr.1 rfl wd_1853 wd_1854 wd_1855 wd_16 wd_1856 ⟨by decide, by decide, (by decide +kernel : (parseMethodDescriptor yX11_strokeTotal.desc).map (fun d => d.parameters.length) = some 0)⟩ rfl (Nat.le_of_ble_eq_true rfl) ⟨⟨Nat.le_of_ble_eq_true rfl, Nat.le_of_ble_eq_true rfl⟩, (by show ce + 0 + 0 ≤ 613022; omega), (by show sl + 0 + 0 ≤ 7185358; omega)⟩ (fun E9 m8 h9 => h9.elim) (fun u8 R h9 => ?_)
  obtain ⟨rfl, h7⟩ := h9
  rw [← h7] at c9
  generalize (X11_strokeTotal_r g m r) = yv at c9 ⊢
  show mV g x R _ _ _ _ [.int yv, .int (X10_strokeTotal_r g m b)]
  obtain ⟨w1, w2, -, -⟩ := c9.next (q := o) hp v9.sr (Or.inl rfl) rfl (fun _ _ => Sm.rf)
  have ws := c9.same0
  clear c9
  refine v_icmp_eq (tgt := 2680) (pc := 2110) hX dL_law_2110 (by decide) (fun _ => ?_) (fun c => absurd ws c)
  refine mV_sub (lv' := [(5, .int (nI (5 * j))), (4, .ref d), (3, .ref o), (2, .ref r), (1, .ref b), (0, .ref sc)]) ⟨rfl, rfl, rfl, rfl, rfl, rfl, trivial⟩ ?_
  refine mV_widen (ce' := ce + 24) (sl' := sl + 6000) (by omega) (by omega) ?_
  exact k _ _ w1 w2 (by omega)
set_option maxHeartbeats 4000000 in
theorem lwc_38 {l : Launch} {g : mG} {x : mCx} {nm : String} {m : mM} {sc b r o d T ce sl j L : Nat} {xs : Nat → Int32} (hO : mO l g) (hd : VD g) (hcm : ∀ j, j < 12 → cmI g (cmA g j) = j) (hX : mX l g x cL_law (yLw nm) room_1 9) (hs : oT g .int sc L (fun i => .int (xs i))) (hw : OBJ g m m b r T) (hp : PL m b r o d) (hT : T + 12 ≤ 9000) (hj : 5 * j + 5 ≤ L) (hL : L ≤ 2560) (hce : ce + 24 ≤ 613022) (hsl : sl + 6000 ≤ 7185358) (k : ∀ (R : mM) (T1 : Nat), OBJ g R R b r T1 → PL R b r o d → T1 ≤ T + 12 → mV g x R (ce + 24) (sl + 6000) 2680 [(5, .int (nI (5 * j))), (4, .ref d), (3, .ref o), (2, .ref r), (1, .ref b), (0, .ref sc)] []) : mV g x m ce sl 2115 [(5, .int (nI (5 * j))), (4, .ref d), (3, .ref o), (2, .ref r), (1, .ref b), (0, .ref sc)] [] := by
  obtain ⟨N, H, nx, C, v⟩ := VW.of hw
  have hc : ∀ mr, VW g m mr b r T N H nx C → CL g b r o d T m mr m (X11_birdTotal_m g mr r) [] none (X10_birdTotal_r g m b = X11_birdTotal_r g mr r) := fun mr v => (q_birdTotal v.1 v.2.1).toCL hp
  have c0 := hc m v
  refine v_aload_n (pc := 2115) hX dL_law_2115 rfl ?_
  refine v_callV (z := yX10_birdTotal) (pc := 2116) hX dL_law_2116 (c_X10_birdTotal hO m b v.sb) v.sb.1 rfl wd_381 wd_382 wd_383 wd_1 wd_384 ⟨by decide, by decide, (by decide +kernel : (parseMethodDescriptor yX10_birdTotal.desc).map (fun d => d.parameters.length) = some 0)⟩ rfl (Nat.le_of_ble_eq_true rfl) ⟨⟨Nat.le_of_ble_eq_true rfl, Nat.le_of_ble_eq_true rfl⟩, (by show ce + 0 ≤ 613022; omega), (by show sl + 0 ≤ 7185358; omega)⟩ (fun E9 m9 h9 => h9.elim) (fun u9 m9 h9 => ?_)
  obtain ⟨rfl, h8⟩ := h9
  replace h8 := h8.symm
  subst h8
  have v9 := v
  have c9 := c0
  clear hc c0
  show mV g x m _ _ _ _ [.int (X10_birdTotal_r g m b)]
  refine v_aload_n (pc := 2119) hX dL_law_2119 rfl ?_
  refine v_callV (z := yX11_birdTotal) (pc := 2120) hX dL_law_2120 (c_X11_birdTotal hO m r v9.sr) v9.sr.1 rfl wd_1857 wd_1858 wd_1859 wd_16 wd_1860 ⟨by decide, by decide, (by decide +kernel : (parseMethodDescriptor yX11_birdTotal.desc).map (fun d => d.parameters.length) = some 0)⟩ rfl (Nat.le_of_ble_eq_true rfl) ⟨⟨Nat.le_of_ble_eq_true rfl, Nat.le_of_ble_eq_true rfl⟩, (by show ce + 0 + 0 ≤ 613022; omega), (by show sl + 0 + 0 ≤ 7185358; omega)⟩ (fun E9 m8 h9 => h9.elim) (fun u8 R h9 => ?_)
  obtain ⟨rfl, h7⟩ := h9
  rw [← h7] at c9
  generalize (X11_birdTotal_r g m r) = yv at c9 ⊢
  show mV g x R _ _ _ _ [.int yv, .int (X10_birdTotal_r g m b)]
  obtain ⟨w1, w2, -, -⟩ := c9.next (q := o) hp v9.sr (Or.inl rfl) rfl (fun _ _ => Sm.rf)
  have ws := c9.same0
  clear c9
  refine v_icmp_eq (tgt := 2680) (pc := 2123) hX dL_law_2123 (by decide) (fun _ => ?_) (fun c => absurd ws c)
  refine mV_sub (lv' := [(5, .int (nI (5 * j))), (4, .ref d), (3, .ref o), (2, .ref r), (1, .ref b), (0, .ref sc)]) ⟨rfl, rfl, rfl, rfl, rfl, rfl, trivial⟩ ?_
  refine mV_widen (ce' := ce + 24) (sl' := sl + 6000) (by omega) (by omega) ?_
  exact k _ _ w1 w2 (by omega)
set_option maxHeartbeats 4000000 in
theorem lwc_39 {l : Launch} {g : mG} {x : mCx} {nm : String} {m : mM} {sc b r o d T ce sl j L : Nat} {xs : Nat → Int32} (hO : mO l g) (hd : VD g) (hcm : ∀ j, j < 12 → cmI g (cmA g j) = j) (hX : mX l g x cL_law (yLw nm) room_1 9) (hs : oT g .int sc L (fun i => .int (xs i))) (hw : OBJ g m m b r T) (hp : PL m b r o d) (hT : T + 12 ≤ 9000) (hj : 5 * j + 5 ≤ L) (hL : L ≤ 2560) (hce : ce + 24 ≤ 613022) (hsl : sl + 6000 ≤ 7185358) (k : ∀ (R : mM) (T1 : Nat), OBJ g R R b r T1 → PL R b r o d → T1 ≤ T + 12 → mV g x R (ce + 24) (sl + 6000) 2680 [(5, .int (nI (5 * j))), (4, .ref d), (3, .ref o), (2, .ref r), (1, .ref b), (0, .ref sc)] []) : mV g x m ce sl 2128 [(5, .int (nI (5 * j))), (4, .ref d), (3, .ref o), (2, .ref r), (1, .ref b), (0, .ref sc)] [] := by
  obtain ⟨N, H, nx, C, v⟩ := VW.of hw
  have hc : ∀ mr, VW g m mr b r T N H nx C → CL g b r o d T m mr m (X11_burntTotal_m g mr r) [] none (X10_burntTotal_r g m b = X11_burntTotal_r g mr r) := fun mr v => (q_burntTotal v.1 v.2.1).toCL hp
  have c0 := hc m v
  refine v_aload_n (pc := 2128) hX dL_law_2128 rfl ?_
  refine v_callV (z := yX10_burntTotal) (pc := 2129) hX dL_law_2129 (c_X10_burntTotal hO m b v.sb) v.sb.1 rfl wd_385 wd_386 wd_387 wd_1 wd_388 ⟨by decide, by decide, (by decide +kernel : (parseMethodDescriptor yX10_burntTotal.desc).map (fun d => d.parameters.length) = some 0)⟩ rfl (Nat.le_of_ble_eq_true rfl) ⟨⟨Nat.le_of_ble_eq_true rfl, Nat.le_of_ble_eq_true rfl⟩, (by show ce + 0 ≤ 613022; omega), (by show sl + 0 ≤ 7185358; omega)⟩ (fun E9 m9 h9 => h9.elim) (fun u9 m9 h9 => ?_)
  obtain ⟨rfl, h8⟩ := h9
  replace h8 := h8.symm
  subst h8
  have v9 := v
  have c9 := c0
  clear hc c0
  show mV g x m _ _ _ _ [.long (X10_burntTotal_r g m b)]
  refine v_aload_n (pc := 2132) hX dL_law_2132 rfl ?_
  refine v_callV (z := yX11_burntTotal) (pc := 2133) hX dL_law_2133 (c_X11_burntTotal hO m r v9.sr) v9.sr.1 rfl wd_1861 wd_1862 wd_1863 wd_16 wd_1864 ⟨by decide, by decide, (by decide +kernel : (parseMethodDescriptor yX11_burntTotal.desc).map (fun d => d.parameters.length) = some 0)⟩ rfl (Nat.le_of_ble_eq_true rfl) ⟨⟨Nat.le_of_ble_eq_true rfl, Nat.le_of_ble_eq_true rfl⟩, (by show ce + 0 + 0 ≤ 613022; omega), (by show sl + 0 + 0 ≤ 7185358; omega)⟩ (fun E9 m8 h9 => h9.elim) (fun u8 R h9 => ?_)
  obtain ⟨rfl, h7⟩ := h9
  rw [← h7] at c9
  generalize (X11_burntTotal_r g m r) = yv at c9 ⊢
  show mV g x R _ _ _ _ [.long yv, .long (X10_burntTotal_r g m b)]
  obtain ⟨w1, w2, -, -⟩ := c9.next (q := o) hp v9.sr (Or.inl rfl) rfl (fun _ _ => Sm.rf)
  have ws := c9.same0
  clear c9
  refine v_lcmp (pc := 2136) hX dL_law_2136 ?_
  refine v_if_eq (tgt := 2680) (pc := 2137) hX dL_law_2137 (by decide) (fun _ => ?_) (fun c => absurd (by rw [ws]; exact lg_self _) c)
  refine mV_sub (lv' := [(5, .int (nI (5 * j))), (4, .ref d), (3, .ref o), (2, .ref r), (1, .ref b), (0, .ref sc)]) ⟨rfl, rfl, rfl, rfl, rfl, rfl, trivial⟩ ?_
  refine mV_widen (ce' := ce + 24) (sl' := sl + 6000) (by omega) (by omega) ?_
  exact k _ _ w1 w2 (by omega)
set_option maxHeartbeats 4000000 in
theorem lwc_40 {l : Launch} {g : mG} {x : mCx} {nm : String} {m : mM} {sc b r o d T ce sl j L : Nat} {xs : Nat → Int32} (hO : mO l g) (hd : VD g) (hcm : ∀ j, j < 12 → cmI g (cmA g j) = j) (hX : mX l g x cL_law (yLw nm) room_1 9) (hs : oT g .int sc L (fun i => .int (xs i))) (hw : OBJ g m m b r T) (hp : PL m b r o d) (hT : T + 12 ≤ 9000) (hj : 5 * j + 5 ≤ L) (hL : L ≤ 2560) (hce : ce + 24 ≤ 613022) (hsl : sl + 6000 ≤ 7185358) (k : ∀ (R : mM) (T1 : Nat), OBJ g R R b r T1 → PL R b r o d → T1 ≤ T + 12 → mV g x R (ce + 24) (sl + 6000) 2680 [(5, .int (nI (5 * j))), (4, .ref d), (3, .ref o), (2, .ref r), (1, .ref b), (0, .ref sc)] []) : mV g x m ce sl 2142 [(5, .int (nI (5 * j))), (4, .ref d), (3, .ref o), (2, .ref r), (1, .ref b), (0, .ref sc)] [] := by
  obtain ⟨N, H, nx, C, v⟩ := VW.of hw
  have hc : ∀ mr, VW g m mr b r T N H nx C → CL g b r o d T m mr m (X11_meanHardness_m g mr r N) [("java/lang/ArithmeticException", 1)] (X10_meanHardness_x g m b N) (X10_meanHardness_r g m b N = X11_meanHardness_r g mr r N) := fun mr v => (q_meanHardness v.1 v.2.1).toCL hp
  have c0 := hc m v
  refine v_aload_n (pc := 2142) hX dL_law_2142 rfl ?_
  refine v_aload (pc := 2143) hX dL_law_2143 rfl ?_
  refine v_callSX (z := yL_meanHardness) (pc := 2145) hX dL_law_2145 (c_L_meanHardness hO m b d N v.sb v.hN v.N8 hp.2.2.2.2 c0.e1) wd_1299 wd_1300 wd_0 wd_1301 ⟨by decide, by decide, (by decide +kernel : (parseMethodDescriptor yL_meanHardness.desc).map (fun d => d.parameters.length) = some 2)⟩ rfl (Nat.le_of_ble_eq_true rfl) ⟨⟨Nat.le_of_ble_eq_true rfl, Nat.le_of_ble_eq_true rfl⟩, (by show ce + 1 ≤ 613022; omega), (by show sl + 6 ≤ 7185358; omega)⟩ (fun E9 m9 h9 => h9.elim) (fun u9 m9 h9 => ?_)
  obtain ⟨kk, rfl, wk⟩ := wkD h9
  clear h9
  have v9 := v.toR (c0.keep (q := d) hp (by have := hp.2.1; have := hp.2.2.1; omega) wk.1 wk.2.1)
  have c9 := hc m9 v9
  clear hc c0
  show mV g x m9 _ _ _ _ [.int kk]
  refine v_istore (pc := 2148) hX dL_law_2148 (by decide) rfl ?_
  refine v_aload_n (pc := 2150) hX dL_law_2150 rfl ?_
  refine v_callV (z := yX11_meanHardness) (pc := 2151) hX dL_law_2151 (c_X11_meanHardness hO m9 r N v9.sr v9.rN v9.N8) v9.sr.1 rfl wd_1865 wd_1866 wd_1867 wd_16 wd_1868 ⟨by decide, by decide, (by decide +kernel : (parseMethodDescriptor yX11_meanHardness.desc).map (fun d => d.parameters.length) = some 0)⟩ rfl (Nat.le_of_ble_eq_true rfl) ⟨⟨Nat.le_of_ble_eq_true rfl, Nat.le_of_ble_eq_true rfl⟩, (by show ce + 1 + 0 ≤ 613022; omega), (by show sl + 6 + 0 ≤ 7185358; omega)⟩ (fun E9 m8 h9 => h9.elim) (fun u8 R h9 => ?_)
  obtain ⟨rfl, h7⟩ := h9
  rw [← h7] at c9
  generalize (X11_meanHardness_r g m9 r N) = yv at c9 ⊢
  show mV g x R _ _ _ _ [.double yv]
  obtain ⟨w1, w2, wl, wd⟩ := c9.next (q := d) hp v9.sr (by first | exact Or.inl rfl | exact Or.inr rfl) wk.1 wk.2.1
  obtain ⟨w3, w4⟩ := c9.out wk (by decide)
  clear c9
  refine v_dstore (pc := 2154) hX dL_law_2154 (by decide) rfl rfl ?_
  refine v_aload_n (pc := 2156) hX dL_law_2156 rfl ?_
  refine v_callV (z := yX11_thrown) (pc := 2157) hX dL_law_2157 (c_X11_thrown hO R r w1.2.2.2.1) w1.2.2.2.1.1 rfl wd_1573 wd_1574 wd_1575 wd_16 wd_1576 ⟨by decide, by decide, (by decide +kernel : (parseMethodDescriptor yX11_thrown.desc).map (fun d => d.parameters.length) = some 0)⟩ rfl (Nat.le_of_ble_eq_true rfl) ⟨⟨Nat.le_of_ble_eq_true rfl, Nat.le_of_ble_eq_true rfl⟩, (by show ce + 1 + 0 + 0 ≤ 613022; omega), (by show sl + 6 + 0 + 0 ≤ 7185358; omega)⟩ (fun E9 m8 h9 => h9.elim) (fun u8 m8 h9 => ?_)
  obtain ⟨rfl, h6⟩ := h9
  replace h6 := h6.symm
  subst h6
  rw [show X11_thrown_r g R r = kk from w3]
  show mV g x R _ _ _ _ [.int kk]
  refine v_iload (pc := 2160) hX dL_law_2160 rfl ?_
  refine v_icmp_eq (tgt := 2167) (pc := 2162) hX dL_law_2162 (by decide) (fun _ => ?_) (fun c => absurd rfl c)
  refine v_iload (pc := 2167) hX dL_law_2167 rfl ?_
  refine v_if_ne (tgt := 2204) (pc := 2169) hX dL_law_2169 (by decide) (fun _ => ?_) (fun c1 => ?_)
  ·
    refine v_goto (tgt := 2680) (pc := 2204) hX dL_law_2204 (by decide) ?_
    refine mV_sub (lv' := [(5, .int (nI (5 * j))), (4, .ref d), (3, .ref o), (2, .ref r), (1, .ref b), (0, .ref sc)]) ⟨rfl, rfl, rfl, rfl, rfl, rfl, trivial⟩ ?_
    refine mV_widen (ce' := ce + 24) (sl' := sl + 6000) (by omega) (by omega) ?_
    exact k _ _ w1 w2 (by omega)
  ·
    obtain ⟨wa, wb⟩ := w4 c1
    have hv : gD R d 0 = yv := by rw [wd, wa, wb]
    have hq : vf_n64 yv := by rw [← wb]; exact mh_n g m b N
    refine v_aload (pc := 2172) hX dL_law_2172 rfl ?_
    refine v_iconst (v := 0) (pc := 2174) hX dL_law_2174 (by decide) ?_
    refine v_dald (pc := 2175) hX dL_law_2175 w2.2.2.2.2 (j := 0) rfl (by decide) (by decide) hv ?_
    refine v_dload (pc := 2176) hX dL_law_2176 rfl ?_
    refine v_dcmp (pc := 2178) hX dL_law_2178 ?_
    refine v_if_eq (tgt := 2204) (pc := 2179) hX dL_law_2179 (by decide) (fun _ => ?_) (fun c => absurd (dc_self hq _) c)
    refine v_goto (tgt := 2680) (pc := 2204) hX dL_law_2204 (by decide) ?_
    refine mV_sub (lv' := [(5, .int (nI (5 * j))), (4, .ref d), (3, .ref o), (2, .ref r), (1, .ref b), (0, .ref sc)]) ⟨rfl, rfl, rfl, rfl, rfl, rfl, trivial⟩ ?_
    refine mV_widen (ce' := ce + 24) (sl' := sl + 6000) (by omega) (by omega) ?_
    exact k _ _ w1 w2 (by omega)
set_option maxHeartbeats 4000000 in
theorem lwc_41 {l : Launch} {g : mG} {x : mCx} {nm : String} {m : mM} {sc b r o d T ce sl j L : Nat} {xs : Nat → Int32} (hO : mO l g) (hd : VD g) (hcm : ∀ j, j < 12 → cmI g (cmA g j) = j) (hX : mX l g x cL_law (yLw nm) room_1 9) (hs : oT g .int sc L (fun i => .int (xs i))) (hw : OBJ g m m b r T) (hp : PL m b r o d) (hT : T + 12 ≤ 9000) (hj : 5 * j + 5 ≤ L) (hL : L ≤ 2560) (hce : ce + 24 ≤ 613022) (hsl : sl + 6000 ≤ 7185358) (k : ∀ (R : mM) (T1 : Nat), OBJ g R R b r T1 → PL R b r o d → T1 ≤ T + 12 → mV g x R (ce + 24) (sl + 6000) 2680 [(5, .int (nI (5 * j))), (4, .ref d), (3, .ref o), (2, .ref r), (1, .ref b), (0, .ref sc)] []) : mV g x m ce sl 2207 [(5, .int (nI (5 * j))), (4, .ref d), (3, .ref o), (2, .ref r), (1, .ref b), (0, .ref sc)] [] := by
  obtain ⟨N, H, nx, C, v⟩ := VW.of hw
  have hc : ∀ mr, VW g m mr b r T N H nx C → CL g b r o d T m mr m (X11_passShare_m g mr r) [("java/lang/ArithmeticException", 1)] (X10_passShare_x g m b) (X10_passShare_r g m b = X11_passShare_r g mr r) := fun mr v => (q_passShare v.1 v.2.1).toCL hp
  have c0 := hc m v
  refine v_aload_n (pc := 2207) hX dL_law_2207 rfl ?_
  refine v_aload (pc := 2208) hX dL_law_2208 rfl ?_
  refine v_callSX (z := yL_passShare) (pc := 2210) hX dL_law_2210 (c_L_passShare hO m b d v.sb hp.2.2.2.2 c0.e1) wd_1311 wd_1312 wd_0 wd_1313 ⟨by decide, by decide, (by decide +kernel : (parseMethodDescriptor yL_passShare.desc).map (fun d => d.parameters.length) = some 2)⟩ rfl (Nat.le_of_ble_eq_true rfl) ⟨⟨Nat.le_of_ble_eq_true rfl, Nat.le_of_ble_eq_true rfl⟩, (by show ce + 1 ≤ 613022; omega), (by show sl + 6 ≤ 7185358; omega)⟩ (fun E9 m9 h9 => h9.elim) (fun u9 m9 h9 => ?_)
  obtain ⟨kk, rfl, wk⟩ := wkD h9
  clear h9
  have v9 := v.toR (c0.keep (q := d) hp (by have := hp.2.1; have := hp.2.2.1; omega) wk.1 wk.2.1)
  have c9 := hc m9 v9
  clear hc c0
  show mV g x m9 _ _ _ _ [.int kk]
  refine v_istore (pc := 2213) hX dL_law_2213 (by decide) rfl ?_
  refine v_aload_n (pc := 2215) hX dL_law_2215 rfl ?_
  refine v_callV (z := yX11_passShare) (pc := 2216) hX dL_law_2216 (c_X11_passShare hO m9 r v9.sr) v9.sr.1 rfl wd_1869 wd_1870 wd_1871 wd_16 wd_1872 ⟨by decide, by decide, (by decide +kernel : (parseMethodDescriptor yX11_passShare.desc).map (fun d => d.parameters.length) = some 0)⟩ rfl (Nat.le_of_ble_eq_true rfl) ⟨⟨Nat.le_of_ble_eq_true rfl, Nat.le_of_ble_eq_true rfl⟩, (by show ce + 1 + 0 ≤ 613022; omega), (by show sl + 6 + 0 ≤ 7185358; omega)⟩ (fun E9 m8 h9 => h9.elim) (fun u8 R h9 => ?_)
  obtain ⟨rfl, h7⟩ := h9
  rw [← h7] at c9
  generalize (X11_passShare_r g m9 r) = yv at c9 ⊢
  show mV g x R _ _ _ _ [.float yv]
  obtain ⟨w1, w2, wl, wd⟩ := c9.next (q := d) hp v9.sr (by first | exact Or.inl rfl | exact Or.inr rfl) wk.1 wk.2.1
  obtain ⟨w3, w4⟩ := c9.out wk (by decide)
  clear c9
  refine v_fstore (pc := 2219) hX dL_law_2219 (by decide) rfl ?_
  refine v_aload_n (pc := 2221) hX dL_law_2221 rfl ?_
  refine v_callV (z := yX11_thrown) (pc := 2222) hX dL_law_2222 (c_X11_thrown hO R r w1.2.2.2.1) w1.2.2.2.1.1 rfl wd_1573 wd_1574 wd_1575 wd_16 wd_1576 ⟨by decide, by decide, (by decide +kernel : (parseMethodDescriptor yX11_thrown.desc).map (fun d => d.parameters.length) = some 0)⟩ rfl (Nat.le_of_ble_eq_true rfl) ⟨⟨Nat.le_of_ble_eq_true rfl, Nat.le_of_ble_eq_true rfl⟩, (by show ce + 1 + 0 + 0 ≤ 613022; omega), (by show sl + 6 + 0 + 0 ≤ 7185358; omega)⟩ (fun E9 m8 h9 => h9.elim) (fun u8 m8 h9 => ?_)
  obtain ⟨rfl, h6⟩ := h9
  replace h6 := h6.symm
  subst h6
  rw [show X11_thrown_r g R r = kk from w3]
  show mV g x R _ _ _ _ [.int kk]
  refine v_iload (pc := 2225) hX dL_law_2225 rfl ?_
  refine v_icmp_eq (tgt := 2232) (pc := 2227) hX dL_law_2227 (by decide) (fun _ => ?_) (fun c => absurd rfl c)
  refine v_iload (pc := 2232) hX dL_law_2232 rfl ?_
  refine v_if_ne (tgt := 2270) (pc := 2234) hX dL_law_2234 (by decide) (fun _ => ?_) (fun c1 => ?_)
  ·
    refine v_goto (tgt := 2680) (pc := 2270) hX dL_law_2270 (by decide) ?_
    refine mV_sub (lv' := [(5, .int (nI (5 * j))), (4, .ref d), (3, .ref o), (2, .ref r), (1, .ref b), (0, .ref sc)]) ⟨rfl, rfl, rfl, rfl, rfl, rfl, trivial⟩ ?_
    refine mV_widen (ce' := ce + 24) (sl' := sl + 6000) (by omega) (by omega) ?_
    exact k _ _ w1 w2 (by omega)
  ·
    obtain ⟨wa, wb⟩ := w4 c1
    have hv : gD R d 0 = FP.f2d yv := by rw [wd, wa, wb]
    have hq : vf_n64 (FP.f2d yv) := by rw [← wb]; exact n64_f2d (ps_n g m b)
    refine v_aload (pc := 2237) hX dL_law_2237 rfl ?_
    refine v_iconst (v := 0) (pc := 2239) hX dL_law_2239 (by decide) ?_
    refine v_dald (pc := 2240) hX dL_law_2240 w2.2.2.2.2 (j := 0) rfl (by decide) (by decide) hv ?_
    refine v_fload (pc := 2241) hX dL_law_2241 rfl ?_
    refine v_f2d (pc := 2243) hX dL_law_2243 hq ?_
    refine v_dcmp (pc := 2244) hX dL_law_2244 ?_
    refine v_if_eq (tgt := 2270) (pc := 2245) hX dL_law_2245 (by decide) (fun _ => ?_) (fun c => absurd (dc_self hq _) c)
    refine v_goto (tgt := 2680) (pc := 2270) hX dL_law_2270 (by decide) ?_
    refine mV_sub (lv' := [(5, .int (nI (5 * j))), (4, .ref d), (3, .ref o), (2, .ref r), (1, .ref b), (0, .ref sc)]) ⟨rfl, rfl, rfl, rfl, rfl, rfl, trivial⟩ ?_
    refine mV_widen (ce' := ce + 24) (sl' := sl + 6000) (by omega) (by omega) ?_
    exact k _ _ w1 w2 (by omega)
set_option maxHeartbeats 4000000 in
theorem lwc_42 {l : Launch} {g : mG} {x : mCx} {nm : String} {m : mM} {sc b r o d T ce sl j L : Nat} {xs : Nat → Int32} (hO : mO l g) (hd : VD g) (hcm : ∀ j, j < 12 → cmI g (cmA g j) = j) (hX : mX l g x cL_law (yLw nm) room_1 9) (hs : oT g .int sc L (fun i => .int (xs i))) (hw : OBJ g m m b r T) (hp : PL m b r o d) (hT : T + 12 ≤ 9000) (hj : 5 * j + 5 ≤ L) (hL : L ≤ 2560) (hce : ce + 24 ≤ 613022) (hsl : sl + 6000 ≤ 7185358) (k : ∀ (R : mM) (T1 : Nat), OBJ g R R b r T1 → PL R b r o d → T1 ≤ T + 12 → mV g x R (ce + 24) (sl + 6000) 2680 [(5, .int (nI (5 * j))), (4, .ref d), (3, .ref o), (2, .ref r), (1, .ref b), (0, .ref sc)] []) : mV g x m ce sl 2273 [(5, .int (nI (5 * j))), (4, .ref d), (3, .ref o), (2, .ref r), (1, .ref b), (0, .ref sc)] [] := by
  obtain ⟨N, H, nx, C, v⟩ := VW.of hw
  have hc : ∀ mr, VW g m mr b r T N H nx C → CL g b r o d T m mr (X10_isConsistent_m g m b N H) (X11_isConsistent_m g mr r H) [] none (X10_isConsistent_r g m b N H = X11_isConsistent_r g mr r H) := fun mr v => (q_isConsistent hd v.1 v.2.1 v.2.2.1).toCL hp
  have c0 := hc m v
  refine v_aload_n (pc := 2273) hX dL_law_2273 rfl ?_
  refine v_callV (z := yX10_isConsistent) (pc := 2274) hX dL_law_2274 (c_X10_isConsistent hO m b N H v.sb v.hN v.N8 v.hH v.H4) v.sb.1 rfl wd_389 wd_390 wd_391 wd_1 wd_392 ⟨by decide, by decide, (by decide +kernel : (parseMethodDescriptor yX10_isConsistent.desc).map (fun d => d.parameters.length) = some 0)⟩ rfl (Nat.le_of_ble_eq_true rfl) ⟨⟨Nat.le_of_ble_eq_true rfl, Nat.le_of_ble_eq_true rfl⟩, (by show ce + 0 ≤ 613022; omega), (by show sl + 0 ≤ 7185358; omega)⟩ (fun E9 m9 h9 => h9.elim) (fun u9 m9 h9 => ?_)
  obtain ⟨rfl, h8⟩ := h9
  have v9 : VW g m m9 b r T N H nx C := v.toR (fun a h1 h2 => by rw [h8]; exact c0.keep (q := o) hp hp.2.1 rfl (fun _ _ => Sm.rf) a h1 h2)
  have c9 := hc m9 v9
  clear hc c0
  rw [← h8] at c9
  show mV g x m9 _ _ _ _ [.int (X10_isConsistent_r g m b N H)]
  refine v_aload_n (pc := 2277) hX dL_law_2277 rfl ?_
  refine v_callV (z := yX11_isConsistent) (pc := 2278) hX dL_law_2278 (c_X11_isConsistent hO m9 r H v9.sr v9.rH v9.H4) v9.sr.1 rfl wd_1873 wd_1874 wd_1875 wd_16 wd_1876 ⟨by decide, by decide, (by decide +kernel : (parseMethodDescriptor yX11_isConsistent.desc).map (fun d => d.parameters.length) = some 0)⟩ rfl (Nat.le_of_ble_eq_true rfl) ⟨⟨Nat.le_of_ble_eq_true rfl, Nat.le_of_ble_eq_true rfl⟩, (by show ce + 0 + 0 ≤ 613022; omega), (by show sl + 0 + 0 ≤ 7185358; omega)⟩ (fun E9 m8 h9 => h9.elim) (fun u8 R h9 => ?_)
  obtain ⟨rfl, h7⟩ := h9
  rw [← h7] at c9
  generalize (X11_isConsistent_r g m9 r H) = yv at c9 ⊢
  show mV g x R _ _ _ _ [.int yv, .int (X10_isConsistent_r g m b N H)]
  obtain ⟨w1, w2, -, -⟩ := c9.next (q := o) hp v9.sr (Or.inl rfl) rfl (fun _ _ => Sm.rf)
  have ws := c9.same0
  clear c9
  refine v_icmp_eq (tgt := 2680) (pc := 2281) hX dL_law_2281 (by decide) (fun _ => ?_) (fun c => absurd ws c)
  refine mV_sub (lv' := [(5, .int (nI (5 * j))), (4, .ref d), (3, .ref o), (2, .ref r), (1, .ref b), (0, .ref sc)]) ⟨rfl, rfl, rfl, rfl, rfl, rfl, trivial⟩ ?_
  refine mV_widen (ce' := ce + 24) (sl' := sl + 6000) (by omega) (by omega) ?_
  exact k _ _ w1 w2 (by omega)
set_option maxHeartbeats 4000000 in
theorem lwc_43 {l : Launch} {g : mG} {x : mCx} {nm : String} {m : mM} {sc b r o d T ce sl j L : Nat} {xs : Nat → Int32} (hO : mO l g) (hd : VD g) (hcm : ∀ j, j < 12 → cmI g (cmA g j) = j) (hX : mX l g x cL_law (yLw nm) room_1 9) (hs : oT g .int sc L (fun i => .int (xs i))) (hw : OBJ g m m b r T) (hp : PL m b r o d) (hT : T + 12 ≤ 9000) (hj : 5 * j + 5 ≤ L) (hL : L ≤ 2560) (hce : ce + 24 ≤ 613022) (hsl : sl + 6000 ≤ 7185358) (k : ∀ (R : mM) (T1 : Nat), OBJ g R R b r T1 → PL R b r o d → T1 ≤ T + 12 → mV g x R (ce + 24) (sl + 6000) 2680 [(5, .int (nI (5 * j))), (4, .ref d), (3, .ref o), (2, .ref r), (1, .ref b), (0, .ref sc)] []) : mV g x m ce sl 2286 [(5, .int (nI (5 * j))), (4, .ref d), (3, .ref o), (2, .ref r), (1, .ref b), (0, .ref sc)] [] := by
  obtain ⟨N, H, nx, C, v⟩ := VW.of hw
  have hc : ∀ mr, VW g m mr b r T N H nx C → CL g b r o d T m mr (X10_append_m g m b (((xs (5 * j + 1)).toUInt32 % 65536).toInt32)) (X11_append_m g mr r (((xs (5 * j + 1)).toUInt32 % 65536).toInt32)) [("java/lang/IllegalStateException", 1)] (X10_append_x g m b (((xs (5 * j + 1)).toUInt32 % 65536).toInt32)) (X10_append_r g m b (((xs (5 * j + 1)).toUInt32 % 65536).toInt32) = X11_append_r g mr r (((xs (5 * j + 1)).toUInt32 % 65536).toInt32)) := fun mr v => (call_append v.1 (((xs (5 * j + 1)).toUInt32 % 65536).toInt32)).toCL hp
  have c0 := hc m v
  refine v_aload_n (pc := 2286) hX dL_law_2286 rfl ?_
  refine v_aload_n (pc := 2287) hX dL_law_2287 rfl ?_
  refine v_iload (pc := 2288) hX dL_law_2288 rfl ?_
  refine v_iconst (v := 1) (pc := 2290) hX dL_law_2290 (by decide) ?_
  refine v_iadd (pc := 2291) hX dL_law_2291 ?_
  refine v_tiO (j := 5 * j + 1) (pc := 2292) hX dL_law_2292 hs (nI_k rfl) (by omega) (by omega) ?_
  show mV g x _ _ _ _ _ [.int (xs (5 * j + 1)), .ref b]
  refine v_i2c (v := (((xs (5 * j + 1)).toUInt32 % 65536).toInt32)) (pc := 2293) hX dL_law_2293 rfl ?_
  refine v_aload_n (pc := 2294) hX dL_law_2294 rfl ?_
  refine v_callSX (z := yL_append) (pc := 2295) hX dL_law_2295 (c_L_append hO m b (((xs (5 * j + 1)).toUInt32 % 65536).toInt32) o v.sb v.sp v.tL (nch _) (c0.ko hp) c0.e1) wd_1319 wd_1320 wd_0 wd_1321 ⟨by decide, by decide, (by decide +kernel : (parseMethodDescriptor yL_append.desc).map (fun d => d.parameters.length) = some 3)⟩ rfl (Nat.le_of_ble_eq_true rfl) ⟨⟨Nat.le_of_ble_eq_true rfl, Nat.le_of_ble_eq_true rfl⟩, (by show ce + 1 ≤ 613022; omega), (by show sl + 6 ≤ 7185358; omega)⟩ (fun E9 m9 h9 => h9.elim) (fun u9 m9 h9 => ?_)
  obtain ⟨kk, rfl, wk⟩ := wkL h9
  clear h9
  have v9 := v.toR (c0.keep (q := o) hp (by have := hp.2.1; have := hp.2.2.1; omega) wk.1 wk.2.1)
  have c9 := hc m9 v9
  clear hc c0
  show mV g x m9 _ _ _ _ [.int kk]
  refine v_istore (pc := 2298) hX dL_law_2298 (by decide) rfl ?_
  refine v_aload_n (pc := 2300) hX dL_law_2300 rfl ?_
  refine v_aload_n (pc := 2301) hX dL_law_2301 rfl ?_
  refine v_iload (pc := 2302) hX dL_law_2302 rfl ?_
  refine v_iconst (v := 1) (pc := 2304) hX dL_law_2304 (by decide) ?_
  refine v_iadd (pc := 2305) hX dL_law_2305 ?_
  refine v_tiO (j := 5 * j + 1) (pc := 2306) hX dL_law_2306 hs (nI_k rfl) (by omega) (by omega) ?_
  show mV g x _ _ _ _ _ [.int (xs (5 * j + 1)), .ref r]
  refine v_i2c (v := (((xs (5 * j + 1)).toUInt32 % 65536).toInt32)) (pc := 2307) hX dL_law_2307 rfl ?_
  refine v_callV (z := yX11_append) (pc := 2308) hX dL_law_2308 (c_X11_append hO m9 r (((xs (5 * j + 1)).toUInt32 % 65536).toInt32) v9.sr v9.rT) v9.sr.1 rfl wd_1877 wd_1878 wd_1879 wd_16 wd_1880 ⟨by decide, by decide, (by decide +kernel : (parseMethodDescriptor yX11_append.desc).map (fun d => d.parameters.length) = some 1)⟩ rfl (Nat.le_of_ble_eq_true rfl) ⟨⟨Nat.le_of_ble_eq_true rfl, Nat.le_of_ble_eq_true rfl⟩, (by show ce + 1 + 0 ≤ 613022; omega), (by show sl + 6 + 0 ≤ 7185358; omega)⟩ (fun E9 m8 h9 => h9.elim) (fun u8 R h9 => ?_)
  obtain ⟨rfl, h7⟩ := h9
  rw [← h7] at c9
  generalize (X11_append_r g m9 r (((xs (5 * j + 1)).toUInt32 % 65536).toInt32)) = yv at c9 ⊢
  show mV g x R _ _ _ _ [.int yv]
  obtain ⟨w1, w2, wl, wd⟩ := c9.next (q := o) hp v9.sr (by first | exact Or.inl rfl | exact Or.inr rfl) wk.1 wk.2.1
  obtain ⟨w3, w4⟩ := c9.out wk (by decide)
  clear c9
  refine v_istore (pc := 2311) hX dL_law_2311 (by decide) rfl ?_
  refine v_aload_n (pc := 2313) hX dL_law_2313 rfl ?_
  refine v_callV (z := yX11_thrown) (pc := 2314) hX dL_law_2314 (c_X11_thrown hO R r w1.2.2.2.1) w1.2.2.2.1.1 rfl wd_1573 wd_1574 wd_1575 wd_16 wd_1576 ⟨by decide, by decide, (by decide +kernel : (parseMethodDescriptor yX11_thrown.desc).map (fun d => d.parameters.length) = some 0)⟩ rfl (Nat.le_of_ble_eq_true rfl) ⟨⟨Nat.le_of_ble_eq_true rfl, Nat.le_of_ble_eq_true rfl⟩, (by show ce + 1 + 0 + 0 ≤ 613022; omega), (by show sl + 6 + 0 + 0 ≤ 7185358; omega)⟩ (fun E9 m8 h9 => h9.elim) (fun u8 m8 h9 => ?_)
  obtain ⟨rfl, h6⟩ := h9
  replace h6 := h6.symm
  subst h6
  rw [show X11_thrown_r g R r = kk from w3]
  show mV g x R _ _ _ _ [.int kk]
  refine v_iload (pc := 2317) hX dL_law_2317 rfl ?_
  refine v_icmp_eq (tgt := 2324) (pc := 2319) hX dL_law_2319 (by decide) (fun _ => ?_) (fun c => absurd rfl c)
  refine v_iload (pc := 2324) hX dL_law_2324 rfl ?_
  refine v_if_ne (tgt := 2341) (pc := 2326) hX dL_law_2326 (by decide) (fun _ => ?_) (fun c1 => ?_)
  ·
    refine v_goto (tgt := 2680) (pc := 2341) hX dL_law_2341 (by decide) ?_
    refine mV_sub (lv' := [(5, .int (nI (5 * j))), (4, .ref d), (3, .ref o), (2, .ref r), (1, .ref b), (0, .ref sc)]) ⟨rfl, rfl, rfl, rfl, rfl, rfl, trivial⟩ ?_
    refine mV_widen (ce' := ce + 24) (sl' := sl + 6000) (by omega) (by omega) ?_
    exact k _ _ w1 w2 (by omega)
  ·
    obtain ⟨wa, wb⟩ := w4 c1
    have hv : gL R o 0 = yv.toInt64 := by rw [wl, wa, wb]
    refine v_aload_n (pc := 2329) hX dL_law_2329 rfl ?_
    refine v_iconst (v := 0) (pc := 2330) hX dL_law_2330 (by decide) ?_
    refine v_lald (pc := 2331) hX dL_law_2331 w2.2.2.2.1 (j := 0) rfl (by decide) (by decide) hv ?_
    refine v_iload (pc := 2332) hX dL_law_2332 rfl ?_
    refine v_i2l (pc := 2334) hX dL_law_2334 ?_
    refine v_lcmp (pc := 2335) hX dL_law_2335 ?_
    refine v_if_eq (tgt := 2341) (pc := 2336) hX dL_law_2336 (by decide) (fun _ => ?_) (fun c => absurd (lg_self _) c)
    refine v_goto (tgt := 2680) (pc := 2341) hX dL_law_2341 (by decide) ?_
    refine mV_sub (lv' := [(5, .int (nI (5 * j))), (4, .ref d), (3, .ref o), (2, .ref r), (1, .ref b), (0, .ref sc)]) ⟨rfl, rfl, rfl, rfl, rfl, rfl, trivial⟩ ?_
    refine mV_widen (ce' := ce + 24) (sl' := sl + 6000) (by omega) (by omega) ?_
    exact k _ _ w1 w2 (by omega)
set_option maxHeartbeats 4000000 in
theorem lwc_44 {l : Launch} {g : mG} {x : mCx} {nm : String} {m : mM} {sc b r o d T ce sl j L : Nat} {xs : Nat → Int32} (hO : mO l g) (hd : VD g) (hcm : ∀ j, j < 12 → cmI g (cmA g j) = j) (hX : mX l g x cL_law (yLw nm) room_1 9) (hs : oT g .int sc L (fun i => .int (xs i))) (hw : OBJ g m m b r T) (hp : PL m b r o d) (hT : T + 12 ≤ 9000) (hj : 5 * j + 5 ≤ L) (hL : L ≤ 2560) (hce : ce + 24 ≤ 613022) (hsl : sl + 6000 ≤ 7185358) (k : ∀ (R : mM) (T1 : Nat), OBJ g R R b r T1 → PL R b r o d → T1 ≤ T + 12 → mV g x R (ce + 24) (sl + 6000) 2680 [(5, .int (nI (5 * j))), (4, .ref d), (3, .ref o), (2, .ref r), (1, .ref b), (0, .ref sc)] []) : mV g x m ce sl 2344 [(5, .int (nI (5 * j))), (4, .ref d), (3, .ref o), (2, .ref r), (1, .ref b), (0, .ref sc)] [] := by
  obtain ⟨N, H, nx, C, v⟩ := VW.of hw
  have hc : ∀ mr, VW g m mr b r T N H nx C → CL g b r o d (T + 12) m mr (X10_run_m g m b nx) (X11_run_m g mr r C) [("java/lang/IllegalArgumentException", 1), ("java/lang/UnsupportedOperationException", 2)] (X10_run_x g m b nx) (X10_run_r g m b nx = X11_run_r g mr r C) := fun mr v => (call_run hd hcm v.1 v.2.2.2 v.2.1 v.2.2.1 (by omega)).toCL hp
  have c0 := hc m v
  refine v_aload_n (pc := 2344) hX dL_law_2344 rfl ?_
  refine v_aload_n (pc := 2345) hX dL_law_2345 rfl ?_
  refine v_callSX (z := yL_run) (pc := 2346) hX dL_law_2346 (c_L_run hO m b o nx v.sb v.sp v.tL v.cq v.No v.Ho v.hn v.n9 (c0.ko hp) c0.e2) wd_1335 wd_1336 wd_0 wd_1337 ⟨by decide, by decide, (by decide +kernel : (parseMethodDescriptor yL_run.desc).map (fun d => d.parameters.length) = some 2)⟩ rfl (Nat.le_of_ble_eq_true rfl) ⟨⟨Nat.le_of_ble_eq_true rfl, Nat.le_of_ble_eq_true rfl⟩, (by show ce + 1 ≤ 613022; omega), (by show sl + 6 ≤ 7185358; omega)⟩ (fun E9 m9 h9 => h9.elim) (fun u9 m9 h9 => ?_)
  obtain ⟨kk, rfl, wk⟩ := wkL h9
  clear h9
  have v9 := v.toR (c0.keep (q := o) hp (by have := hp.2.1; have := hp.2.2.1; omega) wk.1 wk.2.1)
  have c9 := hc m9 v9
  clear hc c0
  show mV g x m9 _ _ _ _ [.int kk]
  refine v_istore (pc := 2349) hX dL_law_2349 (by decide) rfl ?_
  refine v_aload_n (pc := 2351) hX dL_law_2351 rfl ?_
  refine v_callV (z := yX11_run) (pc := 2352) hX dL_law_2352 (c_X11_run hO m9 r C v9.sr v9.rT v9.wd v9.ri v9.hC v9.C8) v9.sr.1 rfl wd_1881 wd_1882 wd_1883 wd_16 wd_1884 ⟨by decide, by decide, (by decide +kernel : (parseMethodDescriptor yX11_run.desc).map (fun d => d.parameters.length) = some 0)⟩ rfl (Nat.le_of_ble_eq_true rfl) ⟨⟨Nat.le_of_ble_eq_true rfl, Nat.le_of_ble_eq_true rfl⟩, (by show ce + 1 + 0 ≤ 613022; omega), (by show sl + 6 + 0 ≤ 7185358; omega)⟩ (fun E9 m8 h9 => h9.elim) (fun u8 R h9 => ?_)
  obtain ⟨rfl, h7⟩ := h9
  rw [← h7] at c9
  generalize (X11_run_r g m9 r C) = yv at c9 ⊢
  show mV g x R _ _ _ _ [.int yv]
  obtain ⟨w1, w2, wl, wd⟩ := c9.next (q := o) hp v9.sr (by first | exact Or.inl rfl | exact Or.inr rfl) wk.1 wk.2.1
  obtain ⟨w3, w4⟩ := c9.out wk (by decide)
  clear c9
  refine v_istore (pc := 2355) hX dL_law_2355 (by decide) rfl ?_
  refine v_aload_n (pc := 2357) hX dL_law_2357 rfl ?_
  refine v_callV (z := yX11_thrown) (pc := 2358) hX dL_law_2358 (c_X11_thrown hO R r w1.2.2.2.1) w1.2.2.2.1.1 rfl wd_1573 wd_1574 wd_1575 wd_16 wd_1576 ⟨by decide, by decide, (by decide +kernel : (parseMethodDescriptor yX11_thrown.desc).map (fun d => d.parameters.length) = some 0)⟩ rfl (Nat.le_of_ble_eq_true rfl) ⟨⟨Nat.le_of_ble_eq_true rfl, Nat.le_of_ble_eq_true rfl⟩, (by show ce + 1 + 0 + 0 ≤ 613022; omega), (by show sl + 6 + 0 + 0 ≤ 7185358; omega)⟩ (fun E9 m8 h9 => h9.elim) (fun u8 m8 h9 => ?_)
  obtain ⟨rfl, h6⟩ := h9
  replace h6 := h6.symm
  subst h6
  rw [show X11_thrown_r g R r = kk from w3]
  show mV g x R _ _ _ _ [.int kk]
  refine v_iload (pc := 2361) hX dL_law_2361 rfl ?_
  refine v_icmp_eq (tgt := 2368) (pc := 2363) hX dL_law_2363 (by decide) (fun _ => ?_) (fun c => absurd rfl c)
  refine v_iload (pc := 2368) hX dL_law_2368 rfl ?_
  refine v_if_ne (tgt := 2385) (pc := 2370) hX dL_law_2370 (by decide) (fun _ => ?_) (fun c1 => ?_)
  ·
    refine v_goto (tgt := 2680) (pc := 2385) hX dL_law_2385 (by decide) ?_
    refine mV_sub (lv' := [(5, .int (nI (5 * j))), (4, .ref d), (3, .ref o), (2, .ref r), (1, .ref b), (0, .ref sc)]) ⟨rfl, rfl, rfl, rfl, rfl, rfl, trivial⟩ ?_
    refine mV_widen (ce' := ce + 24) (sl' := sl + 6000) (by omega) (by omega) ?_
    exact k _ _ w1 w2 (by omega)
  ·
    obtain ⟨wa, wb⟩ := w4 c1
    have hv : gL R o 0 = yv.toInt64 := by rw [wl, wa, wb]
    refine v_aload_n (pc := 2373) hX dL_law_2373 rfl ?_
    refine v_iconst (v := 0) (pc := 2374) hX dL_law_2374 (by decide) ?_
    refine v_lald (pc := 2375) hX dL_law_2375 w2.2.2.2.1 (j := 0) rfl (by decide) (by decide) hv ?_
    refine v_iload (pc := 2376) hX dL_law_2376 rfl ?_
    refine v_i2l (pc := 2378) hX dL_law_2378 ?_
    refine v_lcmp (pc := 2379) hX dL_law_2379 ?_
    refine v_if_eq (tgt := 2385) (pc := 2380) hX dL_law_2380 (by decide) (fun _ => ?_) (fun c => absurd (lg_self _) c)
    refine v_goto (tgt := 2680) (pc := 2385) hX dL_law_2385 (by decide) ?_
    refine mV_sub (lv' := [(5, .int (nI (5 * j))), (4, .ref d), (3, .ref o), (2, .ref r), (1, .ref b), (0, .ref sc)]) ⟨rfl, rfl, rfl, rfl, rfl, rfl, trivial⟩ ?_
    refine mV_widen (ce' := ce + 24) (sl' := sl + 6000) (by omega) (by omega) ?_
    exact k _ _ w1 w2 (by omega)
