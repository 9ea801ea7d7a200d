/-! THE LAW'S CALLS (3) -/
set_option maxHeartbeats 4000000 in
theorem lwc_18 {l : Launch} {g : mG} {x : mCx} {nm : String} {m : mM} {sc b r o d T ce sl j L : Nat} {xs : Nat → Int32} (hO : mO l g) (hd : VD g) (hcm : ∀ j, j < 12 → cmI g (cmA g j) = j) (hX : mX l g x cL_law (yLw nm) room_1 9) (hs : oT g .int sc L (fun i => .int (xs i))) (hw : OBJ g m m b r T) (hp : PL m b r o d) (hT : T + 12 ≤ 9000) (hj : 5 * j + 5 ≤ L) (hL : L ≤ 2560) (hce : ce + 24 ≤ 613022) (hsl : sl + 6000 ≤ 7185358) (k : ∀ (R : mM) (T1 : Nat), OBJ g R R b r T1 → PL R b r o d → T1 ≤ T + 12 → mV g x R (ce + 24) (sl + 6000) 2680 [(5, .int (nI (5 * j))), (4, .ref d), (3, .ref o), (2, .ref r), (1, .ref b), (0, .ref sc)] []) : mV g x m ce sl 1110 [(5, .int (nI (5 * j))), (4, .ref d), (3, .ref o), (2, .ref r), (1, .ref b), (0, .ref sc)] [] := by
  obtain ⟨N, H, nx, C, v⟩ := VW.of hw
  have hc : ∀ mr, VW g m mr b r T N H nx C → CL g b r o d T m mr (X10_furnaceAfter_m g m b (xs (5 * j + 1))) (X11_furnaceAfter_m g mr r (xs (5 * j + 1))) [("java/lang/IllegalArgumentException", 1)] (X10_furnaceAfter_x g m b (xs (5 * j + 1))) (X10_furnaceAfter_r g m b (xs (5 * j + 1)) = X11_furnaceAfter_r g mr r (xs (5 * j + 1))) := fun mr v => (q_furnaceAfter v.1 v.2.1 v.2.2.1 (xs (5 * j + 1))).toCL hp
  have c0 := hc m v
  refine v_aload_n (pc := 1110) hX dL_law_1110 rfl ?_
  refine v_aload_n (pc := 1111) hX dL_law_1111 rfl ?_
  refine v_iload (pc := 1112) hX dL_law_1112 rfl ?_
  refine v_iconst (v := 1) (pc := 1114) hX dL_law_1114 (by decide) ?_
  refine v_iadd (pc := 1115) hX dL_law_1115 ?_
  refine v_tiO (j := 5 * j + 1) (pc := 1116) hX dL_law_1116 hs (nI_k rfl) (by omega) (by omega) ?_
  show mV g x _ _ _ _ _ [.int (xs (5 * j + 1)), .ref b]
  refine v_aload_n (pc := 1117) hX dL_law_1117 rfl ?_
  refine v_callSX (z := yL_furnaceAfter) (pc := 1118) hX dL_law_1118 (c_L_furnaceAfter hO m b (xs (5 * j + 1)) o v.sb (c0.ko hp) c0.e1) wd_1132 wd_1133 wd_0 wd_1134 ⟨by decide, by decide, (by decide +kernel : (parseMethodDescriptor yL_furnaceAfter.desc).map (fun d => d.parameters.length) = some 3)⟩ rfl (Nat.le_of_ble_eq_true rfl) ⟨⟨Nat.le_of_ble_eq_true rfl, Nat.le_of_ble_eq_true rfl⟩, (by show ce + 1 ≤ 613022; omega), (by show sl + 6 ≤ 7185358; omega)⟩ (fun E9 m9 h9 => h9.elim) (fun u9 m9 h9 => ?_)
  obtain ⟨kk, rfl, wk⟩ := wkL h9
  clear h9
  have v9 := v.toR (c0.keep (q := o) hp (by have := hp.2.1; have := hp.2.2.1; omega) wk.1 wk.2.1)
  have c9 := hc m9 v9
  clear hc c0
  show mV g x m9 _ _ _ _ [.int kk]
  refine v_istore (pc := 1121) hX dL_law_1121 (by decide) rfl ?_
  refine v_aload_n (pc := 1123) hX dL_law_1123 rfl ?_
  refine v_aload_n (pc := 1124) hX dL_law_1124 rfl ?_
  refine v_iload (pc := 1125) hX dL_law_1125 rfl ?_
  refine v_iconst (v := 1) (pc := 1127) hX dL_law_1127 (by decide) ?_
  refine v_iadd (pc := 1128) hX dL_law_1128 ?_
  refine v_tiO (j := 5 * j + 1) (pc := 1129) hX dL_law_1129 hs (nI_k rfl) (by omega) (by omega) ?_
  show mV g x _ _ _ _ _ [.int (xs (5 * j + 1)), .ref r]
  refine v_callV (z := yX11_furnaceAfter) (pc := 1130) hX dL_law_1130 (c_X11_furnaceAfter hO m9 r (xs (5 * j + 1)) v9.sr) v9.sr.1 rfl wd_1768 wd_1769 wd_1770 wd_16 wd_1771 ⟨by decide, by decide, (by decide +kernel : (parseMethodDescriptor yX11_furnaceAfter.desc).map (fun d => d.parameters.length) = some 1)⟩ rfl (Nat.le_of_ble_eq_true rfl) ⟨⟨Nat.le_of_ble_eq_true rfl, Nat.le_of_ble_eq_true rfl⟩, (by show ce + 1 + 0 ≤ 613022; omega), (by show sl + 6 + 0 ≤ 7185358; omega)⟩ (fun E9 m8 h9 => h9.elim) (fun u8 R h9 => ?_)
  obtain ⟨rfl, h7⟩ := h9
  rw [← h7] at c9
  generalize (X11_furnaceAfter_r g m9 r (xs (5 * j + 1))) = yv at c9 ⊢
  show mV g x R _ _ _ _ [.int yv]
  obtain ⟨w1, w2, wl, wd⟩ := c9.next (q := o) hp v9.sr (by first | exact Or.inl rfl | exact Or.inr rfl) wk.1 wk.2.1
  obtain ⟨w3, w4⟩ := c9.out wk (by decide)
  clear c9
  refine v_istore (pc := 1133) hX dL_law_1133 (by decide) rfl ?_
  refine v_aload_n (pc := 1135) hX dL_law_1135 rfl ?_
  refine v_callV (z := yX11_thrown) (pc := 1136) hX dL_law_1136 (c_X11_thrown hO R r w1.2.2.2.1) w1.2.2.2.1.1 rfl wd_1573 wd_1574 wd_1575 wd_16 wd_1576 ⟨by decide, by decide, (by decide +kernel : (parseMethodDescriptor yX11_thrown.desc).map (fun d => d.parameters.length) = some 0)⟩ rfl (Nat.le_of_ble_eq_true rfl) ⟨⟨Nat.le_of_ble_eq_true rfl, Nat.le_of_ble_eq_true rfl⟩, (by show ce + 1 + 0 + 0 ≤ 613022; omega), (by show sl + 6 + 0 + 0 ≤ 7185358; omega)⟩ (fun E9 m8 h9 => h9.elim) (fun u8 m8 h9 => ?_)
  obtain ⟨rfl, h6⟩ := h9
  replace h6 := h6.symm
  subst h6
  rw [show X11_thrown_r g R r = kk from w3]
  show mV g x R _ _ _ _ [.int kk]
  refine v_iload (pc := 1139) hX dL_law_1139 rfl ?_
  refine v_icmp_eq (tgt := 1146) (pc := 1141) hX dL_law_1141 (by decide) (fun _ => ?_) (fun c => absurd rfl c)
  refine v_iload (pc := 1146) hX dL_law_1146 rfl ?_
  refine v_if_ne (tgt := 1163) (pc := 1148) hX dL_law_1148 (by decide) (fun _ => ?_) (fun c1 => ?_)
  ·
    refine v_goto (tgt := 2680) (pc := 1163) hX dL_law_1163 (by decide) ?_
    refine mV_sub (lv' := [(5, .int (nI (5 * j))), (4, .ref d), (3, .ref o), (2, .ref r), (1, .ref b), (0, .ref sc)]) ⟨rfl, rfl, rfl, rfl, rfl, rfl, trivial⟩ ?_
    refine mV_widen (ce' := ce + 24) (sl' := sl + 6000) (by omega) (by omega) ?_
    exact k _ _ w1 w2 (by omega)
  ·
    obtain ⟨wa, wb⟩ := w4 c1
    have hv : gL R o 0 = yv.toInt64 := by rw [wl, wa, wb]
    refine v_aload_n (pc := 1151) hX dL_law_1151 rfl ?_
    refine v_iconst (v := 0) (pc := 1152) hX dL_law_1152 (by decide) ?_
    refine v_lald (pc := 1153) hX dL_law_1153 w2.2.2.2.1 (j := 0) rfl (by decide) (by decide) hv ?_
    refine v_iload (pc := 1154) hX dL_law_1154 rfl ?_
    refine v_i2l (pc := 1156) hX dL_law_1156 ?_
    refine v_lcmp (pc := 1157) hX dL_law_1157 ?_
    refine v_if_eq (tgt := 1163) (pc := 1158) hX dL_law_1158 (by decide) (fun _ => ?_) (fun c => absurd (lg_self _) c)
    refine v_goto (tgt := 2680) (pc := 1163) hX dL_law_1163 (by decide) ?_
    refine mV_sub (lv' := [(5, .int (nI (5 * j))), (4, .ref d), (3, .ref o), (2, .ref r), (1, .ref b), (0, .ref sc)]) ⟨rfl, rfl, rfl, rfl, rfl, rfl, trivial⟩ ?_
    refine mV_widen (ce' := ce + 24) (sl' := sl + 6000) (by omega) (by omega) ?_
    exact k _ _ w1 w2 (by omega)
set_option maxHeartbeats 4000000 in
theorem lwc_19 {l : Launch} {g : mG} {x : mCx} {nm : String} {m : mM} {sc b r o d T ce sl j L : Nat} {xs : Nat → Int32} (hO : mO l g) (hd : VD g) (hcm : ∀ j, j < 12 → cmI g (cmA g j) = j) (hX : mX l g x cL_law (yLw nm) room_1 9) (hs : oT g .int sc L (fun i => .int (xs i))) (hw : OBJ g m m b r T) (hp : PL m b r o d) (hT : T + 12 ≤ 9000) (hj : 5 * j + 5 ≤ L) (hL : L ≤ 2560) (hce : ce + 24 ≤ 613022) (hsl : sl + 6000 ≤ 7185358) (k : ∀ (R : mM) (T1 : Nat), OBJ g R R b r T1 → PL R b r o d → T1 ≤ T + 12 → mV g x R (ce + 24) (sl + 6000) 2680 [(5, .int (nI (5 * j))), (4, .ref d), (3, .ref o), (2, .ref r), (1, .ref b), (0, .ref sc)] []) : mV g x m ce sl 1166 [(5, .int (nI (5 * j))), (4, .ref d), (3, .ref o), (2, .ref r), (1, .ref b), (0, .ref sc)] [] := by
  obtain ⟨N, H, nx, C, v⟩ := VW.of hw
  have hc : ∀ mr, VW g m mr b r T N H nx C → CL g b r o d T m mr m (X11_pieceCount_m g mr r) [] none (X10_pieceCount_r g m b = X11_pieceCount_r g mr r) := fun mr v => (q_pieceCount v.1 v.2.1).toCL hp
  have c0 := hc m v
  refine v_aload_n (pc := 1166) hX dL_law_1166 rfl ?_
  refine v_callV (z := yX10_pieceCount) (pc := 1167) hX dL_law_1167 (c_X10_pieceCount hO m b v.sb) v.sb.1 rfl wd_361 wd_362 wd_363 wd_1 wd_364 ⟨by decide, by decide, (by decide +kernel : (parseMethodDescriptor yX10_pieceCount.desc).map (fun d => d.parameters.length) = some 0)⟩ rfl (Nat.le_of_ble_eq_true rfl) ⟨⟨Nat.le_of_ble_eq_true rfl, Nat.le_of_ble_eq_true rfl⟩, (by show ce + 0 ≤ 613022; omega), (by show sl + 0 ≤ 7185358; omega)⟩ (fun E9 m9 h9 => h9.elim) (fun u9 m9 h9 => ?_)
  obtain ⟨rfl, h8⟩ := h9
  replace h8 := h8.symm
  subst h8
  have v9 := v
  have c9 := c0
  clear hc c0
  show mV g x m _ _ _ _ [.int (X10_pieceCount_r g m b)]
  refine v_aload_n (pc := 1170) hX dL_law_1170 rfl ?_
  refine v_callV (z := yX11_pieceCount) (pc := 1171) hX dL_law_1171 (c_X11_pieceCount hO m r v9.sr) v9.sr.1 rfl wd_1776 wd_1777 wd_1778 wd_16 wd_1779 ⟨by decide, by decide, (by decide +kernel : (parseMethodDescriptor yX11_pieceCount.desc).map (fun d => d.parameters.length) = some 0)⟩ rfl (Nat.le_of_ble_eq_true rfl) ⟨⟨Nat.le_of_ble_eq_true rfl, Nat.le_of_ble_eq_true rfl⟩, (by show ce + 0 + 0 ≤ 613022; omega), (by show sl + 0 + 0 ≤ 7185358; omega)⟩ (fun E9 m8 h9 => h9.elim) (fun u8 R h9 => ?_)
  obtain ⟨rfl, h7⟩ := h9
  rw [← h7] at c9
  generalize (X11_pieceCount_r g m r) = yv at c9 ⊢
  show mV g x R _ _ _ _ [.int yv, .int (X10_pieceCount_r g m b)]
  obtain ⟨w1, w2, -, -⟩ := c9.next (q := o) hp v9.sr (Or.inl rfl) rfl (fun _ _ => Sm.rf)
  have ws := c9.same0
  clear c9
  refine v_icmp_eq (tgt := 2680) (pc := 1174) hX dL_law_1174 (by decide) (fun _ => ?_) (fun c => absurd ws c)
  refine mV_sub (lv' := [(5, .int (nI (5 * j))), (4, .ref d), (3, .ref o), (2, .ref r), (1, .ref b), (0, .ref sc)]) ⟨rfl, rfl, rfl, rfl, rfl, rfl, trivial⟩ ?_
  refine mV_widen (ce' := ce + 24) (sl' := sl + 6000) (by omega) (by omega) ?_
  exact k _ _ w1 w2 (by omega)
set_option maxHeartbeats 4000000 in
theorem lwc_20 {l : Launch} {g : mG} {x : mCx} {nm : String} {m : mM} {sc b r o d T ce sl j L : Nat} {xs : Nat → Int32} (hO : mO l g) (hd : VD g) (hcm : ∀ j, j < 12 → cmI g (cmA g j) = j) (hX : mX l g x cL_law (yLw nm) room_1 9) (hs : oT g .int sc L (fun i => .int (xs i))) (hw : OBJ g m m b r T) (hp : PL m b r o d) (hT : T + 12 ≤ 9000) (hj : 5 * j + 5 ≤ L) (hL : L ≤ 2560) (hce : ce + 24 ≤ 613022) (hsl : sl + 6000 ≤ 7185358) (k : ∀ (R : mM) (T1 : Nat), OBJ g R R b r T1 → PL R b r o d → T1 ≤ T + 12 → mV g x R (ce + 24) (sl + 6000) 2680 [(5, .int (nI (5 * j))), (4, .ref d), (3, .ref o), (2, .ref r), (1, .ref b), (0, .ref sc)] []) : mV g x m ce sl 1179 [(5, .int (nI (5 * j))), (4, .ref d), (3, .ref o), (2, .ref r), (1, .ref b), (0, .ref sc)] [] := by
  obtain ⟨N, H, nx, C, v⟩ := VW.of hw
  have hc : ∀ mr, VW g m mr b r T N H nx C → CL g b r o d T m mr m (X11_exists_m g mr r (xs (5 * j + 1)) N) [] none (X10_exists_r g m b (xs (5 * j + 1)) N = X11_exists_r g mr r (xs (5 * j + 1)) N) := fun mr v => (q_exists hd v.1 v.2.1 v.2.2.1 (xs (5 * j + 1))).toCL hp
  have c0 := hc m v
  refine v_aload_n (pc := 1179) hX dL_law_1179 rfl ?_
  refine v_aload_n (pc := 1180) hX dL_law_1180 rfl ?_
  refine v_iload (pc := 1181) hX dL_law_1181 rfl ?_
  refine v_iconst (v := 1) (pc := 1183) hX dL_law_1183 (by decide) ?_
  refine v_iadd (pc := 1184) hX dL_law_1184 ?_
  refine v_tiO (j := 5 * j + 1) (pc := 1185) hX dL_law_1185 hs (nI_k rfl) (by omega) (by omega) ?_
  show mV g x _ _ _ _ _ [.int (xs (5 * j + 1)), .ref b]
  refine v_callV (z := yX10_exists) (pc := 1186) hX dL_law_1186 (c_X10_exists hO m b (xs (5 * j + 1)) N v.sb v.hN v.N8) v.sb.1 rfl wd_365 wd_366 wd_367 wd_1 wd_368 ⟨by decide, by decide, (by decide +kernel : (parseMethodDescriptor yX10_exists.desc).map (fun d => d.parameters.length) = some 1)⟩ rfl (Nat.le_of_ble_eq_true rfl) ⟨⟨Nat.le_of_ble_eq_true rfl, Nat.le_of_ble_eq_true rfl⟩, (by show ce + 0 ≤ 613022; omega), (by show sl + 0 ≤ 7185358; omega)⟩ (fun E9 m9 h9 => h9.elim) (fun u9 m9 h9 => ?_)
  obtain ⟨rfl, h8⟩ := h9
  replace h8 := h8.symm
  subst h8
  have v9 := v
  have c9 := c0
  clear hc c0
  show mV g x m _ _ _ _ [.int (X10_exists_r g m b (xs (5 * j + 1)) N)]
  refine v_aload_n (pc := 1189) hX dL_law_1189 rfl ?_
  refine v_aload_n (pc := 1190) hX dL_law_1190 rfl ?_
  refine v_iload (pc := 1191) hX dL_law_1191 rfl ?_
  refine v_iconst (v := 1) (pc := 1193) hX dL_law_1193 (by decide) ?_
  refine v_iadd (pc := 1194) hX dL_law_1194 ?_
  refine v_tiO (j := 5 * j + 1) (pc := 1195) hX dL_law_1195 hs (nI_k rfl) (by omega) (by omega) ?_
  show mV g x _ _ _ _ _ [.int (xs (5 * j + 1)), .ref r, .int (X10_exists_r g m b (xs (5 * j + 1)) N)]
  refine v_callV (z := yX11_exists) (pc := 1196) hX dL_law_1196 (c_X11_exists hO m r (xs (5 * j + 1)) N v9.sr v9.rN v9.N8) v9.sr.1 rfl wd_1780 wd_1781 wd_1782 wd_16 wd_1783 ⟨by decide, by decide, (by decide +kernel : (parseMethodDescriptor yX11_exists.desc).map (fun d => d.parameters.length) = some 1)⟩ rfl (Nat.le_of_ble_eq_true rfl) ⟨⟨Nat.le_of_ble_eq_true rfl, Nat.le_of_ble_eq_true rfl⟩, (by show ce + 0 + 0 ≤ 613022; omega), (by show sl + 0 + 0 ≤ 7185358; omega)⟩ (fun E9 m8 h9 => h9.elim) (fun u8 R h9 => ?_)
  obtain ⟨rfl, h7⟩ := h9
  rw [← h7] at c9
  generalize (X11_exists_r g m r (xs (5 * j + 1)) N) = yv at c9 ⊢
  show mV g x R _ _ _ _ [.int yv, .int (X10_exists_r g m b (xs (5 * j + 1)) N)]
  obtain ⟨w1, w2, -, -⟩ := c9.next (q := o) hp v9.sr (Or.inl rfl) rfl (fun _ _ => Sm.rf)
  have ws := c9.same0
  clear c9
  refine v_icmp_eq (tgt := 2680) (pc := 1199) hX dL_law_1199 (by decide) (fun _ => ?_) (fun c => absurd ws c)
  refine mV_sub (lv' := [(5, .int (nI (5 * j))), (4, .ref d), (3, .ref o), (2, .ref r), (1, .ref b), (0, .ref sc)]) ⟨rfl, rfl, rfl, rfl, rfl, rfl, trivial⟩ ?_
  refine mV_widen (ce' := ce + 24) (sl' := sl + 6000) (by omega) (by omega) ?_
  exact k _ _ w1 w2 (by omega)
set_option maxHeartbeats 4000000 in
theorem lwc_21 {l : Launch} {g : mG} {x : mCx} {nm : String} {m : mM} {sc b r o d T ce sl j L : Nat} {xs : Nat → Int32} (hO : mO l g) (hd : VD g) (hcm : ∀ j, j < 12 → cmI g (cmA g j) = j) (hX : mX l g x cL_law (yLw nm) room_1 9) (hs : oT g .int sc L (fun i => .int (xs i))) (hw : OBJ g m m b r T) (hp : PL m b r o d) (hT : T + 12 ≤ 9000) (hj : 5 * j + 5 ≤ L) (hL : L ≤ 2560) (hce : ce + 24 ≤ 613022) (hsl : sl + 6000 ≤ 7185358) (k : ∀ (R : mM) (T1 : Nat), OBJ g R R b r T1 → PL R b r o d → T1 ≤ T + 12 → mV g x R (ce + 24) (sl + 6000) 2680 [(5, .int (nI (5 * j))), (4, .ref d), (3, .ref o), (2, .ref r), (1, .ref b), (0, .ref sc)] []) : mV g x m ce sl 1204 [(5, .int (nI (5 * j))), (4, .ref d), (3, .ref o), (2, .ref r), (1, .ref b), (0, .ref sc)] [] := by
  obtain ⟨N, H, nx, C, v⟩ := VW.of hw
  have hc : ∀ mr, VW g m mr b r T N H nx C → CL g b r o d T m mr m (X11_pieceAt_m g mr r (xs (5 * j + 1)) N) [("java/lang/IndexOutOfBoundsException", 1)] (X10_pieceAt_x g m b (xs (5 * j + 1)) N) (X10_pieceAt_r g m b (xs (5 * j + 1)) N = X11_pieceAt_r g mr r (xs (5 * j + 1)) N) := fun mr v => (q_pieceAt hd v.1 v.2.1 v.2.2.1 (xs (5 * j + 1))).toCL hp
  have c0 := hc m v
  refine v_aload_n (pc := 1204) hX dL_law_1204 rfl ?_
  refine v_aload_n (pc := 1205) hX dL_law_1205 rfl ?_
  refine v_iload (pc := 1206) hX dL_law_1206 rfl ?_
  refine v_iconst (v := 1) (pc := 1208) hX dL_law_1208 (by decide) ?_
  refine v_iadd (pc := 1209) hX dL_law_1209 ?_
  refine v_tiO (j := 5 * j + 1) (pc := 1210) hX dL_law_1210 hs (nI_k rfl) (by omega) (by omega) ?_
  show mV g x _ _ _ _ _ [.int (xs (5 * j + 1)), .ref b]
  refine v_aload_n (pc := 1211) hX dL_law_1211 rfl ?_
  refine v_callSX (z := yL_pieceAt) (pc := 1212) hX dL_law_1212 (c_L_pieceAt hO m b (xs (5 * j + 1)) o N v.sb v.hN v.N8 hp.2.2.2.1 c0.e1) wd_1144 wd_1145 wd_0 wd_1146 ⟨by decide, by decide, (by decide +kernel : (parseMethodDescriptor yL_pieceAt.desc).map (fun d => d.parameters.length) = some 3)⟩ rfl (Nat.le_of_ble_eq_true rfl) ⟨⟨Nat.le_of_ble_eq_true rfl, Nat.le_of_ble_eq_true rfl⟩, (by show ce + 1 ≤ 613022; omega), (by show sl + 6 ≤ 7185358; omega)⟩ (fun E9 m9 h9 => h9.elim) (fun u9 m9 h9 => ?_)
  obtain ⟨kk, rfl, wk⟩ := wkL h9
  clear h9
  have v9 := v.toR (c0.keep (q := o) hp (by have := hp.2.1; have := hp.2.2.1; omega) wk.1 wk.2.1)
  have c9 := hc m9 v9
  clear hc c0
  show mV g x m9 _ _ _ _ [.int kk]
  refine v_istore (pc := 1215) hX dL_law_1215 (by decide) rfl ?_
  refine v_aload_n (pc := 1217) hX dL_law_1217 rfl ?_
  refine v_aload_n (pc := 1218) hX dL_law_1218 rfl ?_
  refine v_iload (pc := 1219) hX dL_law_1219 rfl ?_
  refine v_iconst (v := 1) (pc := 1221) hX dL_law_1221 (by decide) ?_
  refine v_iadd (pc := 1222) hX dL_law_1222 ?_
  refine v_tiO (j := 5 * j + 1) (pc := 1223) hX dL_law_1223 hs (nI_k rfl) (by omega) (by omega) ?_
  show mV g x _ _ _ _ _ [.int (xs (5 * j + 1)), .ref r]
  refine v_callV (z := yX11_pieceAt) (pc := 1224) hX dL_law_1224 (c_X11_pieceAt hO m9 r (xs (5 * j + 1)) N v9.sr v9.rN v9.N8) v9.sr.1 rfl wd_1784 wd_1785 wd_1786 wd_16 wd_1787 ⟨by decide, by decide, (by decide +kernel : (parseMethodDescriptor yX11_pieceAt.desc).map (fun d => d.parameters.length) = some 1)⟩ rfl (Nat.le_of_ble_eq_true rfl) ⟨⟨Nat.le_of_ble_eq_true rfl, Nat.le_of_ble_eq_true rfl⟩, (by show ce + 1 + 0 ≤ 613022; omega), (by show sl + 6 + 0 ≤ 7185358; omega)⟩ (fun E9 m8 h9 => h9.elim) (fun u8 R h9 => ?_)
  obtain ⟨rfl, h7⟩ := h9
  rw [← h7] at c9
  generalize (X11_pieceAt_r g m9 r (xs (5 * j + 1)) N) = yv at c9 ⊢
  show mV g x R _ _ _ _ [.int yv]
  obtain ⟨w1, w2, wl, wd⟩ := c9.next (q := o) hp v9.sr (by first | exact Or.inl rfl | exact Or.inr rfl) wk.1 wk.2.1
  obtain ⟨w3, w4⟩ := c9.out wk (by decide)
  clear c9
  refine v_istore (pc := 1227) hX dL_law_1227 (by decide) rfl ?_
  refine v_aload_n (pc := 1229) hX dL_law_1229 rfl ?_
  refine v_callV (z := yX11_thrown) (pc := 1230) hX dL_law_1230 (c_X11_thrown hO R r w1.2.2.2.1) w1.2.2.2.1.1 rfl wd_1573 wd_1574 wd_1575 wd_16 wd_1576 ⟨by decide, by decide, (by decide +kernel : (parseMethodDescriptor yX11_thrown.desc).map (fun d => d.parameters.length) = some 0)⟩ rfl (Nat.le_of_ble_eq_true rfl) ⟨⟨Nat.le_of_ble_eq_true rfl, Nat.le_of_ble_eq_true rfl⟩, (by show ce + 1 + 0 + 0 ≤ 613022; omega), (by show sl + 6 + 0 + 0 ≤ 7185358; omega)⟩ (fun E9 m8 h9 => h9.elim) (fun u8 m8 h9 => ?_)
  obtain ⟨rfl, h6⟩ := h9
  replace h6 := h6.symm
  subst h6
  rw [show X11_thrown_r g R r = kk from w3]
  show mV g x R _ _ _ _ [.int kk]
  refine v_iload (pc := 1233) hX dL_law_1233 rfl ?_
  refine v_icmp_eq (tgt := 1240) (pc := 1235) hX dL_law_1235 (by decide) (fun _ => ?_) (fun c => absurd rfl c)
  refine v_iload (pc := 1240) hX dL_law_1240 rfl ?_
  refine v_if_ne (tgt := 1257) (pc := 1242) hX dL_law_1242 (by decide) (fun _ => ?_) (fun c1 => ?_)
  ·
    refine v_goto (tgt := 2680) (pc := 1257) hX dL_law_1257 (by decide) ?_
    refine mV_sub (lv' := [(5, .int (nI (5 * j))), (4, .ref d), (3, .ref o), (2, .ref r), (1, .ref b), (0, .ref sc)]) ⟨rfl, rfl, rfl, rfl, rfl, rfl, trivial⟩ ?_
    refine mV_widen (ce' := ce + 24) (sl' := sl + 6000) (by omega) (by omega) ?_
    exact k _ _ w1 w2 (by omega)
  ·
    obtain ⟨wa, wb⟩ := w4 c1
    have hv : gL R o 0 = yv.toInt64 := by rw [wl, wa, wb]
    refine v_aload_n (pc := 1245) hX dL_law_1245 rfl ?_
    refine v_iconst (v := 0) (pc := 1246) hX dL_law_1246 (by decide) ?_
    refine v_lald (pc := 1247) hX dL_law_1247 w2.2.2.2.1 (j := 0) rfl (by decide) (by decide) hv ?_
    refine v_iload (pc := 1248) hX dL_law_1248 rfl ?_
    refine v_i2l (pc := 1250) hX dL_law_1250 ?_
    refine v_lcmp (pc := 1251) hX dL_law_1251 ?_
    refine v_if_eq (tgt := 1257) (pc := 1252) hX dL_law_1252 (by decide) (fun _ => ?_) (fun c => absurd (lg_self _) c)
    refine v_goto (tgt := 2680) (pc := 1257) hX dL_law_1257 (by decide) ?_
    refine mV_sub (lv' := [(5, .int (nI (5 * j))), (4, .ref d), (3, .ref o), (2, .ref r), (1, .ref b), (0, .ref sc)]) ⟨rfl, rfl, rfl, rfl, rfl, rfl, trivial⟩ ?_
    refine mV_widen (ce' := ce + 24) (sl' := sl + 6000) (by omega) (by omega) ?_
    exact k _ _ w1 w2 (by omega)
set_option maxHeartbeats 4000000 in
theorem lwc_22 {l : Launch} {g : mG} {x : mCx} {nm : String} {m : mM} {sc b r o d T ce sl j L : Nat} {xs : Nat → Int32} (hO : mO l g) (hd : VD g) (hcm : ∀ j, j < 12 → cmI g (cmA g j) = j) (hX : mX l g x cL_law (yLw nm) room_1 9) (hs : oT g .int sc L (fun i => .int (xs i))) (hw : OBJ g m m b r T) (hp : PL m b r o d) (hT : T + 12 ≤ 9000) (hj : 5 * j + 5 ≤ L) (hL : L ≤ 2560) (hce : ce + 24 ≤ 613022) (hsl : sl + 6000 ≤ 7185358) (k : ∀ (R : mM) (T1 : Nat), OBJ g R R b r T1 → PL R b r o d → T1 ≤ T + 12 → mV g x R (ce + 24) (sl + 6000) 2680 [(5, .int (nI (5 * j))), (4, .ref d), (3, .ref o), (2, .ref r), (1, .ref b), (0, .ref sc)] []) : mV g x m ce sl 1260 [(5, .int (nI (5 * j))), (4, .ref d), (3, .ref o), (2, .ref r), (1, .ref b), (0, .ref sc)] [] := by
  obtain ⟨N, H, nx, C, v⟩ := VW.of hw
  have hc : ∀ mr, VW g m mr b r T N H nx C → CL g b r o d T m mr m (X11_kind_m g mr r (xs (5 * j + 1)) N) [("java/util/NoSuchElementException", 1)] (X10_kind_x g m b (xs (5 * j + 1)) N) (X10_kind_r g m b (xs (5 * j + 1)) N = X11_kind_r g mr r (xs (5 * j + 1)) N) := fun mr v => (q_kind hd v.1 v.2.1 v.2.2.1 (xs (5 * j + 1))).toCL hp
  have c0 := hc m v
  refine v_aload_n (pc := 1260) hX dL_law_1260 rfl ?_
  refine v_aload_n (pc := 1261) hX dL_law_1261 rfl ?_
  refine v_iload (pc := 1262) hX dL_law_1262 rfl ?_
  refine v_iconst (v := 1) (pc := 1264) hX dL_law_1264 (by decide) ?_
  refine v_iadd (pc := 1265) hX dL_law_1265 ?_
  refine v_tiO (j := 5 * j + 1) (pc := 1266) hX dL_law_1266 hs (nI_k rfl) (by omega) (by omega) ?_
  show mV g x _ _ _ _ _ [.int (xs (5 * j + 1)), .ref b]
  refine v_aload_n (pc := 1267) hX dL_law_1267 rfl ?_
  refine v_callSX (z := yL_kind) (pc := 1268) hX dL_law_1268 (c_L_kind hO m b (xs (5 * j + 1)) o N v.sb v.hN v.N8 hp.2.2.2.1 c0.e1) wd_1156 wd_1157 wd_0 wd_1158 ⟨by decide, by decide, (by decide +kernel : (parseMethodDescriptor yL_kind.desc).map (fun d => d.parameters.length) = some 3)⟩ rfl (Nat.le_of_ble_eq_true rfl) ⟨⟨Nat.le_of_ble_eq_true rfl, Nat.le_of_ble_eq_true rfl⟩, (by show ce + 1 ≤ 613022; omega), (by show sl + 6 ≤ 7185358; omega)⟩ (fun E9 m9 h9 => h9.elim) (fun u9 m9 h9 => ?_)
  obtain ⟨kk, rfl, wk⟩ := wkL h9
  clear h9
  have v9 := v.toR (c0.keep (q := o) hp (by have := hp.2.1; have := hp.2.2.1; omega) wk.1 wk.2.1)
  have c9 := hc m9 v9
  clear hc c0
  show mV g x m9 _ _ _ _ [.int kk]
  refine v_istore (pc := 1271) hX dL_law_1271 (by decide) rfl ?_
  refine v_aload_n (pc := 1273) hX dL_law_1273 rfl ?_
  refine v_aload_n (pc := 1274) hX dL_law_1274 rfl ?_
  refine v_iload (pc := 1275) hX dL_law_1275 rfl ?_
  refine v_iconst (v := 1) (pc := 1277) hX dL_law_1277 (by decide) ?_
  refine v_iadd (pc := 1278) hX dL_law_1278 ?_
  refine v_tiO (j := 5 * j + 1) (pc := 1279) hX dL_law_1279 hs (nI_k rfl) (by omega) (by omega) ?_
  show mV g x _ _ _ _ _ [.int (xs (5 * j + 1)), .ref r]
  refine v_callV (z := yX11_kind) (pc := 1280) hX dL_law_1280 (c_X11_kind hO m9 r (xs (5 * j + 1)) N v9.sr v9.rN v9.N8) v9.sr.1 rfl wd_1788 wd_1789 wd_1790 wd_16 wd_1791 ⟨by decide, by decide, (by decide +kernel : (parseMethodDescriptor yX11_kind.desc).map (fun d => d.parameters.length) = some 1)⟩ rfl (Nat.le_of_ble_eq_true rfl) ⟨⟨Nat.le_of_ble_eq_true rfl, Nat.le_of_ble_eq_true rfl⟩, (by show ce + 1 + 0 ≤ 613022; omega), (by show sl + 6 + 0 ≤ 7185358; omega)⟩ (fun E9 m8 h9 => h9.elim) (fun u8 R h9 => ?_)
  obtain ⟨rfl, h7⟩ := h9
  rw [← h7] at c9
  generalize (X11_kind_r g m9 r (xs (5 * j + 1)) N) = yv at c9 ⊢
  show mV g x R _ _ _ _ [.int yv]
  obtain ⟨w1, w2, wl, wd⟩ := c9.next (q := o) hp v9.sr (by first | exact Or.inl rfl | exact Or.inr rfl) wk.1 wk.2.1
  obtain ⟨w3, w4⟩ := c9.out wk (by decide)
  clear c9
  refine v_istore (pc := 1283) hX dL_law_1283 (by decide) rfl ?_
  refine v_aload_n (pc := 1285) hX dL_law_1285 rfl ?_
  refine v_callV (z := yX11_thrown) (pc := 1286) hX dL_law_1286 (c_X11_thrown hO R r w1.2.2.2.1) w1.2.2.2.1.1 rfl wd_1573 wd_1574 wd_1575 wd_16 wd_1576 ⟨by decide, by decide, (by decide +kernel : (parseMethodDescriptor yX11_thrown.desc).map (fun d => d.parameters.length) = some 0)⟩ rfl (Nat.le_of_ble_eq_true rfl) ⟨⟨Nat.le_of_ble_eq_true rfl, Nat.le_of_ble_eq_true rfl⟩, (by show ce + 1 + 0 + 0 ≤ 613022; omega), (by show sl + 6 + 0 + 0 ≤ 7185358; omega)⟩ (fun E9 m8 h9 => h9.elim) (fun u8 m8 h9 => ?_)
  obtain ⟨rfl, h6⟩ := h9
  replace h6 := h6.symm
  subst h6
  rw [show X11_thrown_r g R r = kk from w3]
  show mV g x R _ _ _ _ [.int kk]
  refine v_iload (pc := 1289) hX dL_law_1289 rfl ?_
  refine v_icmp_eq (tgt := 1296) (pc := 1291) hX dL_law_1291 (by decide) (fun _ => ?_) (fun c => absurd rfl c)
  refine v_iload (pc := 1296) hX dL_law_1296 rfl ?_
  refine v_if_ne (tgt := 1313) (pc := 1298) hX dL_law_1298 (by decide) (fun _ => ?_) (fun c1 => ?_)
  ·
    refine v_goto (tgt := 2680) (pc := 1313) hX dL_law_1313 (by decide) ?_
    refine mV_sub (lv' := [(5, .int (nI (5 * j))), (4, .ref d), (3, .ref o), (2, .ref r), (1, .ref b), (0, .ref sc)]) ⟨rfl, rfl, rfl, rfl, rfl, rfl, trivial⟩ ?_
    refine mV_widen (ce' := ce + 24) (sl' := sl + 6000) (by omega) (by omega) ?_
    exact k _ _ w1 w2 (by omega)
  ·
    obtain ⟨wa, wb⟩ := w4 c1
    have hv : gL R o 0 = yv.toInt64 := by rw [wl, wa, wb]
    refine v_aload_n (pc := 1301) hX dL_law_1301 rfl ?_
    refine v_iconst (v := 0) (pc := 1302) hX dL_law_1302 (by decide) ?_
    refine v_lald (pc := 1303) hX dL_law_1303 w2.2.2.2.1 (j := 0) rfl (by decide) (by decide) hv ?_
    refine v_iload (pc := 1304) hX dL_law_1304 rfl ?_
    refine v_i2l (pc := 1306) hX dL_law_1306 ?_
    refine v_lcmp (pc := 1307) hX dL_law_1307 ?_
    refine v_if_eq (tgt := 1313) (pc := 1308) hX dL_law_1308 (by decide) (fun _ => ?_) (fun c => absurd (lg_self _) c)
    refine v_goto (tgt := 2680) (pc := 1313) hX dL_law_1313 (by decide) ?_
    refine mV_sub (lv' := [(5, .int (nI (5 * j))), (4, .ref d), (3, .ref o), (2, .ref r), (1, .ref b), (0, .ref sc)]) ⟨rfl, rfl, rfl, rfl, rfl, rfl, trivial⟩ ?_
    refine mV_widen (ce' := ce + 24) (sl' := sl + 6000) (by omega) (by omega) ?_
    exact k _ _ w1 w2 (by omega)
set_option maxHeartbeats 4000000 in
theorem lwc_23 {l : Launch} {g : mG} {x : mCx} {nm : String} {m : mM} {sc b r o d T ce sl j L : Nat} {xs : Nat → Int32} (hO : mO l g) (hd : VD g) (hcm : ∀ j, j < 12 → cmI g (cmA g j) = j) (hX : mX l g x cL_law (yLw nm) room_1 9) (hs : oT g .int sc L (fun i => .int (xs i))) (hw : OBJ g m m b r T) (hp : PL m b r o d) (hT : T + 12 ≤ 9000) (hj : 5 * j + 5 ≤ L) (hL : L ≤ 2560) (hce : ce + 24 ≤ 613022) (hsl : sl + 6000 ≤ 7185358) (k : ∀ (R : mM) (T1 : Nat), OBJ g R R b r T1 → PL R b r o d → T1 ≤ T + 12 → mV g x R (ce + 24) (sl + 6000) 2680 [(5, .int (nI (5 * j))), (4, .ref d), (3, .ref o), (2, .ref r), (1, .ref b), (0, .ref sc)] []) : mV g x m ce sl 1316 [(5, .int (nI (5 * j))), (4, .ref d), (3, .ref o), (2, .ref r), (1, .ref b), (0, .ref sc)] [] := by
  obtain ⟨N, H, nx, C, v⟩ := VW.of hw
  have hc : ∀ mr, VW g m mr b r T N H nx C → CL g b r o d T m mr m (X11_temperature_m g mr r (xs (5 * j + 1)) N) [("java/util/NoSuchElementException", 1)] (X10_temperature_x g m b (xs (5 * j + 1)) N) (X10_temperature_r g m b (xs (5 * j + 1)) N = X11_temperature_r g mr r (xs (5 * j + 1)) N) := fun mr v => (q_temperature hd v.1 v.2.1 v.2.2.1 (xs (5 * j + 1))).toCL hp
  have c0 := hc m v
  refine v_aload_n (pc := 1316) hX dL_law_1316 rfl ?_
  refine v_aload_n (pc := 1317) hX dL_law_1317 rfl ?_
  refine v_iload (pc := 1318) hX dL_law_1318 rfl ?_
  refine v_iconst (v := 1) (pc := 1320) hX dL_law_1320 (by decide) ?_
  refine v_iadd (pc := 1321) hX dL_law_1321 ?_
  refine v_tiO (j := 5 * j + 1) (pc := 1322) hX dL_law_1322 hs (nI_k rfl) (by omega) (by omega) ?_
  show mV g x _ _ _ _ _ [.int (xs (5 * j + 1)), .ref b]
  refine v_aload_n (pc := 1323) hX dL_law_1323 rfl ?_
  refine v_callSX (z := yL_temperature) (pc := 1324) hX dL_law_1324 (c_L_temperature hO m b (xs (5 * j + 1)) o N v.sb v.hN v.N8 hp.2.2.2.1 c0.e1) wd_1167 wd_1168 wd_0 wd_1169 ⟨by decide, by decide, (by decide +kernel : (parseMethodDescriptor yL_temperature.desc).map (fun d => d.parameters.length) = some 3)⟩ rfl (Nat.le_of_ble_eq_true rfl) ⟨⟨Nat.le_of_ble_eq_true rfl, Nat.le_of_ble_eq_true rfl⟩, (by show ce + 1 ≤ 613022; omega), (by show sl + 6 ≤ 7185358; omega)⟩ (fun E9 m9 h9 => h9.elim) (fun u9 m9 h9 => ?_)
  obtain ⟨kk, rfl, wk⟩ := wkL h9
  clear h9
  have v9 := v.toR (c0.keep (q := o) hp (by have := hp.2.1; have := hp.2.2.1; omega) wk.1 wk.2.1)
  have c9 := hc m9 v9
  clear hc c0
  show mV g x m9 _ _ _ _ [.int kk]
  refine v_istore (pc := 1327) hX dL_law_1327 (by decide) rfl ?_
  refine v_aload_n (pc := 1329) hX dL_law_1329 rfl ?_
  refine v_aload_n (pc := 1330) hX dL_law_1330 rfl ?_
  refine v_iload (pc := 1331) hX dL_law_1331 rfl ?_
  refine v_iconst (v := 1) (pc := 1333) hX dL_law_1333 (by decide) ?_
  refine v_iadd (pc := 1334) hX dL_law_1334 ?_
  refine v_tiO (j := 5 * j + 1) (pc := 1335) hX dL_law_1335 hs (nI_k rfl) (by omega) (by omega) ?_
  show mV g x _ _ _ _ _ [.int (xs (5 * j + 1)), .ref r]
  refine v_callV (z := yX11_temperature) (pc := 1336) hX dL_law_1336 (c_X11_temperature hO m9 r (xs (5 * j + 1)) N v9.sr v9.rN v9.N8) v9.sr.1 rfl wd_1796 wd_1797 wd_1798 wd_16 wd_1799 ⟨by decide, by decide, (by decide +kernel : (parseMethodDescriptor yX11_temperature.desc).map (fun d => d.parameters.length) = some 1)⟩ rfl (Nat.le_of_ble_eq_true rfl) ⟨⟨Nat.le_of_ble_eq_true rfl, Nat.le_of_ble_eq_true rfl⟩, (by show ce + 1 + 0 ≤ 613022; omega), (by show sl + 6 + 0 ≤ 7185358; omega)⟩ (fun E9 m8 h9 => h9.elim) (fun u8 R h9 => ?_)
  obtain ⟨rfl, h7⟩ := h9
  rw [← h7] at c9
  generalize (X11_temperature_r g m9 r (xs (5 * j + 1)) N) = yv at c9 ⊢
  show mV g x R _ _ _ _ [.int yv]
  obtain ⟨w1, w2, wl, wd⟩ := c9.next (q := o) hp v9.sr (by first | exact Or.inl rfl | exact Or.inr rfl) wk.1 wk.2.1
  obtain ⟨w3, w4⟩ := c9.out wk (by decide)
  clear c9
  refine v_istore (pc := 1339) hX dL_law_1339 (by decide) rfl ?_
  refine v_aload_n (pc := 1341) hX dL_law_1341 rfl ?_
  refine v_callV (z := yX11_thrown) (pc := 1342) hX dL_law_1342 (c_X11_thrown hO R r w1.2.2.2.1) w1.2.2.2.1.1 rfl wd_1573 wd_1574 wd_1575 wd_16 wd_1576 ⟨by decide, by decide, (by decide +kernel : (parseMethodDescriptor yX11_thrown.desc).map (fun d => d.parameters.length) = some 0)⟩ rfl (Nat.le_of_ble_eq_true rfl) ⟨⟨Nat.le_of_ble_eq_true rfl, Nat.le_of_ble_eq_true rfl⟩, (by show ce + 1 + 0 + 0 ≤ 613022; omega), (by show sl + 6 + 0 + 0 ≤ 7185358; omega)⟩ (fun E9 m8 h9 => h9.elim) (fun u8 m8 h9 => ?_)
  obtain ⟨rfl, h6⟩ := h9
  replace h6 := h6.symm
  subst h6
  rw [show X11_thrown_r g R r = kk from w3]
  show mV g x R _ _ _ _ [.int kk]
  refine v_iload (pc := 1345) hX dL_law_1345 rfl ?_
  refine v_icmp_eq (tgt := 1352) (pc := 1347) hX dL_law_1347 (by decide) (fun _ => ?_) (fun c => absurd rfl c)
  refine v_iload (pc := 1352) hX dL_law_1352 rfl ?_
  refine v_if_ne (tgt := 1369) (pc := 1354) hX dL_law_1354 (by decide) (fun _ => ?_) (fun c1 => ?_)
  ·
    refine v_goto (tgt := 2680) (pc := 1369) hX dL_law_1369 (by decide) ?_
    refine mV_sub (lv' := [(5, .int (nI (5 * j))), (4, .ref d), (3, .ref o), (2, .ref r), (1, .ref b), (0, .ref sc)]) ⟨rfl, rfl, rfl, rfl, rfl, rfl, trivial⟩ ?_
    refine mV_widen (ce' := ce + 24) (sl' := sl + 6000) (by omega) (by omega) ?_
    exact k _ _ w1 w2 (by omega)
  ·
    obtain ⟨wa, wb⟩ := w4 c1
    have hv : gL R o 0 = yv.toInt64 := by rw [wl, wa, wb]
    refine v_aload_n (pc := 1357) hX dL_law_1357 rfl ?_
    refine v_iconst (v := 0) (pc := 1358) hX dL_law_1358 (by decide) ?_
    refine v_lald (pc := 1359) hX dL_law_1359 w2.2.2.2.1 (j := 0) rfl (by decide) (by decide) hv ?_
    refine v_iload (pc := 1360) hX dL_law_1360 rfl ?_
    refine v_i2l (pc := 1362) hX dL_law_1362 ?_
    refine v_lcmp (pc := 1363) hX dL_law_1363 ?_
    refine v_if_eq (tgt := 1369) (pc := 1364) hX dL_law_1364 (by decide) (fun _ => ?_) (fun c => absurd (lg_self _) c)
    refine v_goto (tgt := 2680) (pc := 1369) hX dL_law_1369 (by decide) ?_
    refine mV_sub (lv' := [(5, .int (nI (5 * j))), (4, .ref d), (3, .ref o), (2, .ref r), (1, .ref b), (0, .ref sc)]) ⟨rfl, rfl, rfl, rfl, rfl, rfl, trivial⟩ ?_
    refine mV_widen (ce' := ce + 24) (sl' := sl + 6000) (by omega) (by omega) ?_
    exact k _ _ w1 w2 (by omega)
set_option maxHeartbeats 4000000 in
theorem lwc_24 {l : Launch} {g : mG} {x : mCx} {nm : String} {m : mM} {sc b r o d T ce sl j L : Nat} {xs : Nat → Int32} (hO : mO l g) (hd : VD g) (hcm : ∀ j, j < 12 → cmI g (cmA g j) = j) (hX : mX l g x cL_law (yLw nm) room_1 9) (hs : oT g .int sc L (fun i => .int (xs i))) (hw : OBJ g m m b r T) (hp : PL m b r o d) (hT : T + 12 ≤ 9000) (hj : 5 * j + 5 ≤ L) (hL : L ≤ 2560) (hce : ce + 24 ≤ 613022) (hsl : sl + 6000 ≤ 7185358) (k : ∀ (R : mM) (T1 : Nat), OBJ g R R b r T1 → PL R b r o d → T1 ≤ T + 12 → mV g x R (ce + 24) (sl + 6000) 2680 [(5, .int (nI (5 * j))), (4, .ref d), (3, .ref o), (2, .ref r), (1, .ref b), (0, .ref sc)] []) : mV g x m ce sl 1372 [(5, .int (nI (5 * j))), (4, .ref d), (3, .ref o), (2, .ref r), (1, .ref b), (0, .ref sc)] [] := by
  obtain ⟨N, H, nx, C, v⟩ := VW.of hw
  have hc : ∀ mr, VW g m mr b r T N H nx C → CL g b r o d T m mr m (X11_stages_m g mr r (xs (5 * j + 1)) N) [("java/util/NoSuchElementException", 1)] (X10_stages_x g m b (xs (5 * j + 1)) N) (X10_stages_r g m b (xs (5 * j + 1)) N = X11_stages_r g mr r (xs (5 * j + 1)) N) := fun mr v => (q_stages hd v.1 v.2.1 v.2.2.1 (xs (5 * j + 1))).toCL hp
  have c0 := hc m v
  refine v_aload_n (pc := 1372) hX dL_law_1372 rfl ?_
  refine v_aload_n (pc := 1373) hX dL_law_1373 rfl ?_
  refine v_iload (pc := 1374) hX dL_law_1374 rfl ?_
  refine v_iconst (v := 1) (pc := 1376) hX dL_law_1376 (by decide) ?_
  refine v_iadd (pc := 1377) hX dL_law_1377 ?_
  refine v_tiO (j := 5 * j + 1) (pc := 1378) hX dL_law_1378 hs (nI_k rfl) (by omega) (by omega) ?_
  show mV g x _ _ _ _ _ [.int (xs (5 * j + 1)), .ref b]
  refine v_aload_n (pc := 1379) hX dL_law_1379 rfl ?_
  refine v_callSX (z := yL_stages) (pc := 1380) hX dL_law_1380 (c_L_stages hO m b (xs (5 * j + 1)) o N v.sb v.hN v.N8 hp.2.2.2.1 c0.e1) wd_1174 wd_1175 wd_0 wd_1176 ⟨by decide, by decide, (by decide +kernel : (parseMethodDescriptor yL_stages.desc).map (fun d => d.parameters.length) = some 3)⟩ rfl (Nat.le_of_ble_eq_true rfl) ⟨⟨Nat.le_of_ble_eq_true rfl, Nat.le_of_ble_eq_true rfl⟩, (by show ce + 1 ≤ 613022; omega), (by show sl + 6 ≤ 7185358; omega)⟩ (fun E9 m9 h9 => h9.elim) (fun u9 m9 h9 => ?_)
  obtain ⟨kk, rfl, wk⟩ := wkL h9
  clear h9
  have v9 := v.toR (c0.keep (q := o) hp (by have := hp.2.1; have := hp.2.2.1; omega) wk.1 wk.2.1)
  have c9 := hc m9 v9
  clear hc c0
  show mV g x m9 _ _ _ _ [.int kk]
  refine v_istore (pc := 1383) hX dL_law_1383 (by decide) rfl ?_
  refine v_aload_n (pc := 1385) hX dL_law_1385 rfl ?_
  refine v_aload_n (pc := 1386) hX dL_law_1386 rfl ?_
  refine v_iload (pc := 1387) hX dL_law_1387 rfl ?_
  refine v_iconst (v := 1) (pc := 1389) hX dL_law_1389 (by decide) ?_
  refine v_iadd (pc := 1390) hX dL_law_1390 ?_
  refine v_tiO (j := 5 * j + 1) (pc := 1391) hX dL_law_1391 hs (nI_k rfl) (by omega) (by omega) ?_
  show mV g x _ _ _ _ _ [.int (xs (5 * j + 1)), .ref r]
  refine v_callV (z := yX11_stages) (pc := 1392) hX dL_law_1392 (c_X11_stages hO m9 r (xs (5 * j + 1)) N v9.sr v9.rN v9.N8) v9.sr.1 rfl wd_1800 wd_1801 wd_1802 wd_16 wd_1803 ⟨by decide, by decide, (by decide +kernel : (parseMethodDescriptor yX11_stages.desc).map (fun d => d.parameters.length) = some 1)⟩ rfl (Nat.le_of_ble_eq_true rfl) ⟨⟨Nat.le_of_ble_eq_true rfl, Nat.le_of_ble_eq_true rfl⟩, (by show ce + 1 + 0 ≤ 613022; omega), (by show sl + 6 + 0 ≤ 7185358; omega)⟩ (fun E9 m8 h9 => h9.elim) (fun u8 R h9 => ?_)
  obtain ⟨rfl, h7⟩ := h9
  rw [← h7] at c9
  generalize (X11_stages_r g m9 r (xs (5 * j + 1)) N) = yv at c9 ⊢
  show mV g x R _ _ _ _ [.int yv]
  obtain ⟨w1, w2, wl, wd⟩ := c9.next (q := o) hp v9.sr (by first | exact Or.inl rfl | exact Or.inr rfl) wk.1 wk.2.1
  obtain ⟨w3, w4⟩ := c9.out wk (by decide)
  clear c9
  refine v_istore (pc := 1395) hX dL_law_1395 (by decide) rfl ?_
  refine v_aload_n (pc := 1397) hX dL_law_1397 rfl ?_
  refine v_callV (z := yX11_thrown) (pc := 1398) hX dL_law_1398 (c_X11_thrown hO R r w1.2.2.2.1) w1.2.2.2.1.1 rfl wd_1573 wd_1574 wd_1575 wd_16 wd_1576 ⟨by decide, by decide, (by decide +kernel : (parseMethodDescriptor yX11_thrown.desc).map (fun d => d.parameters.length) = some 0)⟩ rfl (Nat.le_of_ble_eq_true rfl) ⟨⟨Nat.le_of_ble_eq_true rfl, Nat.le_of_ble_eq_true rfl⟩, (by show ce + 1 + 0 + 0 ≤ 613022; omega), (by show sl + 6 + 0 + 0 ≤ 7185358; omega)⟩ (fun E9 m8 h9 => h9.elim) (fun u8 m8 h9 => ?_)
  obtain ⟨rfl, h6⟩ := h9
  replace h6 := h6.symm
  subst h6
  rw [show X11_thrown_r g R r = kk from w3]
  show mV g x R _ _ _ _ [.int kk]
  refine v_iload (pc := 1401) hX dL_law_1401 rfl ?_
  refine v_icmp_eq (tgt := 1408) (pc := 1403) hX dL_law_1403 (by decide) (fun _ => ?_) (fun c => absurd rfl c)
  refine v_iload (pc := 1408) hX dL_law_1408 rfl ?_
  refine v_if_ne (tgt := 1425) (pc := 1410) hX dL_law_1410 (by decide) (fun _ => ?_) (fun c1 => ?_)
  ·
    refine v_goto (tgt := 2680) (pc := 1425) hX dL_law_1425 (by decide) ?_
    refine mV_sub (lv' := [(5, .int (nI (5 * j))), (4, .ref d), (3, .ref o), (2, .ref r), (1, .ref b), (0, .ref sc)]) ⟨rfl, rfl, rfl, rfl, rfl, rfl, trivial⟩ ?_
    refine mV_widen (ce' := ce + 24) (sl' := sl + 6000) (by omega) (by omega) ?_
    exact k _ _ w1 w2 (by omega)
  ·
    obtain ⟨wa, wb⟩ := w4 c1
    have hv : gL R o 0 = yv.toInt64 := by rw [wl, wa, wb]
    refine v_aload_n (pc := 1413) hX dL_law_1413 rfl ?_
    refine v_iconst (v := 0) (pc := 1414) hX dL_law_1414 (by decide) ?_
    refine v_lald (pc := 1415) hX dL_law_1415 w2.2.2.2.1 (j := 0) rfl (by decide) (by decide) hv ?_
    refine v_iload (pc := 1416) hX dL_law_1416 rfl ?_
    refine v_i2l (pc := 1418) hX dL_law_1418 ?_
    refine v_lcmp (pc := 1419) hX dL_law_1419 ?_
    refine v_if_eq (tgt := 1425) (pc := 1420) hX dL_law_1420 (by decide) (fun _ => ?_) (fun c => absurd (lg_self _) c)
    refine v_goto (tgt := 2680) (pc := 1425) hX dL_law_1425 (by decide) ?_
    refine mV_sub (lv' := [(5, .int (nI (5 * j))), (4, .ref d), (3, .ref o), (2, .ref r), (1, .ref b), (0, .ref sc)]) ⟨rfl, rfl, rfl, rfl, rfl, rfl, trivial⟩ ?_
    refine mV_widen (ce' := ce + 24) (sl' := sl + 6000) (by omega) (by omega) ?_
    exact k _ _ w1 w2 (by omega)
set_option maxHeartbeats 4000000 in
theorem lwc_25 {l : Launch} {g : mG} {x : mCx} {nm : String} {m : mM} {sc b r o d T ce sl j L : Nat} {xs : Nat → Int32} (hO : mO l g) (hd : VD g) (hcm : ∀ j, j < 12 → cmI g (cmA g j) = j) (hX : mX l g x cL_law (yLw nm) room_1 9) (hs : oT g .int sc L (fun i => .int (xs i))) (hw : OBJ g m m b r T) (hp : PL m b r o d) (hT : T + 12 ≤ 9000) (hj : 5 * j + 5 ≤ L) (hL : L ≤ 2560) (hce : ce + 24 ≤ 613022) (hsl : sl + 6000 ≤ 7185358) (k : ∀ (R : mM) (T1 : Nat), OBJ g R R b r T1 → PL R b r o d → T1 ≤ T + 12 → mV g x R (ce + 24) (sl + 6000) 2680 [(5, .int (nI (5 * j))), (4, .ref d), (3, .ref o), (2, .ref r), (1, .ref b), (0, .ref sc)] []) : mV g x m ce sl 1428 [(5, .int (nI (5 * j))), (4, .ref d), (3, .ref o), (2, .ref r), (1, .ref b), (0, .ref sc)] [] := by
  obtain ⟨N, H, nx, C, v⟩ := VW.of hw
  have hc : ∀ mr, VW g m mr b r T N H nx C → CL g b r o d T m mr m (X11_hardness_m g mr r (xs (5 * j + 1)) N) [("java/util/NoSuchElementException", 1)] (X10_hardness_x g m b (xs (5 * j + 1)) N) (X10_hardness_r g m b (xs (5 * j + 1)) N = X11_hardness_r g mr r (xs (5 * j + 1)) N) := fun mr v => (q_hardness hd v.1 v.2.1 v.2.2.1 (xs (5 * j + 1))).toCL hp
  have c0 := hc m v
  refine v_aload_n (pc := 1428) hX dL_law_1428 rfl ?_
  refine v_aload_n (pc := 1429) hX dL_law_1429 rfl ?_
  refine v_iload (pc := 1430) hX dL_law_1430 rfl ?_
  refine v_iconst (v := 1) (pc := 1432) hX dL_law_1432 (by decide) ?_
  refine v_iadd (pc := 1433) hX dL_law_1433 ?_
  refine v_tiO (j := 5 * j + 1) (pc := 1434) hX dL_law_1434 hs (nI_k rfl) (by omega) (by omega) ?_
  show mV g x _ _ _ _ _ [.int (xs (5 * j + 1)), .ref b]
  refine v_aload_n (pc := 1435) hX dL_law_1435 rfl ?_
  refine v_callSX (z := yL_hardness) (pc := 1436) hX dL_law_1436 (c_L_hardness hO m b (xs (5 * j + 1)) o N v.sb v.hN v.N8 hp.2.2.2.1 c0.e1) wd_1181 wd_1182 wd_0 wd_1183 ⟨by decide, by decide, (by decide +kernel : (parseMethodDescriptor yL_hardness.desc).map (fun d => d.parameters.length) = some 3)⟩ rfl (Nat.le_of_ble_eq_true rfl) ⟨⟨Nat.le_of_ble_eq_true rfl, Nat.le_of_ble_eq_true rfl⟩, (by show ce + 1 ≤ 613022; omega), (by show sl + 6 ≤ 7185358; omega)⟩ (fun E9 m9 h9 => h9.elim) (fun u9 m9 h9 => ?_)
  obtain ⟨kk, rfl, wk⟩ := wkL h9
  clear h9
  have v9 := v.toR (c0.keep (q := o) hp (by have := hp.2.1; have := hp.2.2.1; omega) wk.1 wk.2.1)
  have c9 := hc m9 v9
  clear hc c0
  show mV g x m9 _ _ _ _ [.int kk]
  refine v_istore (pc := 1439) hX dL_law_1439 (by decide) rfl ?_
  refine v_aload_n (pc := 1441) hX dL_law_1441 rfl ?_
  refine v_aload_n (pc := 1442) hX dL_law_1442 rfl ?_
  refine v_iload (pc := 1443) hX dL_law_1443 rfl ?_
  refine v_iconst (v := 1) (pc := 1445) hX dL_law_1445 (by decide) ?_
  refine v_iadd (pc := 1446) hX dL_law_1446 ?_
  refine v_tiO (j := 5 * j + 1) (pc := 1447) hX dL_law_1447 hs (nI_k rfl) (by omega) (by omega) ?_
  show mV g x _ _ _ _ _ [.int (xs (5 * j + 1)), .ref r]
  refine v_callV (z := yX11_hardness) (pc := 1448) hX dL_law_1448 (c_X11_hardness hO m9 r (xs (5 * j + 1)) N v9.sr v9.rN v9.N8) v9.sr.1 rfl wd_1804 wd_1805 wd_1806 wd_16 wd_1807 ⟨by decide, by decide, (by decide +kernel : (parseMethodDescriptor yX11_hardness.desc).map (fun d => d.parameters.length) = some 1)⟩ rfl (Nat.le_of_ble_eq_true rfl) ⟨⟨Nat.le_of_ble_eq_true rfl, Nat.le_of_ble_eq_true rfl⟩, (by show ce + 1 + 0 ≤ 613022; omega), (by show sl + 6 + 0 ≤ 7185358; omega)⟩ (fun E9 m8 h9 => h9.elim) (fun u8 R h9 => ?_)
  obtain ⟨rfl, h7⟩ := h9
  rw [← h7] at c9
  generalize (X11_hardness_r g m9 r (xs (5 * j + 1)) N) = yv at c9 ⊢
  show mV g x R _ _ _ _ [.int yv]
  obtain ⟨w1, w2, wl, wd⟩ := c9.next (q := o) hp v9.sr (by first | exact Or.inl rfl | exact Or.inr rfl) wk.1 wk.2.1
  obtain ⟨w3, w4⟩ := c9.out wk (by decide)
  clear c9
  refine v_istore (pc := 1451) hX dL_law_1451 (by decide) rfl ?_
  refine v_aload_n (pc := 1453) hX dL_law_1453 rfl ?_
  refine v_callV (z := yX11_thrown) (pc := 1454) hX dL_law_1454 (c_X11_thrown hO R r w1.2.2.2.1) w1.2.2.2.1.1 rfl wd_1573 wd_1574 wd_1575 wd_16 wd_1576 ⟨by decide, by decide, (by decide +kernel : (parseMethodDescriptor yX11_thrown.desc).map (fun d => d.parameters.length) = some 0)⟩ rfl (Nat.le_of_ble_eq_true rfl) ⟨⟨Nat.le_of_ble_eq_true rfl, Nat.le_of_ble_eq_true rfl⟩, (by show ce + 1 + 0 + 0 ≤ 613022; omega), (by show sl + 6 + 0 + 0 ≤ 7185358; omega)⟩ (fun E9 m8 h9 => h9.elim) (fun u8 m8 h9 => ?_)
  obtain ⟨rfl, h6⟩ := h9
  replace h6 := h6.symm
  subst h6
  rw [show X11_thrown_r g R r = kk from w3]
  show mV g x R _ _ _ _ [.int kk]
  refine v_iload (pc := 1457) hX dL_law_1457 rfl ?_
  refine v_icmp_eq (tgt := 1464) (pc := 1459) hX dL_law_1459 (by decide) (fun _ => ?_) (fun c => absurd rfl c)
  refine v_iload (pc := 1464) hX dL_law_1464 rfl ?_
  refine v_if_ne (tgt := 1481) (pc := 1466) hX dL_law_1466 (by decide) (fun _ => ?_) (fun c1 => ?_)
  ·
    refine v_goto (tgt := 2680) (pc := 1481) hX dL_law_1481 (by decide) ?_
    refine mV_sub (lv' := [(5, .int (nI (5 * j))), (4, .ref d), (3, .ref o), (2, .ref r), (1, .ref b), (0, .ref sc)]) ⟨rfl, rfl, rfl, rfl, rfl, rfl, trivial⟩ ?_
    refine mV_widen (ce' := ce + 24) (sl' := sl + 6000) (by omega) (by omega) ?_
    exact k _ _ w1 w2 (by omega)
  ·
    obtain ⟨wa, wb⟩ := w4 c1
    have hv : gL R o 0 = yv.toInt64 := by rw [wl, wa, wb]
    refine v_aload_n (pc := 1469) hX dL_law_1469 rfl ?_
    refine v_iconst (v := 0) (pc := 1470) hX dL_law_1470 (by decide) ?_
    refine v_lald (pc := 1471) hX dL_law_1471 w2.2.2.2.1 (j := 0) rfl (by decide) (by decide) hv ?_
    refine v_iload (pc := 1472) hX dL_law_1472 rfl ?_
    refine v_i2l (pc := 1474) hX dL_law_1474 ?_
    refine v_lcmp (pc := 1475) hX dL_law_1475 ?_
    refine v_if_eq (tgt := 1481) (pc := 1476) hX dL_law_1476 (by decide) (fun _ => ?_) (fun c => absurd (lg_self _) c)
    refine v_goto (tgt := 2680) (pc := 1481) hX dL_law_1481 (by decide) ?_
    refine mV_sub (lv' := [(5, .int (nI (5 * j))), (4, .ref d), (3, .ref o), (2, .ref r), (1, .ref b), (0, .ref sc)]) ⟨rfl, rfl, rfl, rfl, rfl, rfl, trivial⟩ ?_
    refine mV_widen (ce' := ce + 24) (sl' := sl + 6000) (by omega) (by omega) ?_
    exact k _ _ w1 w2 (by omega)
set_option maxHeartbeats 4000000 in
theorem lwc_26 {l : Launch} {g : mG} {x : mCx} {nm : String} {m : mM} {sc b r o d T ce sl j L : Nat} {xs : Nat → Int32} (hO : mO l g) (hd : VD g) (hcm : ∀ j, j < 12 → cmI g (cmA g j) = j) (hX : mX l g x cL_law (yLw nm) room_1 9) (hs : oT g .int sc L (fun i => .int (xs i))) (hw : OBJ g m m b r T) (hp : PL m b r o d) (hT : T + 12 ≤ 9000) (hj : 5 * j + 5 ≤ L) (hL : L ≤ 2560) (hce : ce + 24 ≤ 613022) (hsl : sl + 6000 ≤ 7185358) (k : ∀ (R : mM) (T1 : Nat), OBJ g R R b r T1 → PL R b r o d → T1 ≤ T + 12 → mV g x R (ce + 24) (sl + 6000) 2680 [(5, .int (nI (5 * j))), (4, .ref d), (3, .ref o), (2, .ref r), (1, .ref b), (0, .ref sc)] []) : mV g x m ce sl 1484 [(5, .int (nI (5 * j))), (4, .ref d), (3, .ref o), (2, .ref r), (1, .ref b), (0, .ref sc)] [] := by
  obtain ⟨N, H, nx, C, v⟩ := VW.of hw
  have hc : ∀ mr, VW g m mr b r T N H nx C → CL g b r o d T m mr m (X11_isInFurnace_m g mr r (xs (5 * j + 1)) N) [("java/util/NoSuchElementException", 1)] (X10_isInFurnace_x g m b (xs (5 * j + 1)) N) (X10_isInFurnace_r g m b (xs (5 * j + 1)) N = X11_isInFurnace_r g mr r (xs (5 * j + 1)) N) := fun mr v => (q_isInFurnace hd v.1 v.2.1 v.2.2.1 (xs (5 * j + 1))).toCL hp
  have c0 := hc m v
  refine v_aload_n (pc := 1484) hX dL_law_1484 rfl ?_
  refine v_aload_n (pc := 1485) hX dL_law_1485 rfl ?_
  refine v_iload (pc := 1486) hX dL_law_1486 rfl ?_
  refine v_iconst (v := 1) (pc := 1488) hX dL_law_1488 (by decide) ?_
  refine v_iadd (pc := 1489) hX dL_law_1489 ?_
  refine v_tiO (j := 5 * j + 1) (pc := 1490) hX dL_law_1490 hs (nI_k rfl) (by omega) (by omega) ?_
  show mV g x _ _ _ _ _ [.int (xs (5 * j + 1)), .ref b]
  refine v_aload_n (pc := 1491) hX dL_law_1491 rfl ?_
  refine v_callSX (z := yL_isInFurnace) (pc := 1492) hX dL_law_1492 (c_L_isInFurnace hO m b (xs (5 * j + 1)) o N v.sb v.hN v.N8 hp.2.2.2.1 c0.e1) wd_1188 wd_1189 wd_0 wd_1190 ⟨by decide, by decide, (by decide +kernel : (parseMethodDescriptor yL_isInFurnace.desc).map (fun d => d.parameters.length) = some 3)⟩ rfl (Nat.le_of_ble_eq_true rfl) ⟨⟨Nat.le_of_ble_eq_true rfl, Nat.le_of_ble_eq_true rfl⟩, (by show ce + 1 ≤ 613022; omega), (by show sl + 6 ≤ 7185358; omega)⟩ (fun E9 m9 h9 => h9.elim) (fun u9 m9 h9 => ?_)
  obtain ⟨kk, rfl, wk⟩ := wkL h9
  clear h9
  have v9 := v.toR (c0.keep (q := o) hp (by have := hp.2.1; have := hp.2.2.1; omega) wk.1 wk.2.1)
  have c9 := hc m9 v9
  clear hc c0
  show mV g x m9 _ _ _ _ [.int kk]
  refine v_istore (pc := 1495) hX dL_law_1495 (by decide) rfl ?_
  refine v_aload_n (pc := 1497) hX dL_law_1497 rfl ?_
  refine v_aload_n (pc := 1498) hX dL_law_1498 rfl ?_
  refine v_iload (pc := 1499) hX dL_law_1499 rfl ?_
  refine v_iconst (v := 1) (pc := 1501) hX dL_law_1501 (by decide) ?_
  refine v_iadd (pc := 1502) hX dL_law_1502 ?_
  refine v_tiO (j := 5 * j + 1) (pc := 1503) hX dL_law_1503 hs (nI_k rfl) (by omega) (by omega) ?_
  show mV g x _ _ _ _ _ [.int (xs (5 * j + 1)), .ref r]
  refine v_callV (z := yX11_isInFurnace) (pc := 1504) hX dL_law_1504 (c_X11_isInFurnace hO m9 r (xs (5 * j + 1)) N v9.sr v9.rN v9.N8) v9.sr.1 rfl wd_1808 wd_1809 wd_1810 wd_16 wd_1811 ⟨by decide, by decide, (by decide +kernel : (parseMethodDescriptor yX11_isInFurnace.desc).map (fun d => d.parameters.length) = some 1)⟩ rfl (Nat.le_of_ble_eq_true rfl) ⟨⟨Nat.le_of_ble_eq_true rfl, Nat.le_of_ble_eq_true rfl⟩, (by show ce + 1 + 0 ≤ 613022; omega), (by show sl + 6 + 0 ≤ 7185358; omega)⟩ (fun E9 m8 h9 => h9.elim) (fun u8 R h9 => ?_)
  obtain ⟨rfl, h7⟩ := h9
  rw [← h7] at c9
  generalize (X11_isInFurnace_r g m9 r (xs (5 * j + 1)) N) = yv at c9 ⊢
  show mV g x R _ _ _ _ [.int yv]
  obtain ⟨w1, w2, wl, wd⟩ := c9.next (q := o) hp v9.sr (by first | exact Or.inl rfl | exact Or.inr rfl) wk.1 wk.2.1
  obtain ⟨w3, w4⟩ := c9.out wk (by decide)
  clear c9
  refine v_istore (pc := 1507) hX dL_law_1507 (by decide) rfl ?_
  refine v_aload_n (pc := 1509) hX dL_law_1509 rfl ?_
  refine v_callV (z := yX11_thrown) (pc := 1510) hX dL_law_1510 (c_X11_thrown hO R r w1.2.2.2.1) w1.2.2.2.1.1 rfl wd_1573 wd_1574 wd_1575 wd_16 wd_1576 ⟨by decide, by decide, (by decide +kernel : (parseMethodDescriptor yX11_thrown.desc).map (fun d => d.parameters.length) = some 0)⟩ rfl (Nat.le_of_ble_eq_true rfl) ⟨⟨Nat.le_of_ble_eq_true rfl, Nat.le_of_ble_eq_true rfl⟩, (by show ce + 1 + 0 + 0 ≤ 613022; omega), (by show sl + 6 + 0 + 0 ≤ 7185358; omega)⟩ (fun E9 m8 h9 => h9.elim) (fun u8 m8 h9 => ?_)
  obtain ⟨rfl, h6⟩ := h9
  replace h6 := h6.symm
  subst h6
  rw [show X11_thrown_r g R r = kk from w3]
  show mV g x R _ _ _ _ [.int kk]
  refine v_iload (pc := 1513) hX dL_law_1513 rfl ?_
  refine v_icmp_eq (tgt := 1520) (pc := 1515) hX dL_law_1515 (by decide) (fun _ => ?_) (fun c => absurd rfl c)
  refine v_iload (pc := 1520) hX dL_law_1520 rfl ?_
  refine v_if_ne (tgt := 1544) (pc := 1522) hX dL_law_1522 (by decide) (fun _ => ?_) (fun c1 => ?_)
  ·
    refine v_goto (tgt := 2680) (pc := 1544) hX dL_law_1544 (by decide) ?_
    refine mV_sub (lv' := [(5, .int (nI (5 * j))), (4, .ref d), (3, .ref o), (2, .ref r), (1, .ref b), (0, .ref sc)]) ⟨rfl, rfl, rfl, rfl, rfl, rfl, trivial⟩ ?_
    refine mV_widen (ce' := ce + 24) (sl' := sl + 6000) (by omega) (by omega) ?_
    exact k _ _ w1 w2 (by omega)
  ·
    obtain ⟨wa, wb⟩ := w4 c1
    have hv : gL R o 0 = (if yv = 0 then (0 : Int64) else 1) := by rw [wl, wa, wb]
    refine v_aload_n (pc := 1525) hX dL_law_1525 rfl ?_
    refine v_iconst (v := 0) (pc := 1526) hX dL_law_1526 (by decide) ?_
    refine v_lald (pc := 1527) hX dL_law_1527 w2.2.2.2.1 (j := 0) rfl (by decide) (by decide) hv ?_
    refine v_iload (pc := 1528) hX dL_law_1528 rfl ?_
    refine v_if_eq (tgt := 1537) (pc := 1530) hX dL_law_1530 (by decide) (fun c2 => ?_) (fun c2 => ?_)
    ·
      rw [if_pos c2]
      refine v_lconst (v := 0) (pc := 1537) hX dL_law_1537 (by decide) ?_
      refine v_lcmp (pc := 1538) hX dL_law_1538 ?_
      refine v_if_eq (tgt := 1544) (pc := 1539) hX dL_law_1539 (by decide) (fun _ => ?_) (fun c => absurd (lg_self _) c)
      refine v_goto (tgt := 2680) (pc := 1544) hX dL_law_1544 (by decide) ?_
      refine mV_sub (lv' := [(5, .int (nI (5 * j))), (4, .ref d), (3, .ref o), (2, .ref r), (1, .ref b), (0, .ref sc)]) ⟨rfl, rfl, rfl, rfl, rfl, rfl, trivial⟩ ?_
      refine mV_widen (ce' := ce + 24) (sl' := sl + 6000) (by omega) (by omega) ?_
      exact k _ _ w1 w2 (by omega)
    ·
      rw [if_neg c2]
      refine v_lconst (v := 1) (pc := 1533) hX dL_law_1533 (by decide) ?_
      refine v_goto (tgt := 1538) (pc := 1534) hX dL_law_1534 (by decide) ?_
      refine v_lcmp (pc := 1538) hX dL_law_1538 ?_
      refine v_if_eq (tgt := 1544) (pc := 1539) hX dL_law_1539 (by decide) (fun _ => ?_) (fun c => absurd (lg_self _) c)
      refine v_goto (tgt := 2680) (pc := 1544) hX dL_law_1544 (by decide) ?_
      refine mV_sub (lv' := [(5, .int (nI (5 * j))), (4, .ref d), (3, .ref o), (2, .ref r), (1, .ref b), (0, .ref sc)]) ⟨rfl, rfl, rfl, rfl, rfl, rfl, trivial⟩ ?_
      refine mV_widen (ce' := ce + 24) (sl' := sl + 6000) (by omega) (by omega) ?_
      exact k _ _ w1 w2 (by omega)
