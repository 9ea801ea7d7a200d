/-! THE LAW'S CALLS (4) -/
set_option maxHeartbeats 4000000 in
theorem lwc_27 {l : Launch} {g : mG} {x : mCx} {nm : String} {m : mM} {sc b r o d T ce sl j L : Nat} {xs : Nat → Int32} (hO : mO l g) (hd : VD g) (hcm : ∀ j, j < 12 → cmI g (cmA g j) = j) (hX : mX l g x cL_law (yLw nm) room_1 9) (hs : oT g .int sc L (fun i => .int (xs i))) (hw : OBJ g m m b r T) (hp : PL m b r o d) (hT : T + 12 ≤ 9000) (hj : 5 * j + 5 ≤ L) (hL : L ≤ 2560) (hce : ce + 24 ≤ 613022) (hsl : sl + 6000 ≤ 7185358) (k : ∀ (R : mM) (T1 : Nat), OBJ g R R b r T1 → PL R b r o d → T1 ≤ T + 12 → mV g x R (ce + 24) (sl + 6000) 2680 [(5, .int (nI (5 * j))), (4, .ref d), (3, .ref o), (2, .ref r), (1, .ref b), (0, .ref sc)] []) : mV g x m ce sl 1547 [(5, .int (nI (5 * j))), (4, .ref d), (3, .ref o), (2, .ref r), (1, .ref b), (0, .ref sc)] [] := by
  obtain ⟨N, H, nx, C, v⟩ := VW.of hw
  have hc : ∀ mr, VW g m mr b r T N H nx C → CL g b r o d T m mr m (X11_isQuenched_m g mr r (xs (5 * j + 1)) N) [("java/util/NoSuchElementException", 1)] (X10_isQuenched_x g m b (xs (5 * j + 1)) N) (X10_isQuenched_r g m b (xs (5 * j + 1)) N = X11_isQuenched_r g mr r (xs (5 * j + 1)) N) := fun mr v => (q_isQuenched hd v.1 v.2.1 v.2.2.1 (xs (5 * j + 1))).toCL hp
  have c0 := hc m v
  refine v_aload_n (pc := 1547) hX dL_law_1547 rfl ?_
  refine v_aload_n (pc := 1548) hX dL_law_1548 rfl ?_
  refine v_iload (pc := 1549) hX dL_law_1549 rfl ?_
  refine v_iconst (v := 1) (pc := 1551) hX dL_law_1551 (by decide) ?_
  refine v_iadd (pc := 1552) hX dL_law_1552 ?_
  refine v_tiO (j := 5 * j + 1) (pc := 1553) hX dL_law_1553 hs (nI_k rfl) (by omega) (by omega) ?_
  show mV g x _ _ _ _ _ [.int (xs (5 * j + 1)), .ref b]
  refine v_aload_n (pc := 1554) hX dL_law_1554 rfl ?_
  refine v_callSX (z := yL_isQuenched) (pc := 1555) hX dL_law_1555 (c_L_isQuenched hO m b (xs (5 * j + 1)) o N v.sb v.hN v.N8 hp.2.2.2.1 c0.e1) wd_1195 wd_1196 wd_0 wd_1197 ⟨by decide, by decide, (by decide +kernel : (parseMethodDescriptor yL_isQuenched.desc).map (fun d => d.parameters.length) = some 3)⟩ rfl (Nat.le_of_ble_eq_true rfl) ⟨⟨Nat.le_of_ble_eq_true rfl, Nat.le_of_ble_eq_true rfl⟩, (by show ce + 1 ≤ 613022; omega), (by show sl + 6 ≤ 7185358; omega)⟩ (fun E9 m9 h9 => h9.elim) (fun u9 m9 h9 => ?_)
  obtain ⟨kk, rfl, wk⟩ := wkL h9
  clear h9
  have v9 := v.toR (c0.keep (q := o) hp (by have := hp.2.1; have := hp.2.2.1; omega) wk.1 wk.2.1)
  have c9 := hc m9 v9
  clear hc c0
  show mV g x m9 _ _ _ _ [.int kk]
  refine v_istore (pc := 1558) hX dL_law_1558 (by decide) rfl ?_
  refine v_aload_n (pc := 1560) hX dL_law_1560 rfl ?_
  refine v_aload_n (pc := 1561) hX dL_law_1561 rfl ?_
  refine v_iload (pc := 1562) hX dL_law_1562 rfl ?_
  refine v_iconst (v := 1) (pc := 1564) hX dL_law_1564 (by decide) ?_
  refine v_iadd (pc := 1565) hX dL_law_1565 ?_
  refine v_tiO (j := 5 * j + 1) (pc := 1566) hX dL_law_1566 hs (nI_k rfl) (by omega) (by omega) ?_
  show mV g x _ _ _ _ _ [.int (xs (5 * j + 1)), .ref r]
  refine v_callV (z := yX11_isQuenched) (pc := 1567) hX dL_law_1567 (c_X11_isQuenched hO m9 r (xs (5 * j + 1)) N v9.sr v9.rN v9.N8) v9.sr.1 rfl wd_1812 wd_1813 wd_1814 wd_16 wd_1815 ⟨by decide, by decide, (by decide +kernel : (parseMethodDescriptor yX11_isQuenched.desc).map (fun d => d.parameters.length) = some 1)⟩ rfl (Nat.le_of_ble_eq_true rfl) ⟨⟨Nat.le_of_ble_eq_true rfl, Nat.le_of_ble_eq_true rfl⟩, (by show ce + 1 + 0 ≤ 613022; omega), (by show sl + 6 + 0 ≤ 7185358; omega)⟩ (fun E9 m8 h9 => h9.elim) (fun u8 R h9 => ?_)
  obtain ⟨rfl, h7⟩ := h9
  rw [← h7] at c9
  generalize (X11_isQuenched_r g m9 r (xs (5 * j + 1)) N) = yv at c9 ⊢
  show mV g x R _ _ _ _ [.int yv]
  obtain ⟨w1, w2, wl, wd⟩ := c9.next (q := o) hp v9.sr (by first | exact Or.inl rfl | exact Or.inr rfl) wk.1 wk.2.1
  obtain ⟨w3, w4⟩ := c9.out wk (by decide)
  clear c9
  refine v_istore (pc := 1570) hX dL_law_1570 (by decide) rfl ?_
  refine v_aload_n (pc := 1572) hX dL_law_1572 rfl ?_
  refine v_callV (z := yX11_thrown) (pc := 1573) hX dL_law_1573 (c_X11_thrown hO R r w1.2.2.2.1) w1.2.2.2.1.1 rfl wd_1573 wd_1574 wd_1575 wd_16 wd_1576 ⟨by decide, by decide, (by decide +kernel : (parseMethodDescriptor yX11_thrown.desc).map (fun d => d.parameters.length) = some 0)⟩ rfl (Nat.le_of_ble_eq_true rfl) ⟨⟨Nat.le_of_ble_eq_true rfl, Nat.le_of_ble_eq_true rfl⟩, (by show ce + 1 + 0 + 0 ≤ 613022; omega), (by show sl + 6 + 0 + 0 ≤ 7185358; omega)⟩ (fun E9 m8 h9 => h9.elim) (fun u8 m8 h9 => ?_)
  obtain ⟨rfl, h6⟩ := h9
  replace h6 := h6.symm
  subst h6
  rw [show X11_thrown_r g R r = kk from w3]
  show mV g x R _ _ _ _ [.int kk]
  refine v_iload (pc := 1576) hX dL_law_1576 rfl ?_
  refine v_icmp_eq (tgt := 1583) (pc := 1578) hX dL_law_1578 (by decide) (fun _ => ?_) (fun c => absurd rfl c)
  refine v_iload (pc := 1583) hX dL_law_1583 rfl ?_
  refine v_if_ne (tgt := 1607) (pc := 1585) hX dL_law_1585 (by decide) (fun _ => ?_) (fun c1 => ?_)
  ·
    refine v_goto (tgt := 2680) (pc := 1607) hX dL_law_1607 (by decide) ?_
    refine mV_sub (lv' := [(5, .int (nI (5 * j))), (4, .ref d), (3, .ref o), (2, .ref r), (1, .ref b), (0, .ref sc)]) ⟨rfl, rfl, rfl, rfl, rfl, rfl, trivial⟩ ?_
    refine mV_widen (ce' := ce + 24) (sl' := sl + 6000) (by omega) (by omega) ?_
    exact k _ _ w1 w2 (by omega)
  ·
    obtain ⟨wa, wb⟩ := w4 c1
    have hv : gL R o 0 = (if yv = 0 then (0 : Int64) else 1) := by rw [wl, wa, wb]
    refine v_aload_n (pc := 1588) hX dL_law_1588 rfl ?_
    refine v_iconst (v := 0) (pc := 1589) hX dL_law_1589 (by decide) ?_
    refine v_lald (pc := 1590) hX dL_law_1590 w2.2.2.2.1 (j := 0) rfl (by decide) (by decide) hv ?_
    refine v_iload (pc := 1591) hX dL_law_1591 rfl ?_
    refine v_if_eq (tgt := 1600) (pc := 1593) hX dL_law_1593 (by decide) (fun c2 => ?_) (fun c2 => ?_)
    ·
      rw [if_pos c2]
      refine v_lconst (v := 0) (pc := 1600) hX dL_law_1600 (by decide) ?_
      refine v_lcmp (pc := 1601) hX dL_law_1601 ?_
      refine v_if_eq (tgt := 1607) (pc := 1602) hX dL_law_1602 (by decide) (fun _ => ?_) (fun c => absurd (lg_self _) c)
      refine v_goto (tgt := 2680) (pc := 1607) hX dL_law_1607 (by decide) ?_
      refine mV_sub (lv' := [(5, .int (nI (5 * j))), (4, .ref d), (3, .ref o), (2, .ref r), (1, .ref b), (0, .ref sc)]) ⟨rfl, rfl, rfl, rfl, rfl, rfl, trivial⟩ ?_
      refine mV_widen (ce' := ce + 24) (sl' := sl + 6000) (by omega) (by omega) ?_
      exact k _ _ w1 w2 (by omega)
    ·
      rw [if_neg c2]
      refine v_lconst (v := 1) (pc := 1596) hX dL_law_1596 (by decide) ?_
      refine v_goto (tgt := 1601) (pc := 1597) hX dL_law_1597 (by decide) ?_
      refine v_lcmp (pc := 1601) hX dL_law_1601 ?_
      refine v_if_eq (tgt := 1607) (pc := 1602) hX dL_law_1602 (by decide) (fun _ => ?_) (fun c => absurd (lg_self _) c)
      refine v_goto (tgt := 2680) (pc := 1607) hX dL_law_1607 (by decide) ?_
      refine mV_sub (lv' := [(5, .int (nI (5 * j))), (4, .ref d), (3, .ref o), (2, .ref r), (1, .ref b), (0, .ref sc)]) ⟨rfl, rfl, rfl, rfl, rfl, rfl, trivial⟩ ?_
      refine mV_widen (ce' := ce + 24) (sl' := sl + 6000) (by omega) (by omega) ?_
      exact k _ _ w1 w2 (by omega)
set_option maxHeartbeats 4000000 in
theorem lwc_28 {l : Launch} {g : mG} {x : mCx} {nm : String} {m : mM} {sc b r o d T ce sl j L : Nat} {xs : Nat → Int32} (hO : mO l g) (hd : VD g) (hcm : ∀ j, j < 12 → cmI g (cmA g j) = j) (hX : mX l g x cL_law (yLw nm) room_1 9) (hs : oT g .int sc L (fun i => .int (xs i))) (hw : OBJ g m m b r T) (hp : PL m b r o d) (hT : T + 12 ≤ 9000) (hj : 5 * j + 5 ≤ L) (hL : L ≤ 2560) (hce : ce + 24 ≤ 613022) (hsl : sl + 6000 ≤ 7185358) (k : ∀ (R : mM) (T1 : Nat), OBJ g R R b r T1 → PL R b r o d → T1 ≤ T + 12 → mV g x R (ce + 24) (sl + 6000) 2680 [(5, .int (nI (5 * j))), (4, .ref d), (3, .ref o), (2, .ref r), (1, .ref b), (0, .ref sc)] []) : mV g x m ce sl 1610 [(5, .int (nI (5 * j))), (4, .ref d), (3, .ref o), (2, .ref r), (1, .ref b), (0, .ref sc)] [] := by
  obtain ⟨N, H, nx, C, v⟩ := VW.of hw
  have hc : ∀ mr, VW g m mr b r T N H nx C → CL g b r o d T m mr m (X11_hasPassed_m g mr r (xs (5 * j + 1)) N) [("java/util/NoSuchElementException", 1)] (X10_hasPassed_x g m b (xs (5 * j + 1)) N) (X10_hasPassed_r g m b (xs (5 * j + 1)) N = X11_hasPassed_r g mr r (xs (5 * j + 1)) N) := fun mr v => (q_hasPassed hd v.1 v.2.1 v.2.2.1 (xs (5 * j + 1))).toCL hp
  have c0 := hc m v
  refine v_aload_n (pc := 1610) hX dL_law_1610 rfl ?_
  refine v_aload_n (pc := 1611) hX dL_law_1611 rfl ?_
  refine v_iload (pc := 1612) hX dL_law_1612 rfl ?_
  refine v_iconst (v := 1) (pc := 1614) hX dL_law_1614 (by decide) ?_
  refine v_iadd (pc := 1615) hX dL_law_1615 ?_
  refine v_tiO (j := 5 * j + 1) (pc := 1616) hX dL_law_1616 hs (nI_k rfl) (by omega) (by omega) ?_
  show mV g x _ _ _ _ _ [.int (xs (5 * j + 1)), .ref b]
  refine v_aload_n (pc := 1617) hX dL_law_1617 rfl ?_
  refine v_callSX (z := yL_hasPassed) (pc := 1618) hX dL_law_1618 (c_L_hasPassed hO m b (xs (5 * j + 1)) o N v.sb v.hN v.N8 hp.2.2.2.1 c0.e1) wd_1202 wd_1203 wd_0 wd_1204 ⟨by decide, by decide, (by decide +kernel : (parseMethodDescriptor yL_hasPassed.desc).map (fun d => d.parameters.length) = some 3)⟩ rfl (Nat.le_of_ble_eq_true rfl) ⟨⟨Nat.le_of_ble_eq_true rfl, Nat.le_of_ble_eq_true rfl⟩, (by show ce + 1 ≤ 613022; omega), (by show sl + 6 ≤ 7185358; omega)⟩ (fun E9 m9 h9 => h9.elim) (fun u9 m9 h9 => ?_)
  obtain ⟨kk, rfl, wk⟩ := wkL h9
  clear h9
  have v9 := v.toR (c0.keep (q := o) hp (by have := hp.2.1; have := hp.2.2.1; omega) wk.1 wk.2.1)
  have c9 := hc m9 v9
  clear hc c0
  show mV g x m9 _ _ _ _ [.int kk]
  refine v_istore (pc := 1621) hX dL_law_1621 (by decide) rfl ?_
  refine v_aload_n (pc := 1623) hX dL_law_1623 rfl ?_
  refine v_aload_n (pc := 1624) hX dL_law_1624 rfl ?_
  refine v_iload (pc := 1625) hX dL_law_1625 rfl ?_
  refine v_iconst (v := 1) (pc := 1627) hX dL_law_1627 (by decide) ?_
  refine v_iadd (pc := 1628) hX dL_law_1628 ?_
  refine v_tiO (j := 5 * j + 1) (pc := 1629) hX dL_law_1629 hs (nI_k rfl) (by omega) (by omega) ?_
  show mV g x _ _ _ _ _ [.int (xs (5 * j + 1)), .ref r]
  refine v_callV (z := yX11_hasPassed) (pc := 1630) hX dL_law_1630 (c_X11_hasPassed hO m9 r (xs (5 * j + 1)) N v9.sr v9.rN v9.N8) v9.sr.1 rfl wd_1816 wd_1817 wd_1818 wd_16 wd_1819 ⟨by decide, by decide, (by decide +kernel : (parseMethodDescriptor yX11_hasPassed.desc).map (fun d => d.parameters.length) = some 1)⟩ rfl (Nat.le_of_ble_eq_true rfl) ⟨⟨Nat.le_of_ble_eq_true rfl, Nat.le_of_ble_eq_true rfl⟩, (by show ce + 1 + 0 ≤ 613022; omega), (by show sl + 6 + 0 ≤ 7185358; omega)⟩ (fun E9 m8 h9 => h9.elim) (fun u8 R h9 => ?_)
  obtain ⟨rfl, h7⟩ := h9
  rw [← h7] at c9
  generalize (X11_hasPassed_r g m9 r (xs (5 * j + 1)) N) = yv at c9 ⊢
  show mV g x R _ _ _ _ [.int yv]
  obtain ⟨w1, w2, wl, wd⟩ := c9.next (q := o) hp v9.sr (by first | exact Or.inl rfl | exact Or.inr rfl) wk.1 wk.2.1
  obtain ⟨w3, w4⟩ := c9.out wk (by decide)
  clear c9
  refine v_istore (pc := 1633) hX dL_law_1633 (by decide) rfl ?_
  refine v_aload_n (pc := 1635) hX dL_law_1635 rfl ?_
  refine v_callV (z := yX11_thrown) (pc := 1636) hX dL_law_1636 (c_X11_thrown hO R r w1.2.2.2.1) w1.2.2.2.1.1 rfl wd_1573 wd_1574 wd_1575 wd_16 wd_1576 ⟨by decide, by decide, (by decide +kernel : (parseMethodDescriptor yX11_thrown.desc).map (fun d => d.parameters.length) = some 0)⟩ rfl (Nat.le_of_ble_eq_true rfl) ⟨⟨Nat.le_of_ble_eq_true rfl, Nat.le_of_ble_eq_true rfl⟩, (by show ce + 1 + 0 + 0 ≤ 613022; omega), (by show sl + 6 + 0 + 0 ≤ 7185358; omega)⟩ (fun E9 m8 h9 => h9.elim) (fun u8 m8 h9 => ?_)
  obtain ⟨rfl, h6⟩ := h9
  replace h6 := h6.symm
  subst h6
  rw [show X11_thrown_r g R r = kk from w3]
  show mV g x R _ _ _ _ [.int kk]
  refine v_iload (pc := 1639) hX dL_law_1639 rfl ?_
  refine v_icmp_eq (tgt := 1646) (pc := 1641) hX dL_law_1641 (by decide) (fun _ => ?_) (fun c => absurd rfl c)
  refine v_iload (pc := 1646) hX dL_law_1646 rfl ?_
  refine v_if_ne (tgt := 1670) (pc := 1648) hX dL_law_1648 (by decide) (fun _ => ?_) (fun c1 => ?_)
  ·
    refine v_goto (tgt := 2680) (pc := 1670) hX dL_law_1670 (by decide) ?_
    refine mV_sub (lv' := [(5, .int (nI (5 * j))), (4, .ref d), (3, .ref o), (2, .ref r), (1, .ref b), (0, .ref sc)]) ⟨rfl, rfl, rfl, rfl, rfl, rfl, trivial⟩ ?_
    refine mV_widen (ce' := ce + 24) (sl' := sl + 6000) (by omega) (by omega) ?_
    exact k _ _ w1 w2 (by omega)
  ·
    obtain ⟨wa, wb⟩ := w4 c1
    have hv : gL R o 0 = (if yv = 0 then (0 : Int64) else 1) := by rw [wl, wa, wb]
    refine v_aload_n (pc := 1651) hX dL_law_1651 rfl ?_
    refine v_iconst (v := 0) (pc := 1652) hX dL_law_1652 (by decide) ?_
    refine v_lald (pc := 1653) hX dL_law_1653 w2.2.2.2.1 (j := 0) rfl (by decide) (by decide) hv ?_
    refine v_iload (pc := 1654) hX dL_law_1654 rfl ?_
    refine v_if_eq (tgt := 1663) (pc := 1656) hX dL_law_1656 (by decide) (fun c2 => ?_) (fun c2 => ?_)
    ·
      rw [if_pos c2]
      refine v_lconst (v := 0) (pc := 1663) hX dL_law_1663 (by decide) ?_
      refine v_lcmp (pc := 1664) hX dL_law_1664 ?_
      refine v_if_eq (tgt := 1670) (pc := 1665) hX dL_law_1665 (by decide) (fun _ => ?_) (fun c => absurd (lg_self _) c)
      refine v_goto (tgt := 2680) (pc := 1670) hX dL_law_1670 (by decide) ?_
      refine mV_sub (lv' := [(5, .int (nI (5 * j))), (4, .ref d), (3, .ref o), (2, .ref r), (1, .ref b), (0, .ref sc)]) ⟨rfl, rfl, rfl, rfl, rfl, rfl, trivial⟩ ?_
      refine mV_widen (ce' := ce + 24) (sl' := sl + 6000) (by omega) (by omega) ?_
      exact k _ _ w1 w2 (by omega)
    ·
      rw [if_neg c2]
      refine v_lconst (v := 1) (pc := 1659) hX dL_law_1659 (by decide) ?_
      refine v_goto (tgt := 1664) (pc := 1660) hX dL_law_1660 (by decide) ?_
      refine v_lcmp (pc := 1664) hX dL_law_1664 ?_
      refine v_if_eq (tgt := 1670) (pc := 1665) hX dL_law_1665 (by decide) (fun _ => ?_) (fun c => absurd (lg_self _) c)
      refine v_goto (tgt := 2680) (pc := 1670) hX dL_law_1670 (by decide) ?_
      refine mV_sub (lv' := [(5, .int (nI (5 * j))), (4, .ref d), (3, .ref o), (2, .ref r), (1, .ref b), (0, .ref sc)]) ⟨rfl, rfl, rfl, rfl, rfl, rfl, trivial⟩ ?_
      refine mV_widen (ce' := ce + 24) (sl' := sl + 6000) (by omega) (by omega) ?_
      exact k _ _ w1 w2 (by omega)
set_option maxHeartbeats 4000000 in
theorem lwc_29 {l : Launch} {g : mG} {x : mCx} {nm : String} {m : mM} {sc b r o d T ce sl j L : Nat} {xs : Nat → Int32} (hO : mO l g) (hd : VD g) (hcm : ∀ j, j < 12 → cmI g (cmA g j) = j) (hX : mX l g x cL_law (yLw nm) room_1 9) (hs : oT g .int sc L (fun i => .int (xs i))) (hw : OBJ g m m b r T) (hp : PL m b r o d) (hT : T + 12 ≤ 9000) (hj : 5 * j + 5 ≤ L) (hL : L ≤ 2560) (hce : ce + 24 ≤ 613022) (hsl : sl + 6000 ≤ 7185358) (k : ∀ (R : mM) (T1 : Nat), OBJ g R R b r T1 → PL R b r o d → T1 ≤ T + 12 → mV g x R (ce + 24) (sl + 6000) 2680 [(5, .int (nI (5 * j))), (4, .ref d), (3, .ref o), (2, .ref r), (1, .ref b), (0, .ref sc)] []) : mV g x m ce sl 1673 [(5, .int (nI (5 * j))), (4, .ref d), (3, .ref o), (2, .ref r), (1, .ref b), (0, .ref sc)] [] := by
  obtain ⟨N, H, nx, C, v⟩ := VW.of hw
  have hc : ∀ mr, VW g m mr b r T N H nx C → CL g b r o d T m mr m (X11_stroke_m g mr r (xs (5 * j + 1)) (xs (5 * j + 2)) N H) [("java/util/NoSuchElementException", 1), ("java/lang/IndexOutOfBoundsException", 2)] (X10_stroke_x g m b (xs (5 * j + 1)) (xs (5 * j + 2)) N H) (X10_stroke_r g m b (xs (5 * j + 1)) (xs (5 * j + 2)) N H = X11_stroke_r g mr r (xs (5 * j + 1)) (xs (5 * j + 2)) N H) := fun mr v => (q_stroke hd v.1 v.2.1 v.2.2.1 (xs (5 * j + 1)) (xs (5 * j + 2))).toCL hp
  have c0 := hc m v
  refine v_aload_n (pc := 1673) hX dL_law_1673 rfl ?_
  refine v_aload_n (pc := 1674) hX dL_law_1674 rfl ?_
  refine v_iload (pc := 1675) hX dL_law_1675 rfl ?_
  refine v_iconst (v := 1) (pc := 1677) hX dL_law_1677 (by decide) ?_
  refine v_iadd (pc := 1678) hX dL_law_1678 ?_
  refine v_tiO (j := 5 * j + 1) (pc := 1679) hX dL_law_1679 hs (nI_k rfl) (by omega) (by omega) ?_
  show mV g x _ _ _ _ _ [.int (xs (5 * j + 1)), .ref b]
  refine v_aload_n (pc := 1680) hX dL_law_1680 rfl ?_
  refine v_iload (pc := 1681) hX dL_law_1681 rfl ?_
  refine v_iconst (v := 2) (pc := 1683) hX dL_law_1683 (by decide) ?_
  refine v_iadd (pc := 1684) hX dL_law_1684 ?_
  refine v_tiO (j := 5 * j + 2) (pc := 1685) hX dL_law_1685 hs (nI_k rfl) (by omega) (by omega) ?_
  show mV g x _ _ _ _ _ [.int (xs (5 * j + 2)), .int (xs (5 * j + 1)), .ref b]
  refine v_aload_n (pc := 1686) hX dL_law_1686 rfl ?_
  refine v_callSX (z := yL_stroke) (pc := 1687) hX dL_law_1687 (c_L_stroke hO m b (xs (5 * j + 1)) (xs (5 * j + 2)) o N H v.sb v.hN v.N8 v.hH v.H4 hp.2.2.2.1 c0.e2) wd_1210 wd_1211 wd_0 wd_1212 ⟨by decide, by decide, (by decide +kernel : (parseMethodDescriptor yL_stroke.desc).map (fun d => d.parameters.length) = some 4)⟩ rfl (Nat.le_of_ble_eq_true rfl) ⟨⟨Nat.le_of_ble_eq_true rfl, Nat.le_of_ble_eq_true rfl⟩, (by show ce + 2 ≤ 613022; omega), (by show sl + 12 ≤ 7185358; omega)⟩ (fun E9 m9 h9 => h9.elim) (fun u9 m9 h9 => ?_)
  obtain ⟨kk, rfl, wk⟩ := wkL h9
  clear h9
  have v9 := v.toR (c0.keep (q := o) hp (by have := hp.2.1; have := hp.2.2.1; omega) wk.1 wk.2.1)
  have c9 := hc m9 v9
  clear hc c0
  show mV g x m9 _ _ _ _ [.int kk]
  refine v_istore (pc := 1690) hX dL_law_1690 (by decide) rfl ?_
  refine v_aload_n (pc := 1692) hX dL_law_1692 rfl ?_
  refine v_aload_n (pc := 1693) hX dL_law_1693 rfl ?_
  refine v_iload (pc := 1694) hX dL_law_1694 rfl ?_
  refine v_iconst (v := 1) (pc := 1696) hX dL_law_1696 (by decide) ?_
  refine v_iadd (pc := 1697) hX dL_law_1697 ?_
  refine v_tiO (j := 5 * j + 1) (pc := 1698) hX dL_law_1698 hs (nI_k rfl) (by omega) (by omega) ?_
  show mV g x _ _ _ _ _ [.int (xs (5 * j + 1)), .ref r]
  refine v_aload_n (pc := 1699) hX dL_law_1699 rfl ?_
  refine v_iload (pc := 1700) hX dL_law_1700 rfl ?_
  refine v_iconst (v := 2) (pc := 1702) hX dL_law_1702 (by decide) ?_
  refine v_iadd (pc := 1703) hX dL_law_1703 ?_
  refine v_tiO (j := 5 * j + 2) (pc := 1704) hX dL_law_1704 hs (nI_k rfl) (by omega) (by omega) ?_
  show mV g x _ _ _ _ _ [.int (xs (5 * j + 2)), .int (xs (5 * j + 1)), .ref r]
  refine v_callV (z := yX11_stroke) (pc := 1705) hX dL_law_1705 (c_X11_stroke hO m9 r (xs (5 * j + 1)) (xs (5 * j + 2)) N H v9.sr v9.rN v9.N8 v9.rH v9.H4) v9.sr.1 rfl wd_1820 wd_1821 wd_1822 wd_16 wd_1823 ⟨by decide, by decide, (by decide +kernel : (parseMethodDescriptor yX11_stroke.desc).map (fun d => d.parameters.length) = some 2)⟩ rfl (Nat.le_of_ble_eq_true rfl) ⟨⟨Nat.le_of_ble_eq_true rfl, Nat.le_of_ble_eq_true rfl⟩, (by show ce + 2 + 0 ≤ 613022; omega), (by show sl + 12 + 0 ≤ 7185358; omega)⟩ (fun E9 m8 h9 => h9.elim) (fun u8 R h9 => ?_)
  obtain ⟨rfl, h7⟩ := h9
  rw [← h7] at c9
  generalize (X11_stroke_r g m9 r (xs (5 * j + 1)) (xs (5 * j + 2)) N H) = yv at c9 ⊢
  show mV g x R _ _ _ _ [.int yv]
  obtain ⟨w1, w2, wl, wd⟩ := c9.next (q := o) hp v9.sr (by first | exact Or.inl rfl | exact Or.inr rfl) wk.1 wk.2.1
  obtain ⟨w3, w4⟩ := c9.out wk (by decide)
  clear c9
  refine v_istore (pc := 1708) hX dL_law_1708 (by decide) rfl ?_
  refine v_aload_n (pc := 1710) hX dL_law_1710 rfl ?_
  refine v_callV (z := yX11_thrown) (pc := 1711) hX dL_law_1711 (c_X11_thrown hO R r w1.2.2.2.1) w1.2.2.2.1.1 rfl wd_1573 wd_1574 wd_1575 wd_16 wd_1576 ⟨by decide, by decide, (by decide +kernel : (parseMethodDescriptor yX11_thrown.desc).map (fun d => d.parameters.length) = some 0)⟩ rfl (Nat.le_of_ble_eq_true rfl) ⟨⟨Nat.le_of_ble_eq_true rfl, Nat.le_of_ble_eq_true rfl⟩, (by show ce + 2 + 0 + 0 ≤ 613022; omega), (by show sl + 12 + 0 + 0 ≤ 7185358; omega)⟩ (fun E9 m8 h9 => h9.elim) (fun u8 m8 h9 => ?_)
  obtain ⟨rfl, h6⟩ := h9
  replace h6 := h6.symm
  subst h6
  rw [show X11_thrown_r g R r = kk from w3]
  show mV g x R _ _ _ _ [.int kk]
  refine v_iload (pc := 1714) hX dL_law_1714 rfl ?_
  refine v_icmp_eq (tgt := 1721) (pc := 1716) hX dL_law_1716 (by decide) (fun _ => ?_) (fun c => absurd rfl c)
  refine v_iload (pc := 1721) hX dL_law_1721 rfl ?_
  refine v_if_ne (tgt := 1738) (pc := 1723) hX dL_law_1723 (by decide) (fun _ => ?_) (fun c1 => ?_)
  ·
    refine v_goto (tgt := 2680) (pc := 1738) hX dL_law_1738 (by decide) ?_
    refine mV_sub (lv' := [(5, .int (nI (5 * j))), (4, .ref d), (3, .ref o), (2, .ref r), (1, .ref b), (0, .ref sc)]) ⟨rfl, rfl, rfl, rfl, rfl, rfl, trivial⟩ ?_
    refine mV_widen (ce' := ce + 24) (sl' := sl + 6000) (by omega) (by omega) ?_
    exact k _ _ w1 w2 (by omega)
  ·
    obtain ⟨wa, wb⟩ := w4 c1
    have hv : gL R o 0 = yv.toInt64 := by rw [wl, wa, wb]
    refine v_aload_n (pc := 1726) hX dL_law_1726 rfl ?_
    refine v_iconst (v := 0) (pc := 1727) hX dL_law_1727 (by decide) ?_
    refine v_lald (pc := 1728) hX dL_law_1728 w2.2.2.2.1 (j := 0) rfl (by decide) (by decide) hv ?_
    refine v_iload (pc := 1729) hX dL_law_1729 rfl ?_
    refine v_i2l (pc := 1731) hX dL_law_1731 ?_
    refine v_lcmp (pc := 1732) hX dL_law_1732 ?_
    refine v_if_eq (tgt := 1738) (pc := 1733) hX dL_law_1733 (by decide) (fun _ => ?_) (fun c => absurd (lg_self _) c)
    refine v_goto (tgt := 2680) (pc := 1738) hX dL_law_1738 (by decide) ?_
    refine mV_sub (lv' := [(5, .int (nI (5 * j))), (4, .ref d), (3, .ref o), (2, .ref r), (1, .ref b), (0, .ref sc)]) ⟨rfl, rfl, rfl, rfl, rfl, rfl, trivial⟩ ?_
    refine mV_widen (ce' := ce + 24) (sl' := sl + 6000) (by omega) (by omega) ?_
    exact k _ _ w1 w2 (by omega)
set_option maxHeartbeats 4000000 in
theorem lwc_30 {l : Launch} {g : mG} {x : mCx} {nm : String} {m : mM} {sc b r o d T ce sl j L : Nat} {xs : Nat → Int32} (hO : mO l g) (hd : VD g) (hcm : ∀ j, j < 12 → cmI g (cmA g j) = j) (hX : mX l g x cL_law (yLw nm) room_1 9) (hs : oT g .int sc L (fun i => .int (xs i))) (hw : OBJ g m m b r T) (hp : PL m b r o d) (hT : T + 12 ≤ 9000) (hj : 5 * j + 5 ≤ L) (hL : L ≤ 2560) (hce : ce + 24 ≤ 613022) (hsl : sl + 6000 ≤ 7185358) (k : ∀ (R : mM) (T1 : Nat), OBJ g R R b r T1 → PL R b r o d → T1 ≤ T + 12 → mV g x R (ce + 24) (sl + 6000) 2680 [(5, .int (nI (5 * j))), (4, .ref d), (3, .ref o), (2, .ref r), (1, .ref b), (0, .ref sc)] []) : mV g x m ce sl 1741 [(5, .int (nI (5 * j))), (4, .ref d), (3, .ref o), (2, .ref r), (1, .ref b), (0, .ref sc)] [] := by
  obtain ⟨N, H, nx, C, v⟩ := VW.of hw
  have hc : ∀ mr, VW g m mr b r T N H nx C → CL g b r o d T m mr (X10_minutesToCool_m g m b (xs (5 * j + 1)) (xs (5 * j + 2)) N) (X11_minutesToCool_m g mr r (xs (5 * j + 1)) (xs (5 * j + 2)) N) [("java/util/NoSuchElementException", 1), ("java/lang/IllegalArgumentException", 2), ("java/lang/IllegalStateException", 3)] (X10_minutesToCool_x g m b (xs (5 * j + 1)) (xs (5 * j + 2)) N) (X10_minutesToCool_r g m b (xs (5 * j + 1)) (xs (5 * j + 2)) N = X11_minutesToCool_r g mr r (xs (5 * j + 1)) (xs (5 * j + 2)) N) := fun mr v => (q_minutesToCool v.1 v.2.1 v.2.2.1 (xs (5 * j + 1)) (xs (5 * j + 2))).toCL hp
  have c0 := hc m v
  refine v_aload_n (pc := 1741) hX dL_law_1741 rfl ?_
  refine v_aload_n (pc := 1742) hX dL_law_1742 rfl ?_
  refine v_iload (pc := 1743) hX dL_law_1743 rfl ?_
  refine v_iconst (v := 1) (pc := 1745) hX dL_law_1745 (by decide) ?_
  refine v_iadd (pc := 1746) hX dL_law_1746 ?_
  refine v_tiO (j := 5 * j + 1) (pc := 1747) hX dL_law_1747 hs (nI_k rfl) (by omega) (by omega) ?_
  show mV g x _ _ _ _ _ [.int (xs (5 * j + 1)), .ref b]
  refine v_aload_n (pc := 1748) hX dL_law_1748 rfl ?_
  refine v_iload (pc := 1749) hX dL_law_1749 rfl ?_
  refine v_iconst (v := 2) (pc := 1751) hX dL_law_1751 (by decide) ?_
  refine v_iadd (pc := 1752) hX dL_law_1752 ?_
  refine v_tiO (j := 5 * j + 2) (pc := 1753) hX dL_law_1753 hs (nI_k rfl) (by omega) (by omega) ?_
  show mV g x _ _ _ _ _ [.int (xs (5 * j + 2)), .int (xs (5 * j + 1)), .ref b]
  refine v_aload_n (pc := 1754) hX dL_law_1754 rfl ?_
  refine v_callSX (z := yL_minutesToCool) (pc := 1755) hX dL_law_1755 (c_L_minutesToCool hO m b (xs (5 * j + 1)) (xs (5 * j + 2)) o N v.sb v.hN v.N8 (c0.ko hp) c0.e3) wd_1223 wd_1224 wd_0 wd_1225 ⟨by decide, by decide, (by decide +kernel : (parseMethodDescriptor yL_minutesToCool.desc).map (fun d => d.parameters.length) = some 4)⟩ rfl (Nat.le_of_ble_eq_true rfl) ⟨⟨Nat.le_of_ble_eq_true rfl, Nat.le_of_ble_eq_true rfl⟩, (by show ce + 2 ≤ 613022; omega), (by show sl + 12 ≤ 7185358; omega)⟩ (fun E9 m9 h9 => h9.elim) (fun u9 m9 h9 => ?_)
  obtain ⟨kk, rfl, wk⟩ := wkL h9
  clear h9
  have v9 := v.toR (c0.keep (q := o) hp (by have := hp.2.1; have := hp.2.2.1; omega) wk.1 wk.2.1)
  have c9 := hc m9 v9
  clear hc c0
  show mV g x m9 _ _ _ _ [.int kk]
  refine v_istore (pc := 1758) hX dL_law_1758 (by decide) rfl ?_
  refine v_aload_n (pc := 1760) hX dL_law_1760 rfl ?_
  refine v_aload_n (pc := 1761) hX dL_law_1761 rfl ?_
  refine v_iload (pc := 1762) hX dL_law_1762 rfl ?_
  refine v_iconst (v := 1) (pc := 1764) hX dL_law_1764 (by decide) ?_
  refine v_iadd (pc := 1765) hX dL_law_1765 ?_
  refine v_tiO (j := 5 * j + 1) (pc := 1766) hX dL_law_1766 hs (nI_k rfl) (by omega) (by omega) ?_
  show mV g x _ _ _ _ _ [.int (xs (5 * j + 1)), .ref r]
  refine v_aload_n (pc := 1767) hX dL_law_1767 rfl ?_
  refine v_iload (pc := 1768) hX dL_law_1768 rfl ?_
  refine v_iconst (v := 2) (pc := 1770) hX dL_law_1770 (by decide) ?_
  refine v_iadd (pc := 1771) hX dL_law_1771 ?_
  refine v_tiO (j := 5 * j + 2) (pc := 1772) hX dL_law_1772 hs (nI_k rfl) (by omega) (by omega) ?_
  show mV g x _ _ _ _ _ [.int (xs (5 * j + 2)), .int (xs (5 * j + 1)), .ref r]
  refine v_callV (z := yX11_minutesToCool) (pc := 1773) hX dL_law_1773 (c_X11_minutesToCool hO m9 r (xs (5 * j + 1)) (xs (5 * j + 2)) N v9.sr v9.rN v9.N8) v9.sr.1 rfl wd_1824 wd_1825 wd_1826 wd_16 wd_1827 ⟨by decide, by decide, (by decide +kernel : (parseMethodDescriptor yX11_minutesToCool.desc).map (fun d => d.parameters.length) = some 2)⟩ rfl (Nat.le_of_ble_eq_true rfl) ⟨⟨Nat.le_of_ble_eq_true rfl, Nat.le_of_ble_eq_true rfl⟩, (by show ce + 2 + 0 ≤ 613022; omega), (by show sl + 12 + 0 ≤ 7185358; omega)⟩ (fun E9 m8 h9 => h9.elim) (fun u8 R h9 => ?_)
  obtain ⟨rfl, h7⟩ := h9
  rw [← h7] at c9
  generalize (X11_minutesToCool_r g m9 r (xs (5 * j + 1)) (xs (5 * j + 2)) N) = yv at c9 ⊢
  show mV g x R _ _ _ _ [.int yv]
  obtain ⟨w1, w2, wl, wd⟩ := c9.next (q := o) hp v9.sr (by first | exact Or.inl rfl | exact Or.inr rfl) wk.1 wk.2.1
  obtain ⟨w3, w4⟩ := c9.out wk (by decide)
  clear c9
  refine v_istore (pc := 1776) hX dL_law_1776 (by decide) rfl ?_
  refine v_aload_n (pc := 1778) hX dL_law_1778 rfl ?_
  refine v_callV (z := yX11_thrown) (pc := 1779) hX dL_law_1779 (c_X11_thrown hO R r w1.2.2.2.1) w1.2.2.2.1.1 rfl wd_1573 wd_1574 wd_1575 wd_16 wd_1576 ⟨by decide, by decide, (by decide +kernel : (parseMethodDescriptor yX11_thrown.desc).map (fun d => d.parameters.length) = some 0)⟩ rfl (Nat.le_of_ble_eq_true rfl) ⟨⟨Nat.le_of_ble_eq_true rfl, Nat.le_of_ble_eq_true rfl⟩, (by show ce + 2 + 0 + 0 ≤ 613022; omega), (by show sl + 12 + 0 + 0 ≤ 7185358; omega)⟩ (fun E9 m8 h9 => h9.elim) (fun u8 m8 h9 => ?_)
  obtain ⟨rfl, h6⟩ := h9
  replace h6 := h6.symm
  subst h6
  rw [show X11_thrown_r g R r = kk from w3]
  show mV g x R _ _ _ _ [.int kk]
  refine v_iload (pc := 1782) hX dL_law_1782 rfl ?_
  refine v_icmp_eq (tgt := 1789) (pc := 1784) hX dL_law_1784 (by decide) (fun _ => ?_) (fun c => absurd rfl c)
  refine v_iload (pc := 1789) hX dL_law_1789 rfl ?_
  refine v_if_ne (tgt := 1806) (pc := 1791) hX dL_law_1791 (by decide) (fun _ => ?_) (fun c1 => ?_)
  ·
    refine v_goto (tgt := 2680) (pc := 1806) hX dL_law_1806 (by decide) ?_
    refine mV_sub (lv' := [(5, .int (nI (5 * j))), (4, .ref d), (3, .ref o), (2, .ref r), (1, .ref b), (0, .ref sc)]) ⟨rfl, rfl, rfl, rfl, rfl, rfl, trivial⟩ ?_
    refine mV_widen (ce' := ce + 24) (sl' := sl + 6000) (by omega) (by omega) ?_
    exact k _ _ w1 w2 (by omega)
  ·
    obtain ⟨wa, wb⟩ := w4 c1
    have hv : gL R o 0 = yv.toInt64 := by rw [wl, wa, wb]
    refine v_aload_n (pc := 1794) hX dL_law_1794 rfl ?_
    refine v_iconst (v := 0) (pc := 1795) hX dL_law_1795 (by decide) ?_
    refine v_lald (pc := 1796) hX dL_law_1796 w2.2.2.2.1 (j := 0) rfl (by decide) (by decide) hv ?_
    refine v_iload (pc := 1797) hX dL_law_1797 rfl ?_
    refine v_i2l (pc := 1799) hX dL_law_1799 ?_
    refine v_lcmp (pc := 1800) hX dL_law_1800 ?_
    refine v_if_eq (tgt := 1806) (pc := 1801) hX dL_law_1801 (by decide) (fun _ => ?_) (fun c => absurd (lg_self _) c)
    refine v_goto (tgt := 2680) (pc := 1806) hX dL_law_1806 (by decide) ?_
    refine mV_sub (lv' := [(5, .int (nI (5 * j))), (4, .ref d), (3, .ref o), (2, .ref r), (1, .ref b), (0, .ref sc)]) ⟨rfl, rfl, rfl, rfl, rfl, rfl, trivial⟩ ?_
    refine mV_widen (ce' := ce + 24) (sl' := sl + 6000) (by omega) (by omega) ?_
    exact k _ _ w1 w2 (by omega)
set_option maxHeartbeats 4000000 in
theorem lwc_31 {l : Launch} {g : mG} {x : mCx} {nm : String} {m : mM} {sc b r o d T ce sl j L : Nat} {xs : Nat → Int32} (hO : mO l g) (hd : VD g) (hcm : ∀ j, j < 12 → cmI g (cmA g j) = j) (hX : mX l g x cL_law (yLw nm) room_1 9) (hs : oT g .int sc L (fun i => .int (xs i))) (hw : OBJ g m m b r T) (hp : PL m b r o d) (hT : T + 12 ≤ 9000) (hj : 5 * j + 5 ≤ L) (hL : L ≤ 2560) (hce : ce + 24 ≤ 613022) (hsl : sl + 6000 ≤ 7185358) (k : ∀ (R : mM) (T1 : Nat), OBJ g R R b r T1 → PL R b r o d → T1 ≤ T + 12 → mV g x R (ce + 24) (sl + 6000) 2680 [(5, .int (nI (5 * j))), (4, .ref d), (3, .ref o), (2, .ref r), (1, .ref b), (0, .ref sc)] []) : mV g x m ce sl 1809 [(5, .int (nI (5 * j))), (4, .ref d), (3, .ref o), (2, .ref r), (1, .ref b), (0, .ref sc)] [] := by
  obtain ⟨N, H, nx, C, v⟩ := VW.of hw
  have hc : ∀ mr, VW g m mr b r T N H nx C → CL g b r o d T m mr (X10_minutesToCoolAlone_m g m b (xs (5 * j + 1)) (xs (5 * j + 2)) N) (X11_minutesToCoolAlone_m g mr r (xs (5 * j + 1)) (xs (5 * j + 2)) N) [("java/util/NoSuchElementException", 1), ("java/lang/IllegalArgumentException", 2), ("java/lang/IllegalStateException", 3)] (X10_minutesToCoolAlone_x g m b (xs (5 * j + 1)) (xs (5 * j + 2)) N) (X10_minutesToCoolAlone_r g m b (xs (5 * j + 1)) (xs (5 * j + 2)) N = X11_minutesToCoolAlone_r g mr r (xs (5 * j + 1)) (xs (5 * j + 2)) N) := fun mr v => (q_minutesToCoolAlone v.1 v.2.1 v.2.2.1 (xs (5 * j + 1)) (xs (5 * j + 2))).toCL hp
  have c0 := hc m v
  refine v_aload_n (pc := 1809) hX dL_law_1809 rfl ?_
  refine v_aload_n (pc := 1810) hX dL_law_1810 rfl ?_
  refine v_iload (pc := 1811) hX dL_law_1811 rfl ?_
  refine v_iconst (v := 1) (pc := 1813) hX dL_law_1813 (by decide) ?_
  refine v_iadd (pc := 1814) hX dL_law_1814 ?_
  refine v_tiO (j := 5 * j + 1) (pc := 1815) hX dL_law_1815 hs (nI_k rfl) (by omega) (by omega) ?_
  show mV g x _ _ _ _ _ [.int (xs (5 * j + 1)), .ref b]
  refine v_aload_n (pc := 1816) hX dL_law_1816 rfl ?_
  refine v_iload (pc := 1817) hX dL_law_1817 rfl ?_
  refine v_iconst (v := 2) (pc := 1819) hX dL_law_1819 (by decide) ?_
  refine v_iadd (pc := 1820) hX dL_law_1820 ?_
  refine v_tiO (j := 5 * j + 2) (pc := 1821) hX dL_law_1821 hs (nI_k rfl) (by omega) (by omega) ?_
  show mV g x _ _ _ _ _ [.int (xs (5 * j + 2)), .int (xs (5 * j + 1)), .ref b]
  refine v_aload_n (pc := 1822) hX dL_law_1822 rfl ?_
  refine v_callSX (z := yL_minutesToCoolAlone) (pc := 1823) hX dL_law_1823 (c_L_minutesToCoolAlone hO m b (xs (5 * j + 1)) (xs (5 * j + 2)) o N v.sb v.hN v.N8 (c0.ko hp) c0.e3) wd_1241 wd_1242 wd_0 wd_1243 ⟨by decide, by decide, (by decide +kernel : (parseMethodDescriptor yL_minutesToCoolAlone.desc).map (fun d => d.parameters.length) = some 4)⟩ rfl (Nat.le_of_ble_eq_true rfl) ⟨⟨Nat.le_of_ble_eq_true rfl, Nat.le_of_ble_eq_true rfl⟩, (by show ce + 2 ≤ 613022; omega), (by show sl + 12 ≤ 7185358; omega)⟩ (fun E9 m9 h9 => h9.elim) (fun u9 m9 h9 => ?_)
  obtain ⟨kk, rfl, wk⟩ := wkL h9
  clear h9
  have v9 := v.toR (c0.keep (q := o) hp (by have := hp.2.1; have := hp.2.2.1; omega) wk.1 wk.2.1)
  have c9 := hc m9 v9
  clear hc c0
  show mV g x m9 _ _ _ _ [.int kk]
  refine v_istore (pc := 1826) hX dL_law_1826 (by decide) rfl ?_
  refine v_aload_n (pc := 1828) hX dL_law_1828 rfl ?_
  refine v_aload_n (pc := 1829) hX dL_law_1829 rfl ?_
  refine v_iload (pc := 1830) hX dL_law_1830 rfl ?_
  refine v_iconst (v := 1) (pc := 1832) hX dL_law_1832 (by decide) ?_
  refine v_iadd (pc := 1833) hX dL_law_1833 ?_
  refine v_tiO (j := 5 * j + 1) (pc := 1834) hX dL_law_1834 hs (nI_k rfl) (by omega) (by omega) ?_
  show mV g x _ _ _ _ _ [.int (xs (5 * j + 1)), .ref r]
  refine v_aload_n (pc := 1835) hX dL_law_1835 rfl ?_
  refine v_iload (pc := 1836) hX dL_law_1836 rfl ?_
  refine v_iconst (v := 2) (pc := 1838) hX dL_law_1838 (by decide) ?_
  refine v_iadd (pc := 1839) hX dL_law_1839 ?_
  refine v_tiO (j := 5 * j + 2) (pc := 1840) hX dL_law_1840 hs (nI_k rfl) (by omega) (by omega) ?_
  show mV g x _ _ _ _ _ [.int (xs (5 * j + 2)), .int (xs (5 * j + 1)), .ref r]
  refine v_callV (z := yX11_minutesToCoolAlone) (pc := 1841) hX dL_law_1841 (c_X11_minutesToCoolAlone hO m9 r (xs (5 * j + 1)) (xs (5 * j + 2)) N v9.sr v9.rN v9.N8) v9.sr.1 rfl wd_1828 wd_1829 wd_1830 wd_16 wd_1831 ⟨by decide, by decide, (by decide +kernel : (parseMethodDescriptor yX11_minutesToCoolAlone.desc).map (fun d => d.parameters.length) = some 2)⟩ rfl (Nat.le_of_ble_eq_true rfl) ⟨⟨Nat.le_of_ble_eq_true rfl, Nat.le_of_ble_eq_true rfl⟩, (by show ce + 2 + 0 ≤ 613022; omega), (by show sl + 12 + 0 ≤ 7185358; omega)⟩ (fun E9 m8 h9 => h9.elim) (fun u8 R h9 => ?_)
  obtain ⟨rfl, h7⟩ := h9
  rw [← h7] at c9
  generalize (X11_minutesToCoolAlone_r g m9 r (xs (5 * j + 1)) (xs (5 * j + 2)) N) = yv at c9 ⊢
  show mV g x R _ _ _ _ [.int yv]
  obtain ⟨w1, w2, wl, wd⟩ := c9.next (q := o) hp v9.sr (by first | exact Or.inl rfl | exact Or.inr rfl) wk.1 wk.2.1
  obtain ⟨w3, w4⟩ := c9.out wk (by decide)
  clear c9
  refine v_istore (pc := 1844) hX dL_law_1844 (by decide) rfl ?_
  refine v_aload_n (pc := 1846) hX dL_law_1846 rfl ?_
  refine v_callV (z := yX11_thrown) (pc := 1847) hX dL_law_1847 (c_X11_thrown hO R r w1.2.2.2.1) w1.2.2.2.1.1 rfl wd_1573 wd_1574 wd_1575 wd_16 wd_1576 ⟨by decide, by decide, (by decide +kernel : (parseMethodDescriptor yX11_thrown.desc).map (fun d => d.parameters.length) = some 0)⟩ rfl (Nat.le_of_ble_eq_true rfl) ⟨⟨Nat.le_of_ble_eq_true rfl, Nat.le_of_ble_eq_true rfl⟩, (by show ce + 2 + 0 + 0 ≤ 613022; omega), (by show sl + 12 + 0 + 0 ≤ 7185358; omega)⟩ (fun E9 m8 h9 => h9.elim) (fun u8 m8 h9 => ?_)
  obtain ⟨rfl, h6⟩ := h9
  replace h6 := h6.symm
  subst h6
  rw [show X11_thrown_r g R r = kk from w3]
  show mV g x R _ _ _ _ [.int kk]
  refine v_iload (pc := 1850) hX dL_law_1850 rfl ?_
  refine v_icmp_eq (tgt := 1857) (pc := 1852) hX dL_law_1852 (by decide) (fun _ => ?_) (fun c => absurd rfl c)
  refine v_iload (pc := 1857) hX dL_law_1857 rfl ?_
  refine v_if_ne (tgt := 1874) (pc := 1859) hX dL_law_1859 (by decide) (fun _ => ?_) (fun c1 => ?_)
  ·
    refine v_goto (tgt := 2680) (pc := 1874) hX dL_law_1874 (by decide) ?_
    refine mV_sub (lv' := [(5, .int (nI (5 * j))), (4, .ref d), (3, .ref o), (2, .ref r), (1, .ref b), (0, .ref sc)]) ⟨rfl, rfl, rfl, rfl, rfl, rfl, trivial⟩ ?_
    refine mV_widen (ce' := ce + 24) (sl' := sl + 6000) (by omega) (by omega) ?_
    exact k _ _ w1 w2 (by omega)
  ·
    obtain ⟨wa, wb⟩ := w4 c1
    have hv : gL R o 0 = yv.toInt64 := by rw [wl, wa, wb]
    refine v_aload_n (pc := 1862) hX dL_law_1862 rfl ?_
    refine v_iconst (v := 0) (pc := 1863) hX dL_law_1863 (by decide) ?_
    refine v_lald (pc := 1864) hX dL_law_1864 w2.2.2.2.1 (j := 0) rfl (by decide) (by decide) hv ?_
    refine v_iload (pc := 1865) hX dL_law_1865 rfl ?_
    refine v_i2l (pc := 1867) hX dL_law_1867 ?_
    refine v_lcmp (pc := 1868) hX dL_law_1868 ?_
    refine v_if_eq (tgt := 1874) (pc := 1869) hX dL_law_1869 (by decide) (fun _ => ?_) (fun c => absurd (lg_self _) c)
    refine v_goto (tgt := 2680) (pc := 1874) hX dL_law_1874 (by decide) ?_
    refine mV_sub (lv' := [(5, .int (nI (5 * j))), (4, .ref d), (3, .ref o), (2, .ref r), (1, .ref b), (0, .ref sc)]) ⟨rfl, rfl, rfl, rfl, rfl, rfl, trivial⟩ ?_
    refine mV_widen (ce' := ce + 24) (sl' := sl + 6000) (by omega) (by omega) ?_
    exact k _ _ w1 w2 (by omega)
set_option maxHeartbeats 4000000 in
theorem lwc_32 {l : Launch} {g : mG} {x : mCx} {nm : String} {m : mM} {sc b r o d T ce sl j L : Nat} {xs : Nat → Int32} (hO : mO l g) (hd : VD g) (hcm : ∀ j, j < 12 → cmI g (cmA g j) = j) (hX : mX l g x cL_law (yLw nm) room_1 9) (hs : oT g .int sc L (fun i => .int (xs i))) (hw : OBJ g m m b r T) (hp : PL m b r o d) (hT : T + 12 ≤ 9000) (hj : 5 * j + 5 ≤ L) (hL : L ≤ 2560) (hce : ce + 24 ≤ 613022) (hsl : sl + 6000 ≤ 7185358) (k : ∀ (R : mM) (T1 : Nat), OBJ g R R b r T1 → PL R b r o d → T1 ≤ T + 12 → mV g x R (ce + 24) (sl + 6000) 2680 [(5, .int (nI (5 * j))), (4, .ref d), (3, .ref o), (2, .ref r), (1, .ref b), (0, .ref sc)] []) : mV g x m ce sl 1877 [(5, .int (nI (5 * j))), (4, .ref d), (3, .ref o), (2, .ref r), (1, .ref b), (0, .ref sc)] [] := by
  obtain ⟨N, H, nx, C, v⟩ := VW.of hw
  have hc : ∀ mr, VW g m mr b r T N H nx C → CL g b r o d T m mr m (X11_pieceAtRank_m g mr r (xs (5 * j + 1)) N) [("java/lang/IndexOutOfBoundsException", 1)] (X10_pieceAtRank_x g m b (xs (5 * j + 1)) N) (X10_pieceAtRank_r g m b (xs (5 * j + 1)) N = X11_pieceAtRank_r g mr r (xs (5 * j + 1)) N) := fun mr v => (q_pieceAtRank v.1 v.2.1 v.2.2.1 (xs (5 * j + 1))).toCL hp
  have c0 := hc m v
  refine v_aload_n (pc := 1877) hX dL_law_1877 rfl ?_
  refine v_aload_n (pc := 1878) hX dL_law_1878 rfl ?_
  refine v_iload (pc := 1879) hX dL_law_1879 rfl ?_
  refine v_iconst (v := 1) (pc := 1881) hX dL_law_1881 (by decide) ?_
  refine v_iadd (pc := 1882) hX dL_law_1882 ?_
  refine v_tiO (j := 5 * j + 1) (pc := 1883) hX dL_law_1883 hs (nI_k rfl) (by omega) (by omega) ?_
  show mV g x _ _ _ _ _ [.int (xs (5 * j + 1)), .ref b]
  refine v_aload_n (pc := 1884) hX dL_law_1884 rfl ?_
  refine v_callSX (z := yL_pieceAtRank) (pc := 1885) hX dL_law_1885 (c_L_pieceAtRank hO m b (xs (5 * j + 1)) o N v.sb v.hN v.N8 hp.2.2.2.1 c0.e1) wd_1249 wd_1250 wd_0 wd_1251 ⟨by decide, by decide, (by decide +kernel : (parseMethodDescriptor yL_pieceAtRank.desc).map (fun d => d.parameters.length) = some 3)⟩ rfl (Nat.le_of_ble_eq_true rfl) ⟨⟨Nat.le_of_ble_eq_true rfl, Nat.le_of_ble_eq_true rfl⟩, (by show ce + 1 ≤ 613022; omega), (by show sl + 6 ≤ 7185358; omega)⟩ (fun E9 m9 h9 => h9.elim) (fun u9 m9 h9 => ?_)
  obtain ⟨kk, rfl, wk⟩ := wkL h9
  clear h9
  have v9 := v.toR (c0.keep (q := o) hp (by have := hp.2.1; have := hp.2.2.1; omega) wk.1 wk.2.1)
  have c9 := hc m9 v9
  clear hc c0
  show mV g x m9 _ _ _ _ [.int kk]
  refine v_istore (pc := 1888) hX dL_law_1888 (by decide) rfl ?_
  refine v_aload_n (pc := 1890) hX dL_law_1890 rfl ?_
  refine v_aload_n (pc := 1891) hX dL_law_1891 rfl ?_
  refine v_iload (pc := 1892) hX dL_law_1892 rfl ?_
  refine v_iconst (v := 1) (pc := 1894) hX dL_law_1894 (by decide) ?_
  refine v_iadd (pc := 1895) hX dL_law_1895 ?_
  refine v_tiO (j := 5 * j + 1) (pc := 1896) hX dL_law_1896 hs (nI_k rfl) (by omega) (by omega) ?_
  show mV g x _ _ _ _ _ [.int (xs (5 * j + 1)), .ref r]
  refine v_callV (z := yX11_pieceAtRank) (pc := 1897) hX dL_law_1897 (c_X11_pieceAtRank hO m9 r (xs (5 * j + 1)) N v9.sr v9.rN v9.N8) v9.sr.1 rfl wd_1833 wd_1834 wd_1835 wd_16 wd_1836 ⟨by decide, by decide, (by decide +kernel : (parseMethodDescriptor yX11_pieceAtRank.desc).map (fun d => d.parameters.length) = some 1)⟩ rfl (Nat.le_of_ble_eq_true rfl) ⟨⟨Nat.le_of_ble_eq_true rfl, Nat.le_of_ble_eq_true rfl⟩, (by show ce + 1 + 0 ≤ 613022; omega), (by show sl + 6 + 0 ≤ 7185358; omega)⟩ (fun E9 m8 h9 => h9.elim) (fun u8 R h9 => ?_)
  obtain ⟨rfl, h7⟩ := h9
  rw [← h7] at c9
  generalize (X11_pieceAtRank_r g m9 r (xs (5 * j + 1)) N) = yv at c9 ⊢
  show mV g x R _ _ _ _ [.int yv]
  obtain ⟨w1, w2, wl, wd⟩ := c9.next (q := o) hp v9.sr (by first | exact Or.inl rfl | exact Or.inr rfl) wk.1 wk.2.1
  obtain ⟨w3, w4⟩ := c9.out wk (by decide)
  clear c9
  refine v_istore (pc := 1900) hX dL_law_1900 (by decide) rfl ?_
  refine v_aload_n (pc := 1902) hX dL_law_1902 rfl ?_
  refine v_callV (z := yX11_thrown) (pc := 1903) hX dL_law_1903 (c_X11_thrown hO R r w1.2.2.2.1) w1.2.2.2.1.1 rfl wd_1573 wd_1574 wd_1575 wd_16 wd_1576 ⟨by decide, by decide, (by decide +kernel : (parseMethodDescriptor yX11_thrown.desc).map (fun d => d.parameters.length) = some 0)⟩ rfl (Nat.le_of_ble_eq_true rfl) ⟨⟨Nat.le_of_ble_eq_true rfl, Nat.le_of_ble_eq_true rfl⟩, (by show ce + 1 + 0 + 0 ≤ 613022; omega), (by show sl + 6 + 0 + 0 ≤ 7185358; omega)⟩ (fun E9 m8 h9 => h9.elim) (fun u8 m8 h9 => ?_)
  obtain ⟨rfl, h6⟩ := h9
  replace h6 := h6.symm
  subst h6
  rw [show X11_thrown_r g R r = kk from w3]
  show mV g x R _ _ _ _ [.int kk]
  refine v_iload (pc := 1906) hX dL_law_1906 rfl ?_
  refine v_icmp_eq (tgt := 1913) (pc := 1908) hX dL_law_1908 (by decide) (fun _ => ?_) (fun c => absurd rfl c)
  refine v_iload (pc := 1913) hX dL_law_1913 rfl ?_
  refine v_if_ne (tgt := 1930) (pc := 1915) hX dL_law_1915 (by decide) (fun _ => ?_) (fun c1 => ?_)
  ·
    refine v_goto (tgt := 2680) (pc := 1930) hX dL_law_1930 (by decide) ?_
    refine mV_sub (lv' := [(5, .int (nI (5 * j))), (4, .ref d), (3, .ref o), (2, .ref r), (1, .ref b), (0, .ref sc)]) ⟨rfl, rfl, rfl, rfl, rfl, rfl, trivial⟩ ?_
    refine mV_widen (ce' := ce + 24) (sl' := sl + 6000) (by omega) (by omega) ?_
    exact k _ _ w1 w2 (by omega)
  ·
    obtain ⟨wa, wb⟩ := w4 c1
    have hv : gL R o 0 = yv.toInt64 := by rw [wl, wa, wb]
    refine v_aload_n (pc := 1918) hX dL_law_1918 rfl ?_
    refine v_iconst (v := 0) (pc := 1919) hX dL_law_1919 (by decide) ?_
    refine v_lald (pc := 1920) hX dL_law_1920 w2.2.2.2.1 (j := 0) rfl (by decide) (by decide) hv ?_
    refine v_iload (pc := 1921) hX dL_law_1921 rfl ?_
    refine v_i2l (pc := 1923) hX dL_law_1923 ?_
    refine v_lcmp (pc := 1924) hX dL_law_1924 ?_
    refine v_if_eq (tgt := 1930) (pc := 1925) hX dL_law_1925 (by decide) (fun _ => ?_) (fun c => absurd (lg_self _) c)
    refine v_goto (tgt := 2680) (pc := 1930) hX dL_law_1930 (by decide) ?_
    refine mV_sub (lv' := [(5, .int (nI (5 * j))), (4, .ref d), (3, .ref o), (2, .ref r), (1, .ref b), (0, .ref sc)]) ⟨rfl, rfl, rfl, rfl, rfl, rfl, trivial⟩ ?_
    refine mV_widen (ce' := ce + 24) (sl' := sl + 6000) (by omega) (by omega) ?_
    exact k _ _ w1 w2 (by omega)
set_option maxHeartbeats 4000000 in
theorem lwc_33 {l : Launch} {g : mG} {x : mCx} {nm : String} {m : mM} {sc b r o d T ce sl j L : Nat} {xs : Nat → Int32} (hO : mO l g) (hd : VD g) (hcm : ∀ j, j < 12 → cmI g (cmA g j) = j) (hX : mX l g x cL_law (yLw nm) room_1 9) (hs : oT g .int sc L (fun i => .int (xs i))) (hw : OBJ g m m b r T) (hp : PL m b r o d) (hT : T + 12 ≤ 9000) (hj : 5 * j + 5 ≤ L) (hL : L ≤ 2560) (hce : ce + 24 ≤ 613022) (hsl : sl + 6000 ≤ 7185358) (k : ∀ (R : mM) (T1 : Nat), OBJ g R R b r T1 → PL R b r o d → T1 ≤ T + 12 → mV g x R (ce + 24) (sl + 6000) 2680 [(5, .int (nI (5 * j))), (4, .ref d), (3, .ref o), (2, .ref r), (1, .ref b), (0, .ref sc)] []) : mV g x m ce sl 1933 [(5, .int (nI (5 * j))), (4, .ref d), (3, .ref o), (2, .ref r), (1, .ref b), (0, .ref sc)] [] := by
  obtain ⟨N, H, nx, C, v⟩ := VW.of hw
  have hc : ∀ mr, VW g m mr b r T N H nx C → CL g b r o d T m mr m (X11_hammerCount_m g mr r) [] none (X10_hammerCount_r g m b = X11_hammerCount_r g mr r) := fun mr v => (q_hammerCount v.1 v.2.1).toCL hp
  have c0 := hc m v
  refine v_aload_n (pc := 1933) hX dL_law_1933 rfl ?_
  refine v_callV (z := yX10_hammerCount) (pc := 1934) hX dL_law_1934 (c_X10_hammerCount hO m b v.sb) v.sb.1 rfl wd_373 wd_374 wd_375 wd_1 wd_376 ⟨by decide, by decide, (by decide +kernel : (parseMethodDescriptor yX10_hammerCount.desc).map (fun d => d.parameters.length) = some 0)⟩ rfl (Nat.le_of_ble_eq_true rfl) ⟨⟨Nat.le_of_ble_eq_true rfl, Nat.le_of_ble_eq_true rfl⟩, (by show ce + 0 ≤ 613022; omega), (by show sl + 0 ≤ 7185358; omega)⟩ (fun E9 m9 h9 => h9.elim) (fun u9 m9 h9 => ?_)
  obtain ⟨rfl, h8⟩ := h9
  replace h8 := h8.symm
  subst h8
  have v9 := v
  have c9 := c0
  clear hc c0
  show mV g x m _ _ _ _ [.int (X10_hammerCount_r g m b)]
  refine v_aload_n (pc := 1937) hX dL_law_1937 rfl ?_
  refine v_callV (z := yX11_hammerCount) (pc := 1938) hX dL_law_1938 (c_X11_hammerCount hO m r v9.sr) v9.sr.1 rfl wd_1837 wd_1838 wd_1839 wd_16 wd_1840 ⟨by decide, by decide, (by decide +kernel : (parseMethodDescriptor yX11_hammerCount.desc).map (fun d => d.parameters.length) = some 0)⟩ rfl (Nat.le_of_ble_eq_true rfl) ⟨⟨Nat.le_of_ble_eq_true rfl, Nat.le_of_ble_eq_true rfl⟩, (by show ce + 0 + 0 ≤ 613022; omega), (by show sl + 0 + 0 ≤ 7185358; omega)⟩ (fun E9 m8 h9 => h9.elim) (fun u8 R h9 => ?_)
  obtain ⟨rfl, h7⟩ := h9
  rw [← h7] at c9
  generalize (X11_hammerCount_r g m r) = yv at c9 ⊢
  show mV g x R _ _ _ _ [.int yv, .int (X10_hammerCount_r g m b)]
  obtain ⟨w1, w2, -, -⟩ := c9.next (q := o) hp v9.sr (Or.inl rfl) rfl (fun _ _ => Sm.rf)
  have ws := c9.same0
  clear c9
  refine v_icmp_eq (tgt := 2680) (pc := 1941) hX dL_law_1941 (by decide) (fun _ => ?_) (fun c => absurd ws c)
  refine mV_sub (lv' := [(5, .int (nI (5 * j))), (4, .ref d), (3, .ref o), (2, .ref r), (1, .ref b), (0, .ref sc)]) ⟨rfl, rfl, rfl, rfl, rfl, rfl, trivial⟩ ?_
  refine mV_widen (ce' := ce + 24) (sl' := sl + 6000) (by omega) (by omega) ?_
  exact k _ _ w1 w2 (by omega)
set_option maxHeartbeats 4000000 in
theorem lwc_34 {l : Launch} {g : mG} {x : mCx} {nm : String} {m : mM} {sc b r o d T ce sl j L : Nat} {xs : Nat → Int32} (hO : mO l g) (hd : VD g) (hcm : ∀ j, j < 12 → cmI g (cmA g j) = j) (hX : mX l g x cL_law (yLw nm) room_1 9) (hs : oT g .int sc L (fun i => .int (xs i))) (hw : OBJ g m m b r T) (hp : PL m b r o d) (hT : T + 12 ≤ 9000) (hj : 5 * j + 5 ≤ L) (hL : L ≤ 2560) (hce : ce + 24 ≤ 613022) (hsl : sl + 6000 ≤ 7185358) (k : ∀ (R : mM) (T1 : Nat), OBJ g R R b r T1 → PL R b r o d → T1 ≤ T + 12 → mV g x R (ce + 24) (sl + 6000) 2680 [(5, .int (nI (5 * j))), (4, .ref d), (3, .ref o), (2, .ref r), (1, .ref b), (0, .ref sc)] []) : mV g x m ce sl 1946 [(5, .int (nI (5 * j))), (4, .ref d), (3, .ref o), (2, .ref r), (1, .ref b), (0, .ref sc)] [] := by
  obtain ⟨N, H, nx, C, v⟩ := VW.of hw
  have hc : ∀ mr, VW g m mr b r T N H nx C → CL g b r o d T m mr m (X11_weight_m g mr r (xs (5 * j + 1)) H) [("java/lang/IndexOutOfBoundsException", 1)] (X10_weight_x g m b (xs (5 * j + 1)) H) (X10_weight_r g m b (xs (5 * j + 1)) H = X11_weight_r g mr r (xs (5 * j + 1)) H) := fun mr v => (q_weight hd v.1 v.2.1 v.2.2.1 (xs (5 * j + 1))).toCL hp
  have c0 := hc m v
  refine v_aload_n (pc := 1946) hX dL_law_1946 rfl ?_
  refine v_aload_n (pc := 1947) hX dL_law_1947 rfl ?_
  refine v_iload (pc := 1948) hX dL_law_1948 rfl ?_
  refine v_iconst (v := 1) (pc := 1950) hX dL_law_1950 (by decide) ?_
  refine v_iadd (pc := 1951) hX dL_law_1951 ?_
  refine v_tiO (j := 5 * j + 1) (pc := 1952) hX dL_law_1952 hs (nI_k rfl) (by omega) (by omega) ?_
  show mV g x _ _ _ _ _ [.int (xs (5 * j + 1)), .ref b]
  refine v_aload_n (pc := 1953) hX dL_law_1953 rfl ?_
  refine v_callSX (z := yL_weight) (pc := 1954) hX dL_law_1954 (c_L_weight hO m b (xs (5 * j + 1)) o H v.sb v.hH v.H4 hp.2.2.2.1 c0.e1) wd_1269 wd_1270 wd_0 wd_1271 ⟨by decide, by decide, (by decide +kernel : (parseMethodDescriptor yL_weight.desc).map (fun d => d.parameters.length) = some 3)⟩ rfl (Nat.le_of_ble_eq_true rfl) ⟨⟨Nat.le_of_ble_eq_true rfl, Nat.le_of_ble_eq_true rfl⟩, (by show ce + 1 ≤ 613022; omega), (by show sl + 6 ≤ 7185358; omega)⟩ (fun E9 m9 h9 => h9.elim) (fun u9 m9 h9 => ?_)
  obtain ⟨kk, rfl, wk⟩ := wkL h9
  clear h9
  have v9 := v.toR (c0.keep (q := o) hp (by have := hp.2.1; have := hp.2.2.1; omega) wk.1 wk.2.1)
  have c9 := hc m9 v9
  clear hc c0
  show mV g x m9 _ _ _ _ [.int kk]
  refine v_istore (pc := 1957) hX dL_law_1957 (by decide) rfl ?_
  refine v_aload_n (pc := 1959) hX dL_law_1959 rfl ?_
  refine v_aload_n (pc := 1960) hX dL_law_1960 rfl ?_
  refine v_iload (pc := 1961) hX dL_law_1961 rfl ?_
  refine v_iconst (v := 1) (pc := 1963) hX dL_law_1963 (by decide) ?_
  refine v_iadd (pc := 1964) hX dL_law_1964 ?_
  refine v_tiO (j := 5 * j + 1) (pc := 1965) hX dL_law_1965 hs (nI_k rfl) (by omega) (by omega) ?_
  show mV g x _ _ _ _ _ [.int (xs (5 * j + 1)), .ref r]
  refine v_callV (z := yX11_weight) (pc := 1966) hX dL_law_1966 (c_X11_weight hO m9 r (xs (5 * j + 1)) H v9.sr v9.rH v9.H4) v9.sr.1 rfl wd_1841 wd_1842 wd_1843 wd_16 wd_1844 ⟨by decide, by decide, (by decide +kernel : (parseMethodDescriptor yX11_weight.desc).map (fun d => d.parameters.length) = some 1)⟩ rfl (Nat.le_of_ble_eq_true rfl) ⟨⟨Nat.le_of_ble_eq_true rfl, Nat.le_of_ble_eq_true rfl⟩, (by show ce + 1 + 0 ≤ 613022; omega), (by show sl + 6 + 0 ≤ 7185358; omega)⟩ (fun E9 m8 h9 => h9.elim) (fun u8 R h9 => ?_)
  obtain ⟨rfl, h7⟩ := h9
  rw [← h7] at c9
  generalize (X11_weight_r g m9 r (xs (5 * j + 1)) H) = yv at c9 ⊢
  show mV g x R _ _ _ _ [.int yv]
  obtain ⟨w1, w2, wl, wd⟩ := c9.next (q := o) hp v9.sr (by first | exact Or.inl rfl | exact Or.inr rfl) wk.1 wk.2.1
  obtain ⟨w3, w4⟩ := c9.out wk (by decide)
  clear c9
  refine v_istore (pc := 1969) hX dL_law_1969 (by decide) rfl ?_
  refine v_aload_n (pc := 1971) hX dL_law_1971 rfl ?_
  refine v_callV (z := yX11_thrown) (pc := 1972) hX dL_law_1972 (c_X11_thrown hO R r w1.2.2.2.1) w1.2.2.2.1.1 rfl wd_1573 wd_1574 wd_1575 wd_16 wd_1576 ⟨by decide, by decide, (by decide +kernel : (parseMethodDescriptor yX11_thrown.desc).map (fun d => d.parameters.length) = some 0)⟩ rfl (Nat.le_of_ble_eq_true rfl) ⟨⟨Nat.le_of_ble_eq_true rfl, Nat.le_of_ble_eq_true rfl⟩, (by show ce + 1 + 0 + 0 ≤ 613022; omega), (by show sl + 6 + 0 + 0 ≤ 7185358; omega)⟩ (fun E9 m8 h9 => h9.elim) (fun u8 m8 h9 => ?_)
  obtain ⟨rfl, h6⟩ := h9
  replace h6 := h6.symm
  subst h6
  rw [show X11_thrown_r g R r = kk from w3]
  show mV g x R _ _ _ _ [.int kk]
  refine v_iload (pc := 1975) hX dL_law_1975 rfl ?_
  refine v_icmp_eq (tgt := 1982) (pc := 1977) hX dL_law_1977 (by decide) (fun _ => ?_) (fun c => absurd rfl c)
  refine v_iload (pc := 1982) hX dL_law_1982 rfl ?_
  refine v_if_ne (tgt := 1999) (pc := 1984) hX dL_law_1984 (by decide) (fun _ => ?_) (fun c1 => ?_)
  ·
    refine v_goto (tgt := 2680) (pc := 1999) hX dL_law_1999 (by decide) ?_
    refine mV_sub (lv' := [(5, .int (nI (5 * j))), (4, .ref d), (3, .ref o), (2, .ref r), (1, .ref b), (0, .ref sc)]) ⟨rfl, rfl, rfl, rfl, rfl, rfl, trivial⟩ ?_
    refine mV_widen (ce' := ce + 24) (sl' := sl + 6000) (by omega) (by omega) ?_
    exact k _ _ w1 w2 (by omega)
  ·
    obtain ⟨wa, wb⟩ := w4 c1
    have hv : gL R o 0 = yv.toInt64 := by rw [wl, wa, wb]
    refine v_aload_n (pc := 1987) hX dL_law_1987 rfl ?_
    refine v_iconst (v := 0) (pc := 1988) hX dL_law_1988 (by decide) ?_
    refine v_lald (pc := 1989) hX dL_law_1989 w2.2.2.2.1 (j := 0) rfl (by decide) (by decide) hv ?_
    refine v_iload (pc := 1990) hX dL_law_1990 rfl ?_
    refine v_i2l (pc := 1992) hX dL_law_1992 ?_
    refine v_lcmp (pc := 1993) hX dL_law_1993 ?_
    refine v_if_eq (tgt := 1999) (pc := 1994) hX dL_law_1994 (by decide) (fun _ => ?_) (fun c => absurd (lg_self _) c)
    refine v_goto (tgt := 2680) (pc := 1999) hX dL_law_1999 (by decide) ?_
    refine mV_sub (lv' := [(5, .int (nI (5 * j))), (4, .ref d), (3, .ref o), (2, .ref r), (1, .ref b), (0, .ref sc)]) ⟨rfl, rfl, rfl, rfl, rfl, rfl, trivial⟩ ?_
    refine mV_widen (ce' := ce + 24) (sl' := sl + 6000) (by omega) (by omega) ?_
    exact k _ _ w1 w2 (by omega)
set_option maxHeartbeats 4000000 in
theorem lwc_35 {l : Launch} {g : mG} {x : mCx} {nm : String} {m : mM} {sc b r o d T ce sl j L : Nat} {xs : Nat → Int32} (hO : mO l g) (hd : VD g) (hcm : ∀ j, j < 12 → cmI g (cmA g j) = j) (hX : mX l g x cL_law (yLw nm) room_1 9) (hs : oT g .int sc L (fun i => .int (xs i))) (hw : OBJ g m m b r T) (hp : PL m b r o d) (hT : T + 12 ≤ 9000) (hj : 5 * j + 5 ≤ L) (hL : L ≤ 2560) (hce : ce + 24 ≤ 613022) (hsl : sl + 6000 ≤ 7185358) (k : ∀ (R : mM) (T1 : Nat), OBJ g R R b r T1 → PL R b r o d → T1 ≤ T + 12 → mV g x R (ce + 24) (sl + 6000) 2680 [(5, .int (nI (5 * j))), (4, .ref d), (3, .ref o), (2, .ref r), (1, .ref b), (0, .ref sc)] []) : mV g x m ce sl 2002 [(5, .int (nI (5 * j))), (4, .ref d), (3, .ref o), (2, .ref r), (1, .ref b), (0, .ref sc)] [] := by
  obtain ⟨N, H, nx, C, v⟩ := VW.of hw
  have hc : ∀ mr, VW g m mr b r T N H nx C → CL g b r o d T m mr m (X11_wear_m g mr r (xs (5 * j + 1)) H) [("java/lang/IndexOutOfBoundsException", 1)] (X10_wear_x g m b (xs (5 * j + 1)) H) (X10_wear_r g m b (xs (5 * j + 1)) H = X11_wear_r g mr r (xs (5 * j + 1)) H) := fun mr v => (q_wear hd v.1 v.2.1 v.2.2.1 (xs (5 * j + 1))).toCL hp
  have c0 := hc m v
  refine v_aload_n (pc := 2002) hX dL_law_2002 rfl ?_
  refine v_aload_n (pc := 2003) hX dL_law_2003 rfl ?_
  refine v_iload (pc := 2004) hX dL_law_2004 rfl ?_
  refine v_iconst (v := 1) (pc := 2006) hX dL_law_2006 (by decide) ?_
  refine v_iadd (pc := 2007) hX dL_law_2007 ?_
  refine v_tiO (j := 5 * j + 1) (pc := 2008) hX dL_law_2008 hs (nI_k rfl) (by omega) (by omega) ?_
  show mV g x _ _ _ _ _ [.int (xs (5 * j + 1)), .ref b]
  refine v_aload_n (pc := 2009) hX dL_law_2009 rfl ?_
  refine v_callSX (z := yL_wear) (pc := 2010) hX dL_law_2010 (c_L_wear hO m b (xs (5 * j + 1)) o H v.sb v.hH v.H4 hp.2.2.2.1 c0.e1) wd_1276 wd_1277 wd_0 wd_1278 ⟨by decide, by decide, (by decide +kernel : (parseMethodDescriptor yL_wear.desc).map (fun d => d.parameters.length) = some 3)⟩ rfl (Nat.le_of_ble_eq_true rfl) ⟨⟨Nat.le_of_ble_eq_true rfl, Nat.le_of_ble_eq_true rfl⟩, (by show ce + 1 ≤ 613022; omega), (by show sl + 6 ≤ 7185358; omega)⟩ (fun E9 m9 h9 => h9.elim) (fun u9 m9 h9 => ?_)
  obtain ⟨kk, rfl, wk⟩ := wkL h9
  clear h9
  have v9 := v.toR (c0.keep (q := o) hp (by have := hp.2.1; have := hp.2.2.1; omega) wk.1 wk.2.1)
  have c9 := hc m9 v9
  clear hc c0
  show mV g x m9 _ _ _ _ [.int kk]
  refine v_istore (pc := 2013) hX dL_law_2013 (by decide) rfl ?_
  refine v_aload_n (pc := 2015) hX dL_law_2015 rfl ?_
  refine v_aload_n (pc := 2016) hX dL_law_2016 rfl ?_
  refine v_iload (pc := 2017) hX dL_law_2017 rfl ?_
  refine v_iconst (v := 1) (pc := 2019) hX dL_law_2019 (by decide) ?_
  refine v_iadd (pc := 2020) hX dL_law_2020 ?_
  refine v_tiO (j := 5 * j + 1) (pc := 2021) hX dL_law_2021 hs (nI_k rfl) (by omega) (by omega) ?_
  show mV g x _ _ _ _ _ [.int (xs (5 * j + 1)), .ref r]
  refine v_callV (z := yX11_wear) (pc := 2022) hX dL_law_2022 (c_X11_wear hO m9 r (xs (5 * j + 1)) H v9.sr v9.rH v9.H4) v9.sr.1 rfl wd_1845 wd_1846 wd_1847 wd_16 wd_1848 ⟨by decide, by decide, (by decide +kernel : (parseMethodDescriptor yX11_wear.desc).map (fun d => d.parameters.length) = some 1)⟩ rfl (Nat.le_of_ble_eq_true rfl) ⟨⟨Nat.le_of_ble_eq_true rfl, Nat.le_of_ble_eq_true rfl⟩, (by show ce + 1 + 0 ≤ 613022; omega), (by show sl + 6 + 0 ≤ 7185358; omega)⟩ (fun E9 m8 h9 => h9.elim) (fun u8 R h9 => ?_)
  obtain ⟨rfl, h7⟩ := h9
  rw [← h7] at c9
  generalize (X11_wear_r g m9 r (xs (5 * j + 1)) H) = yv at c9 ⊢
  show mV g x R _ _ _ _ [.int yv]
  obtain ⟨w1, w2, wl, wd⟩ := c9.next (q := o) hp v9.sr (by first | exact Or.inl rfl | exact Or.inr rfl) wk.1 wk.2.1
  obtain ⟨w3, w4⟩ := c9.out wk (by decide)
  clear c9
  refine v_istore (pc := 2025) hX dL_law_2025 (by decide) rfl ?_
  refine v_aload_n (pc := 2027) hX dL_law_2027 rfl ?_
  refine v_callV (z := yX11_thrown) (pc := 2028) hX dL_law_2028 (c_X11_thrown hO R r w1.2.2.2.1) w1.2.2.2.1.1 rfl wd_1573 wd_1574 wd_1575 wd_16 wd_1576 ⟨by decide, by decide, (by decide +kernel : (parseMethodDescriptor yX11_thrown.desc).map (fun d => d.parameters.length) = some 0)⟩ rfl (Nat.le_of_ble_eq_true rfl) ⟨⟨Nat.le_of_ble_eq_true rfl, Nat.le_of_ble_eq_true rfl⟩, (by show ce + 1 + 0 + 0 ≤ 613022; omega), (by show sl + 6 + 0 + 0 ≤ 7185358; omega)⟩ (fun E9 m8 h9 => h9.elim) (fun u8 m8 h9 => ?_)
  obtain ⟨rfl, h6⟩ := h9
  replace h6 := h6.symm
  subst h6
  rw [show X11_thrown_r g R r = kk from w3]
  show mV g x R _ _ _ _ [.int kk]
  refine v_iload (pc := 2031) hX dL_law_2031 rfl ?_
  refine v_icmp_eq (tgt := 2038) (pc := 2033) hX dL_law_2033 (by decide) (fun _ => ?_) (fun c => absurd rfl c)
  refine v_iload (pc := 2038) hX dL_law_2038 rfl ?_
  refine v_if_ne (tgt := 2055) (pc := 2040) hX dL_law_2040 (by decide) (fun _ => ?_) (fun c1 => ?_)
  ·
    refine v_goto (tgt := 2680) (pc := 2055) hX dL_law_2055 (by decide) ?_
    refine mV_sub (lv' := [(5, .int (nI (5 * j))), (4, .ref d), (3, .ref o), (2, .ref r), (1, .ref b), (0, .ref sc)]) ⟨rfl, rfl, rfl, rfl, rfl, rfl, trivial⟩ ?_
    refine mV_widen (ce' := ce + 24) (sl' := sl + 6000) (by omega) (by omega) ?_
    exact k _ _ w1 w2 (by omega)
  ·
    obtain ⟨wa, wb⟩ := w4 c1
    have hv : gL R o 0 = yv.toInt64 := by rw [wl, wa, wb]
    refine v_aload_n (pc := 2043) hX dL_law_2043 rfl ?_
    refine v_iconst (v := 0) (pc := 2044) hX dL_law_2044 (by decide) ?_
    refine v_lald (pc := 2045) hX dL_law_2045 w2.2.2.2.1 (j := 0) rfl (by decide) (by decide) hv ?_
    refine v_iload (pc := 2046) hX dL_law_2046 rfl ?_
    refine v_i2l (pc := 2048) hX dL_law_2048 ?_
    refine v_lcmp (pc := 2049) hX dL_law_2049 ?_
    refine v_if_eq (tgt := 2055) (pc := 2050) hX dL_law_2050 (by decide) (fun _ => ?_) (fun c => absurd (lg_self _) c)
    refine v_goto (tgt := 2680) (pc := 2055) hX dL_law_2055 (by decide) ?_
    refine mV_sub (lv' := [(5, .int (nI (5 * j))), (4, .ref d), (3, .ref o), (2, .ref r), (1, .ref b), (0, .ref sc)]) ⟨rfl, rfl, rfl, rfl, rfl, rfl, trivial⟩ ?_
    refine mV_widen (ce' := ce + 24) (sl' := sl + 6000) (by omega) (by omega) ?_
    exact k _ _ w1 w2 (by omega)
