theorem wd_l {g : mG} {r : Nat} {m0 : mM} : ∀ (n j : Nat) (s : Int32) (m : mM), j + n = 8 → PG m0 m r → okI (gI m 402 r) 60 → PG m0 (X11_word_l4 g r n j s m).2 r := by
  intro n
  induction n with
  | zero =>
    intro j s m hj h hE
    rw [X11_word_l4]
    split <;> exact h
  | succ n ih =>
    intro j s m hj h hE
    rw [X11_word_l4]
    split
    · exact h
    · split
      · split
        · refine ih _ _ _ (by omega) (h.cg (by simp [mm, kI_X11_word_l2x]) (by simp [mm, kI_X11_word_l2x])) ?_
          simp [mm, kI_X11_word_l2x]
          exact hE
        · rename_i c
          have hc := (l2_fin (g := g) (by omega) c).2
          refine ih _ _ _ (by omega) (h.tr (PG.up h.1 hE hc (by simp [mm, kI_X11_word_l2x]) (by simp [mm, kI_X11_word_l2x]))) ?_
          simp [mm, kI_X11_word_l2x]
          exact hE
      · exact h
theorem wd_PG {g : mG} {m : mM} {r : Nat} (h : okI (gI m 401 r) 60) (hE : okI (gI m 402 r) 60) : PG m (X11_word_m g m r) r := by
  have e1 : gI (X11_word_l1x_m g m r) 401 r = gI m 401 r := by simp [kI_X11_word_l1x]
  have e2 : gI (X11_word_l1x_m g m r) 402 r = gI m 402 r := by simp [kI_X11_word_l1x]
  exact wd_l 8 0 _ _ (by omega) ((PG.rf h).cg e1 e2) (by rw [e2]; exact hE)
def X11_does_r (g : mG) (m : mM) (r : Nat) (a : Int32) (N : Nat) (H : Nat) : Int32 := if a = 0 then (X11_adds_r g m r (gA m (r + 9) 0) ) else (if a = 1 then (X11_blows_r g m r (gA m (r + 9) 0) ) else (if a = 2 then (X11_makes_r g m r (gA m (r + 9) 0) N) else (if a = 3 then (X11_equips_r g m r (gA m (r + 9) 0) H) else (if a = 4 then (X11_puts_r g m r (X11_find_r g m r (gA m (r + 9) 0) N) N) else (if a = 5 then (X11_takes_r g m r (X11_find_r g m r (gA m (r + 9) 0) N) ) else (if a = 6 then (X11_strikes_r g m r (X11_find_r g m r (gA m (r + 9) 0) N) (gA m (r + 9) 1) H) else (if a = 7 then (X11_quenches_r g m r (X11_find_r g m r (gA m (r + 9) 0) N) ) else (if a = 8 then (X11_tests_r g m r (X11_find_r g m r (gA m (r + 9) 0) N) ) else (if a = 9 then (X11_joins_r g m r (gA m (r + 9) 0) (gA m (r + 9) 1) (gA m (r + 9) 2) (gA m (r + 9) 3) N) else (if a = 10 then (X11_drops_r g m r (X11_find_r g m r (gA m (r + 9) 0) N) ) else (X11_passes_r g m r (gA m (r + 9) 0) N)))))))))))
def X11_does_m (g : mG) (m : mM) (r : Nat) (a : Int32) (N : Nat) (H : Nat) : mM := if a = 0 then ((X11_adds_m g m r (gA m (r + 9) 0) )) else (if a = 1 then ((X11_blows_m g m r (gA m (r + 9) 0) )) else (if a = 2 then ((X11_makes_m g m r (gA m (r + 9) 0) N)) else (if a = 3 then ((X11_equips_m g m r (gA m (r + 9) 0) H)) else (if a = 4 then ((X11_puts_m g m r (X11_find_r g m r (gA m (r + 9) 0) N) N)) else (if a = 5 then ((X11_takes_m g m r (X11_find_r g m r (gA m (r + 9) 0) N) )) else (if a = 6 then ((X11_strikes_m g m r (X11_find_r g m r (gA m (r + 9) 0) N) (gA m (r + 9) 1) H)) else (if a = 7 then ((X11_quenches_m g m r (X11_find_r g m r (gA m (r + 9) 0) N) )) else (if a = 8 then ((X11_tests_m g m r (X11_find_r g m r (gA m (r + 9) 0) N) )) else (if a = 9 then ((X11_joins_m g m r (gA m (r + 9) 0) (gA m (r + 9) 1) (gA m (r + 9) 2) (gA m (r + 9) 3) N)) else (if a = 10 then ((X11_drops_m g m r (X11_find_r g m r (gA m (r + 9) 0) N) )) else ((X11_passes_m g m r (gA m (r + 9) 0) N))))))))))))
theorem kK_X11_does (g : mG) (m : mM) (r : Nat) (a : Int32) (N : Nat) (H : Nat) : gK (X11_does_m g m r a N H) = gK m := by
  unfold X11_does_m
  repeat' split
  all_goals simp only [mm, kK_X11_adds, kK_X11_blows, kK_X11_drops, kK_X11_equips, kK_X11_joins, kK_X11_makes, kK_X11_passes, kK_X11_puts, kK_X11_quenches, kK_X11_strikes, kK_X11_takes, kK_X11_tests]
theorem kN_X11_does (g : mG) (m : mM) (r : Nat) (a : Int32) (N : Nat) (H : Nat) : gN (X11_does_m g m r a N H) = gN m := by
  unfold X11_does_m
  repeat' split
  all_goals simp only [mm, kN_X11_adds, kN_X11_blows, kN_X11_drops, kN_X11_equips, kN_X11_joins, kN_X11_makes, kN_X11_passes, kN_X11_puts, kN_X11_quenches, kN_X11_strikes, kN_X11_takes, kN_X11_tests]
theorem kI_X11_does (g : mG) (m : mM) (r : Nat) (a : Int32) (N : Nat) (H : Nat) (k a9 : Nat) (h0 : k ≠ 384) : gI (X11_does_m g m r a N H) k a9 = gI m k a9 := by
  unfold X11_does_m
  repeat' split
  all_goals simp [mm, kI_X11_adds, kI_X11_blows, kI_X11_drops, kI_X11_equips, kI_X11_joins, kI_X11_makes, kI_X11_passes, kI_X11_puts, kI_X11_quenches, kI_X11_strikes, kI_X11_takes, kI_X11_tests, h0]
theorem kJ_X11_does (g : mG) (m : mM) (r : Nat) (a : Int32) (N : Nat) (H : Nat) : gJ (X11_does_m g m r a N H) = gJ m := by
  unfold X11_does_m
  repeat' split
  all_goals simp only [mm, kJ_X11_adds, kJ_X11_blows, kJ_X11_drops, kJ_X11_equips, kJ_X11_joins, kJ_X11_makes, kJ_X11_passes, kJ_X11_puts, kJ_X11_quenches, kJ_X11_strikes, kJ_X11_takes, kJ_X11_tests]
theorem kR_X11_does (g : mG) (m : mM) (r : Nat) (a : Int32) (N : Nat) (H : Nat) : gR (X11_does_m g m r a N H) = gR m := by
  unfold X11_does_m
  repeat' split
  all_goals simp only [mm, kR_X11_adds, kR_X11_blows, kR_X11_drops, kR_X11_equips, kR_X11_joins, kR_X11_makes, kR_X11_passes, kR_X11_puts, kR_X11_quenches, kR_X11_strikes, kR_X11_takes, kR_X11_tests]
theorem kQ_X11_does (g : mG) (m : mM) (r : Nat) (a : Int32) (N : Nat) (H : Nat) : gQ (X11_does_m g m r a N H) = gQ m := by
  unfold X11_does_m
  repeat' split
  all_goals simp only [mm, kQ_X11_adds, kQ_X11_blows, kQ_X11_drops, kQ_X11_equips, kQ_X11_joins, kQ_X11_makes, kQ_X11_passes, kQ_X11_puts, kQ_X11_quenches, kQ_X11_strikes, kQ_X11_takes, kQ_X11_tests]
theorem kL_X11_does (g : mG) (m : mM) (r : Nat) (a : Int32) (N : Nat) (H : Nat) : gL (X11_does_m g m r a N H) = gL m := by
  unfold X11_does_m
  repeat' split
  all_goals simp only [mm, kL_X11_adds, kL_X11_blows, kL_X11_drops, kL_X11_equips, kL_X11_joins, kL_X11_makes, kL_X11_passes, kL_X11_puts, kL_X11_quenches, kL_X11_strikes, kL_X11_takes, kL_X11_tests]
theorem kD_X11_does (g : mG) (m : mM) (r : Nat) (a : Int32) (N : Nat) (H : Nat) : gD (X11_does_m g m r a N H) = gD m := by
  unfold X11_does_m
  repeat' split
  all_goals simp only [mm, kD_X11_adds, kD_X11_blows, kD_X11_drops, kD_X11_equips, kD_X11_joins, kD_X11_makes, kD_X11_passes, kD_X11_puts, kD_X11_quenches, kD_X11_strikes, kD_X11_takes, kD_X11_tests]
theorem kA_X11_does (g : mG) (m : mM) (r : Nat) (a : Int32) (N : Nat) (H : Nat) (c9 i9 : Nat) (h0 : c9 ≠ r + 1) : gA (X11_does_m g m r a N H) c9 i9 = gA m c9 i9 := by
  unfold X11_does_m
  repeat' split
  all_goals simp [mm, kA_X11_adds, kA_X11_blows, kA_X11_drops, kA_X11_equips, kA_X11_joins, kA_X11_makes, kA_X11_passes, kA_X11_puts, kA_X11_quenches, kA_X11_strikes, kA_X11_takes, kA_X11_tests, h0]
set_option maxHeartbeats 4000000 in
set_option maxRecDepth 100000 in
theorem c_X11_does {l : Launch} {g : mG} (hO : mO l g) (m : mM) (r : Nat) (a : Int32) (N : Nat) (H : Nat) (hs : SR m r) (hN : gA m (r + 1) 5 = nI N) (hN8 : N ≤ 8) (hH : gA m (r + 1) 6 = nI H) (hH4 : H ≤ 4) : mT l g yX11_does (.code yX11_does cX11_does 2 (Option.some FieldType.int)) 4 91 0 0 [.ref r, .int a] m (fun u m' => u = some (.int (X11_does_r g m r a N H)) ∧ m' = X11_does_m g m r a N H) nX := by
  refine mT_of hO (by decide) (Nat.le_of_ble_eq_true rfl) (fun x hX hZ => ?_)
  show mV g x m 0 0 0 [(0, .ref r), (1, .int a)] []
  refine v_iload_n (pc := 0) hX dX11_does_0 rfl ?_
  by_cases c1 : a = 0
  ·
    refine v_tsI (off := 59) (tgt := 60) (pc := 1) hX dX11_does_1 (by rw [c1]; decide) (by rw [c1]; decide) (by rw [c1]; rfl) (by decide) ?_
    refine v_aload_n (pc := 60) hX dX11_does_60 rfl ?_
    refine v_aload_n (pc := 61) hX dX11_does_61 rfl ?_
    refine v_get (v := .ref (r + 9)) (pc := 62) hX dX11_does_62 hs.k (ci := 12) (r := vwC12) rfl 13 (by decide) wd_1519 (fvA rfl hs.r9) ?_
    refine v_iconst (v := 0) (pc := 65) hX dX11_does_65 (by decide) ?_
    refine v_iald (j := 0) (v := (gA m (r + 9) 0)) (pc := 66) hX dX11_does_66 hs.k9 rfl (by decide) (by decide) rfl ?_
    refine v_callV (z := yX11_adds) (pc := 67) hX dX11_does_67 (c_X11_adds hO m r (gA m (r + 9) 0)  hs) hs.k rfl wd_1588 wd_1590 wp_18 wd_16 wd_1591 ⟨by decide, by decide, (by decide +kernel : (parseMethodDescriptor yX11_adds.desc).map (fun d => d.parameters.length) = some 1)⟩ rfl (Nat.le_of_ble_eq_true rfl) ⟨⟨by decide, by decide⟩, by decide, by decide⟩ (fun E m9 h9 => h9.elim) (fun r9 m9 h9 => ?_)
    obtain ⟨rfl, h8⟩ := h9
    replace h8 := h8.symm
    subst h8
    show mV g x _ _ _ _ _ [.int (X11_adds_r g m r (gA m (r + 9) 0) )]
    exact v_iret (pc := 70) hX hZ dX11_does_70 (by decide) (by decide) ⟨(by rw [X11_does_r, if_pos c1]), (by rw [X11_does_m, if_pos c1])⟩
  ·
    by_cases c2 : a = 1
    ·
      refine v_tsI (off := 70) (tgt := 71) (pc := 1) hX dX11_does_1 (by rw [c2]; decide) (by rw [c2]; decide) (by rw [c2]; rfl) (by decide) ?_
      refine v_aload_n (pc := 71) hX dX11_does_71 rfl ?_
      refine v_aload_n (pc := 72) hX dX11_does_72 rfl ?_
      refine v_get (v := .ref (r + 9)) (pc := 73) hX dX11_does_73 hs.k (ci := 12) (r := vwC12) rfl 13 (by decide) wd_1519 (fvA rfl hs.r9) ?_
      refine v_iconst (v := 0) (pc := 76) hX dX11_does_76 (by decide) ?_
      refine v_iald (j := 0) (v := (gA m (r + 9) 0)) (pc := 77) hX dX11_does_77 hs.k9 rfl (by decide) (by decide) rfl ?_
      refine v_callV (z := yX11_blows) (pc := 78) hX dX11_does_78 (c_X11_blows hO m r (gA m (r + 9) 0)  hs) hs.k rfl wd_1607 wd_1609 wp_21 wd_16 wd_1610 ⟨by decide, by decide, (by decide +kernel : (parseMethodDescriptor yX11_blows.desc).map (fun d => d.parameters.length) = some 1)⟩ rfl (Nat.le_of_ble_eq_true rfl) ⟨⟨by decide, by decide⟩, by decide, by decide⟩ (fun E m9 h9 => h9.elim) (fun r9 m9 h9 => ?_)
      obtain ⟨rfl, h8⟩ := h9
      replace h8 := h8.symm
      subst h8
      show mV g x _ _ _ _ _ [.int (X11_blows_r g m r (gA m (r + 9) 0) )]
      exact v_iret (pc := 81) hX hZ dX11_does_81 (by decide) (by decide) ⟨(by rw [X11_does_r, if_neg c1, if_pos c2]), (by rw [X11_does_m, if_neg c1, if_pos c2])⟩
    ·
      by_cases c3 : a = 2
      ·
        refine v_tsI (off := 81) (tgt := 82) (pc := 1) hX dX11_does_1 (by rw [c3]; decide) (by rw [c3]; decide) (by rw [c3]; rfl) (by decide) ?_
        refine v_aload_n (pc := 82) hX dX11_does_82 rfl ?_
        refine v_aload_n (pc := 83) hX dX11_does_83 rfl ?_
        refine v_get (v := .ref (r + 9)) (pc := 84) hX dX11_does_84 hs.k (ci := 12) (r := vwC12) rfl 13 (by decide) wd_1519 (fvA rfl hs.r9) ?_
        refine v_iconst (v := 0) (pc := 87) hX dX11_does_87 (by decide) ?_
        refine v_iald (j := 0) (v := (gA m (r + 9) 0)) (pc := 88) hX dX11_does_88 hs.k9 rfl (by decide) (by decide) rfl ?_
        refine v_callV (z := yX11_makes) (pc := 89) hX dX11_does_89 (c_X11_makes hO m r (gA m (r + 9) 0) N hs hN hN8) hs.k rfl wd_1636 wd_1638 wp_24 wd_16 wd_1639 ⟨by decide, by decide, (by decide +kernel : (parseMethodDescriptor yX11_makes.desc).map (fun d => d.parameters.length) = some 1)⟩ rfl (Nat.le_of_ble_eq_true rfl) ⟨⟨by decide, by decide⟩, by decide, by decide⟩ (fun E m9 h9 => h9.elim) (fun r9 m9 h9 => ?_)
        obtain ⟨rfl, h8⟩ := h9
        replace h8 := h8.symm
        subst h8
        show mV g x _ _ _ _ _ [.int (X11_makes_r g m r (gA m (r + 9) 0) N)]
        exact v_iret (pc := 92) hX hZ dX11_does_92 (by decide) (by decide) ⟨(by rw [X11_does_r, if_neg c1, if_neg c2, if_pos c3]), (by rw [X11_does_m, if_neg c1, if_neg c2, if_pos c3])⟩
      ·
        by_cases c4 : a = 3
        ·
          refine v_tsI (off := 92) (tgt := 93) (pc := 1) hX dX11_does_1 (by rw [c4]; decide) (by rw [c4]; decide) (by rw [c4]; rfl) (by decide) ?_
          refine v_aload_n (pc := 93) hX dX11_does_93 rfl ?_
          refine v_aload_n (pc := 94) hX dX11_does_94 rfl ?_
          refine v_get (v := .ref (r + 9)) (pc := 95) hX dX11_does_95 hs.k (ci := 12) (r := vwC12) rfl 13 (by decide) wd_1519 (fvA rfl hs.r9) ?_
          refine v_iconst (v := 0) (pc := 98) hX dX11_does_98 (by decide) ?_
          refine v_iald (j := 0) (v := (gA m (r + 9) 0)) (pc := 99) hX dX11_does_99 hs.k9 rfl (by decide) (by decide) rfl ?_
          refine v_callV (z := yX11_equips) (pc := 100) hX dX11_does_100 (c_X11_equips hO m r (gA m (r + 9) 0) H hs hH hH4) hs.k rfl wd_1644 wd_1646 wp_25 wd_16 wd_1647 ⟨by decide, by decide, (by decide +kernel : (parseMethodDescriptor yX11_equips.desc).map (fun d => d.parameters.length) = some 1)⟩ rfl (Nat.le_of_ble_eq_true rfl) ⟨⟨by decide, by decide⟩, by decide, by decide⟩ (fun E m9 h9 => h9.elim) (fun r9 m9 h9 => ?_)
          obtain ⟨rfl, h8⟩ := h9
          replace h8 := h8.symm
          subst h8
          show mV g x _ _ _ _ _ [.int (X11_equips_r g m r (gA m (r + 9) 0) H)]
          exact v_iret (pc := 103) hX hZ dX11_does_103 (by decide) (by decide) ⟨(by rw [X11_does_r, if_neg c1, if_neg c2, if_neg c3, if_pos c4]), (by rw [X11_does_m, if_neg c1, if_neg c2, if_neg c3, if_pos c4])⟩
        ·
          by_cases c5 : a = 4
          ·
            refine v_tsI (off := 103) (tgt := 104) (pc := 1) hX dX11_does_1 (by rw [c5]; decide) (by rw [c5]; decide) (by rw [c5]; rfl) (by decide) ?_
            refine v_aload_n (pc := 104) hX dX11_does_104 rfl ?_
            refine v_aload_n (pc := 105) hX dX11_does_105 rfl ?_
            refine v_aload_n (pc := 106) hX dX11_does_106 rfl ?_
            refine v_get (v := .ref (r + 9)) (pc := 107) hX dX11_does_107 hs.k (ci := 12) (r := vwC12) rfl 13 (by decide) wd_1519 (fvA rfl hs.r9) ?_
            refine v_iconst (v := 0) (pc := 110) hX dX11_does_110 (by decide) ?_
            refine v_iald (j := 0) (v := (gA m (r + 9) 0)) (pc := 111) hX dX11_does_111 hs.k9 rfl (by decide) (by decide) rfl ?_
            refine v_callV (z := yX11_find) (pc := 112) hX dX11_does_112 (c_X11_find hO m r (gA m (r + 9) 0) N hs hN hN8) hs.k rfl wd_1652 wd_1654 wp_26 wd_16 wd_1655 ⟨by decide, by decide, (by decide +kernel : (parseMethodDescriptor yX11_find.desc).map (fun d => d.parameters.length) = some 1)⟩ rfl (Nat.le_of_ble_eq_true rfl) ⟨⟨by decide, by decide⟩, by decide, by decide⟩ (fun E m9 h9 => h9.elim) (fun r9 m9 h9 => ?_)
            obtain ⟨rfl, h8⟩ := h9
            replace h8 := h8.symm
            subst h8
            show mV g x _ _ _ _ _ [.int (X11_find_r g m r (gA m (r + 9) 0) N), .ref r]
            refine v_callV (z := yX11_puts) (pc := 115) hX dX11_does_115 (c_X11_puts hO m r (X11_find_r g m r (gA m (r + 9) 0) N) N hs hN hN8 (fun h => (fd_ge hN8 h).1)) hs.k rfl wd_1656 wd_1658 wp_27 wd_16 wd_1659 ⟨by decide, by decide, (by decide +kernel : (parseMethodDescriptor yX11_puts.desc).map (fun d => d.parameters.length) = some 1)⟩ rfl (Nat.le_of_ble_eq_true rfl) ⟨⟨by decide, by decide⟩, by decide, by decide⟩ (fun E m9 h9 => h9.elim) (fun r9 m9 h9 => ?_)
            obtain ⟨rfl, h8⟩ := h9
            replace h8 := h8.symm
            subst h8
            show mV g x _ _ _ _ _ [.int (X11_puts_r g m r (X11_find_r g m r (gA m (r + 9) 0) N) N)]
            exact v_iret (pc := 118) hX hZ dX11_does_118 (by decide) (by decide) ⟨(by rw [X11_does_r, if_neg c1, if_neg c2, if_neg c3, if_neg c4, if_pos c5]), (by rw [X11_does_m, if_neg c1, if_neg c2, if_neg c3, if_neg c4, if_pos c5])⟩
          ·
            by_cases c6 : a = 5
            ·
              refine v_tsI (off := 118) (tgt := 119) (pc := 1) hX dX11_does_1 (by rw [c6]; decide) (by rw [c6]; decide) (by rw [c6]; rfl) (by decide) ?_
              refine v_aload_n (pc := 119) hX dX11_does_119 rfl ?_
              refine v_aload_n (pc := 120) hX dX11_does_120 rfl ?_
              refine v_aload_n (pc := 121) hX dX11_does_121 rfl ?_
              refine v_get (v := .ref (r + 9)) (pc := 122) hX dX11_does_122 hs.k (ci := 12) (r := vwC12) rfl 13 (by decide) wd_1519 (fvA rfl hs.r9) ?_
              refine v_iconst (v := 0) (pc := 125) hX dX11_does_125 (by decide) ?_
              refine v_iald (j := 0) (v := (gA m (r + 9) 0)) (pc := 126) hX dX11_does_126 hs.k9 rfl (by decide) (by decide) rfl ?_
              refine v_callV (z := yX11_find) (pc := 127) hX dX11_does_127 (c_X11_find hO m r (gA m (r + 9) 0) N hs hN hN8) hs.k rfl wd_1652 wd_1654 wp_26 wd_16 wd_1655 ⟨by decide, by decide, (by decide +kernel : (parseMethodDescriptor yX11_find.desc).map (fun d => d.parameters.length) = some 1)⟩ rfl (Nat.le_of_ble_eq_true rfl) ⟨⟨by decide, by decide⟩, by decide, by decide⟩ (fun E m9 h9 => h9.elim) (fun r9 m9 h9 => ?_)
              obtain ⟨rfl, h8⟩ := h9
              replace h8 := h8.symm
              subst h8
              show mV g x _ _ _ _ _ [.int (X11_find_r g m r (gA m (r + 9) 0) N), .ref r]
              refine v_callV (z := yX11_takes) (pc := 130) hX dX11_does_130 (c_X11_takes hO m r (X11_find_r g m r (gA m (r + 9) 0) N)  hs (fun h => (fd_ge hN8 h).1)) hs.k rfl wd_1668 wd_1670 wp_29 wd_16 wd_1671 ⟨by decide, by decide, (by decide +kernel : (parseMethodDescriptor yX11_takes.desc).map (fun d => d.parameters.length) = some 1)⟩ rfl (Nat.le_of_ble_eq_true rfl) ⟨⟨by decide, by decide⟩, by decide, by decide⟩ (fun E m9 h9 => h9.elim) (fun r9 m9 h9 => ?_)
              obtain ⟨rfl, h8⟩ := h9
              replace h8 := h8.symm
              subst h8
              show mV g x _ _ _ _ _ [.int (X11_takes_r g m r (X11_find_r g m r (gA m (r + 9) 0) N) )]
              exact v_iret (pc := 133) hX hZ dX11_does_133 (by decide) (by decide) ⟨(by rw [X11_does_r, if_neg c1, if_neg c2, if_neg c3, if_neg c4, if_neg c5, if_pos c6]), (by rw [X11_does_m, if_neg c1, if_neg c2, if_neg c3, if_neg c4, if_neg c5, if_pos c6])⟩
            ·
              by_cases c7 : a = 6
              ·
                refine v_tsI (off := 133) (tgt := 134) (pc := 1) hX dX11_does_1 (by rw [c7]; decide) (by rw [c7]; decide) (by rw [c7]; rfl) (by decide) ?_
                refine v_aload_n (pc := 134) hX dX11_does_134 rfl ?_
                refine v_aload_n (pc := 135) hX dX11_does_135 rfl ?_
                refine v_aload_n (pc := 136) hX dX11_does_136 rfl ?_
                refine v_get (v := .ref (r + 9)) (pc := 137) hX dX11_does_137 hs.k (ci := 12) (r := vwC12) rfl 13 (by decide) wd_1519 (fvA rfl hs.r9) ?_
                refine v_iconst (v := 0) (pc := 140) hX dX11_does_140 (by decide) ?_
                refine v_iald (j := 0) (v := (gA m (r + 9) 0)) (pc := 141) hX dX11_does_141 hs.k9 rfl (by decide) (by decide) rfl ?_
                refine v_callV (z := yX11_find) (pc := 142) hX dX11_does_142 (c_X11_find hO m r (gA m (r + 9) 0) N hs hN hN8) hs.k rfl wd_1652 wd_1654 wp_26 wd_16 wd_1655 ⟨by decide, by decide, (by decide +kernel : (parseMethodDescriptor yX11_find.desc).map (fun d => d.parameters.length) = some 1)⟩ rfl (Nat.le_of_ble_eq_true rfl) ⟨⟨by decide, by decide⟩, by decide, by decide⟩ (fun E m9 h9 => h9.elim) (fun r9 m9 h9 => ?_)
                obtain ⟨rfl, h8⟩ := h9
                replace h8 := h8.symm
                subst h8
                show mV g x _ _ _ _ _ [.int (X11_find_r g m r (gA m (r + 9) 0) N), .ref r]
                refine v_aload_n (pc := 145) hX dX11_does_145 rfl ?_
                refine v_get (v := .ref (r + 9)) (pc := 146) hX dX11_does_146 hs.k (ci := 12) (r := vwC12) rfl 13 (by decide) wd_1519 (fvA rfl hs.r9) ?_
                refine v_iconst (v := 1) (pc := 149) hX dX11_does_149 (by decide) ?_
                refine v_iald (j := 1) (v := (gA m (r + 9) 1)) (pc := 150) hX dX11_does_150 hs.k9 rfl (by decide) (by decide) rfl ?_
                refine v_callV (z := yX11_strikes) (pc := 151) hX dX11_does_151 (c_X11_strikes hO m r (X11_find_r g m r (gA m (r + 9) 0) N) (gA m (r + 9) 1) H hs hH hH4 (fun h => (fd_ge hN8 h).1)) hs.k rfl wd_1676 wd_1678 wp_30 wd_16 wd_1679 ⟨by decide, by decide, (by decide +kernel : (parseMethodDescriptor yX11_strikes.desc).map (fun d => d.parameters.length) = some 2)⟩ rfl (Nat.le_of_ble_eq_true rfl) ⟨⟨by decide, by decide⟩, by decide, by decide⟩ (fun E m9 h9 => h9.elim) (fun r9 m9 h9 => ?_)
                obtain ⟨rfl, h8⟩ := h9
                replace h8 := h8.symm
                subst h8
                show mV g x _ _ _ _ _ [.int (X11_strikes_r g m r (X11_find_r g m r (gA m (r + 9) 0) N) (gA m (r + 9) 1) H)]
                exact v_iret (pc := 154) hX hZ dX11_does_154 (by decide) (by decide) ⟨(by rw [X11_does_r, if_neg c1, if_neg c2, if_neg c3, if_neg c4, if_neg c5, if_neg c6, if_pos c7]), (by rw [X11_does_m, if_neg c1, if_neg c2, if_neg c3, if_neg c4, if_neg c5, if_neg c6, if_pos c7])⟩
              ·
                by_cases c8 : a = 7
                ·
                  refine v_tsI (off := 154) (tgt := 155) (pc := 1) hX dX11_does_1 (by rw [c8]; decide) (by rw [c8]; decide) (by rw [c8]; rfl) (by decide) ?_
                  refine v_aload_n (pc := 155) hX dX11_does_155 rfl ?_
                  refine v_aload_n (pc := 156) hX dX11_does_156 rfl ?_
                  refine v_aload_n (pc := 157) hX dX11_does_157 rfl ?_
                  refine v_get (v := .ref (r + 9)) (pc := 158) hX dX11_does_158 hs.k (ci := 12) (r := vwC12) rfl 13 (by decide) wd_1519 (fvA rfl hs.r9) ?_
                  refine v_iconst (v := 0) (pc := 161) hX dX11_does_161 (by decide) ?_
                  refine v_iald (j := 0) (v := (gA m (r + 9) 0)) (pc := 162) hX dX11_does_162 hs.k9 rfl (by decide) (by decide) rfl ?_
                  refine v_callV (z := yX11_find) (pc := 163) hX dX11_does_163 (c_X11_find hO m r (gA m (r + 9) 0) N hs hN hN8) hs.k rfl wd_1652 wd_1654 wp_26 wd_16 wd_1655 ⟨by decide, by decide, (by decide +kernel : (parseMethodDescriptor yX11_find.desc).map (fun d => d.parameters.length) = some 1)⟩ rfl (Nat.le_of_ble_eq_true rfl) ⟨⟨by decide, by decide⟩, by decide, by decide⟩ (fun E m9 h9 => h9.elim) (fun r9 m9 h9 => ?_)
                  obtain ⟨rfl, h8⟩ := h9
                  replace h8 := h8.symm
                  subst h8
                  show mV g x _ _ _ _ _ [.int (X11_find_r g m r (gA m (r + 9) 0) N), .ref r]
                  refine v_callV (z := yX11_quenches) (pc := 166) hX dX11_does_166 (c_X11_quenches hO m r (X11_find_r g m r (gA m (r + 9) 0) N)  hs (fun h => (fd_ge hN8 h).1)) hs.k rfl wd_1704 wd_1706 wp_36 wd_16 wd_1707 ⟨by decide, by decide, (by decide +kernel : (parseMethodDescriptor yX11_quenches.desc).map (fun d => d.parameters.length) = some 1)⟩ rfl (Nat.le_of_ble_eq_true rfl) ⟨⟨by decide, by decide⟩, by decide, by decide⟩ (fun E m9 h9 => h9.elim) (fun r9 m9 h9 => ?_)
                  obtain ⟨rfl, h8⟩ := h9
                  replace h8 := h8.symm
                  subst h8
                  show mV g x _ _ _ _ _ [.int (X11_quenches_r g m r (X11_find_r g m r (gA m (r + 9) 0) N) )]
                  exact v_iret (pc := 169) hX hZ dX11_does_169 (by decide) (by decide) ⟨(by rw [X11_does_r, if_neg c1, if_neg c2, if_neg c3, if_neg c4, if_neg c5, if_neg c6, if_neg c7, if_pos c8]), (by rw [X11_does_m, if_neg c1, if_neg c2, if_neg c3, if_neg c4, if_neg c5, if_neg c6, if_neg c7, if_pos c8])⟩
                ·
                  by_cases c9 : a = 8
                  ·
                    refine v_tsI (off := 169) (tgt := 170) (pc := 1) hX dX11_does_1 (by rw [c9]; decide) (by rw [c9]; decide) (by rw [c9]; rfl) (by decide) ?_
                    refine v_aload_n (pc := 170) hX dX11_does_170 rfl ?_
                    refine v_aload_n (pc := 171) hX dX11_does_171 rfl ?_
                    refine v_aload_n (pc := 172) hX dX11_does_172 rfl ?_
                    refine v_get (v := .ref (r + 9)) (pc := 173) hX dX11_does_173 hs.k (ci := 12) (r := vwC12) rfl 13 (by decide) wd_1519 (fvA rfl hs.r9) ?_
                    refine v_iconst (v := 0) (pc := 176) hX dX11_does_176 (by decide) ?_
                    refine v_iald (j := 0) (v := (gA m (r + 9) 0)) (pc := 177) hX dX11_does_177 hs.k9 rfl (by decide) (by decide) rfl ?_
                    refine v_callV (z := yX11_find) (pc := 178) hX dX11_does_178 (c_X11_find hO m r (gA m (r + 9) 0) N hs hN hN8) hs.k rfl wd_1652 wd_1654 wp_26 wd_16 wd_1655 ⟨by decide, by decide, (by decide +kernel : (parseMethodDescriptor yX11_find.desc).map (fun d => d.parameters.length) = some 1)⟩ rfl (Nat.le_of_ble_eq_true rfl) ⟨⟨by decide, by decide⟩, by decide, by decide⟩ (fun E m9 h9 => h9.elim) (fun r9 m9 h9 => ?_)
                    obtain ⟨rfl, h8⟩ := h9
                    replace h8 := h8.symm
                    subst h8
                    show mV g x _ _ _ _ _ [.int (X11_find_r g m r (gA m (r + 9) 0) N), .ref r]
                    refine v_callV (z := yX11_tests) (pc := 181) hX dX11_does_181 (c_X11_tests hO m r (X11_find_r g m r (gA m (r + 9) 0) N)  hs (fun h => (fd_ge hN8 h).1)) hs.k rfl wd_1712 wd_1714 wp_37 wd_16 wd_1715 ⟨by decide, by decide, (by decide +kernel : (parseMethodDescriptor yX11_tests.desc).map (fun d => d.parameters.length) = some 1)⟩ rfl (Nat.le_of_ble_eq_true rfl) ⟨⟨by decide, by decide⟩, by decide, by decide⟩ (fun E m9 h9 => h9.elim) (fun r9 m9 h9 => ?_)
                    obtain ⟨rfl, h8⟩ := h9
                    replace h8 := h8.symm
                    subst h8
                    show mV g x _ _ _ _ _ [.int (X11_tests_r g m r (X11_find_r g m r (gA m (r + 9) 0) N) )]
                    exact v_iret (pc := 184) hX hZ dX11_does_184 (by decide) (by decide) ⟨(by rw [X11_does_r, if_neg c1, if_neg c2, if_neg c3, if_neg c4, if_neg c5, if_neg c6, if_neg c7, if_neg c8, if_pos c9]), (by rw [X11_does_m, if_neg c1, if_neg c2, if_neg c3, if_neg c4, if_neg c5, if_neg c6, if_neg c7, if_neg c8, if_pos c9])⟩
                  ·
                    by_cases c10 : a = 9
                    ·
                      refine v_tsI (off := 184) (tgt := 185) (pc := 1) hX dX11_does_1 (by rw [c10]; decide) (by rw [c10]; decide) (by rw [c10]; rfl) (by decide) ?_
                      refine v_aload_n (pc := 185) hX dX11_does_185 rfl ?_
                      refine v_aload_n (pc := 186) hX dX11_does_186 rfl ?_
                      refine v_get (v := .ref (r + 9)) (pc := 187) hX dX11_does_187 hs.k (ci := 12) (r := vwC12) rfl 13 (by decide) wd_1519 (fvA rfl hs.r9) ?_
                      refine v_iconst (v := 0) (pc := 190) hX dX11_does_190 (by decide) ?_
                      refine v_iald (j := 0) (v := (gA m (r + 9) 0)) (pc := 191) hX dX11_does_191 hs.k9 rfl (by decide) (by decide) rfl ?_
                      refine v_aload_n (pc := 192) hX dX11_does_192 rfl ?_
                      refine v_get (v := .ref (r + 9)) (pc := 193) hX dX11_does_193 hs.k (ci := 12) (r := vwC12) rfl 13 (by decide) wd_1519 (fvA rfl hs.r9) ?_
                      refine v_iconst (v := 1) (pc := 196) hX dX11_does_196 (by decide) ?_
                      refine v_iald (j := 1) (v := (gA m (r + 9) 1)) (pc := 197) hX dX11_does_197 hs.k9 rfl (by decide) (by decide) rfl ?_
                      refine v_aload_n (pc := 198) hX dX11_does_198 rfl ?_
                      refine v_get (v := .ref (r + 9)) (pc := 199) hX dX11_does_199 hs.k (ci := 12) (r := vwC12) rfl 13 (by decide) wd_1519 (fvA rfl hs.r9) ?_
                      refine v_iconst (v := 2) (pc := 202) hX dX11_does_202 (by decide) ?_
                      refine v_iald (j := 2) (v := (gA m (r + 9) 2)) (pc := 203) hX dX11_does_203 hs.k9 rfl (by decide) (by decide) rfl ?_
                      refine v_aload_n (pc := 204) hX dX11_does_204 rfl ?_
                      refine v_get (v := .ref (r + 9)) (pc := 205) hX dX11_does_205 hs.k (ci := 12) (r := vwC12) rfl 13 (by decide) wd_1519 (fvA rfl hs.r9) ?_
                      refine v_iconst (v := 3) (pc := 208) hX dX11_does_208 (by decide) ?_
                      refine v_iald (j := 3) (v := (gA m (r + 9) 3)) (pc := 209) hX dX11_does_209 hs.k9 rfl (by decide) (by decide) rfl ?_
                      refine v_callV (z := yX11_joins) (pc := 210) hX dX11_does_210 (c_X11_joins hO m r (gA m (r + 9) 0) (gA m (r + 9) 1) (gA m (r + 9) 2) (gA m (r + 9) 3) N hs hN hN8) hs.k rfl wd_1720 wd_1722 wp_38 wd_16 wd_1723 ⟨by decide, by decide, (by decide +kernel : (parseMethodDescriptor yX11_joins.desc).map (fun d => d.parameters.length) = some 4)⟩ rfl (Nat.le_of_ble_eq_true rfl) ⟨⟨by decide, by decide⟩, by decide, by decide⟩ (fun E m9 h9 => h9.elim) (fun r9 m9 h9 => ?_)
                      obtain ⟨rfl, h8⟩ := h9
                      replace h8 := h8.symm
                      subst h8
                      show mV g x _ _ _ _ _ [.int (X11_joins_r g m r (gA m (r + 9) 0) (gA m (r + 9) 1) (gA m (r + 9) 2) (gA m (r + 9) 3) N)]
                      exact v_iret (pc := 213) hX hZ dX11_does_213 (by decide) (by decide) ⟨(by rw [X11_does_r, if_neg c1, if_neg c2, if_neg c3, if_neg c4, if_neg c5, if_neg c6, if_neg c7, if_neg c8, if_neg c9, if_pos c10]), (by rw [X11_does_m, if_neg c1, if_neg c2, if_neg c3, if_neg c4, if_neg c5, if_neg c6, if_neg c7, if_neg c8, if_neg c9, if_pos c10])⟩
                    ·
                      by_cases c11 : a = 10
                      ·
                        refine v_tsI (off := 213) (tgt := 214) (pc := 1) hX dX11_does_1 (by rw [c11]; decide) (by rw [c11]; decide) (by rw [c11]; rfl) (by decide) ?_
                        refine v_aload_n (pc := 214) hX dX11_does_214 rfl ?_
                        refine v_aload_n (pc := 215) hX dX11_does_215 rfl ?_
                        refine v_aload_n (pc := 216) hX dX11_does_216 rfl ?_
                        refine v_get (v := .ref (r + 9)) (pc := 217) hX dX11_does_217 hs.k (ci := 12) (r := vwC12) rfl 13 (by decide) wd_1519 (fvA rfl hs.r9) ?_
                        refine v_iconst (v := 0) (pc := 220) hX dX11_does_220 (by decide) ?_
                        refine v_iald (j := 0) (v := (gA m (r + 9) 0)) (pc := 221) hX dX11_does_221 hs.k9 rfl (by decide) (by decide) rfl ?_
                        refine v_callV (z := yX11_find) (pc := 222) hX dX11_does_222 (c_X11_find hO m r (gA m (r + 9) 0) N hs hN hN8) hs.k rfl wd_1652 wd_1654 wp_26 wd_16 wd_1655 ⟨by decide, by decide, (by decide +kernel : (parseMethodDescriptor yX11_find.desc).map (fun d => d.parameters.length) = some 1)⟩ rfl (Nat.le_of_ble_eq_true rfl) ⟨⟨by decide, by decide⟩, by decide, by decide⟩ (fun E m9 h9 => h9.elim) (fun r9 m9 h9 => ?_)
                        obtain ⟨rfl, h8⟩ := h9
                        replace h8 := h8.symm
                        subst h8
                        show mV g x _ _ _ _ _ [.int (X11_find_r g m r (gA m (r + 9) 0) N), .ref r]
                        refine v_callV (z := yX11_drops) (pc := 225) hX dX11_does_225 (c_X11_drops hO m r (X11_find_r g m r (gA m (r + 9) 0) N)  hs (fun h => (fd_ge hN8 h).1)) hs.k rfl wd_1736 wd_1738 wp_41 wd_16 wd_1739 ⟨by decide, by decide, (by decide +kernel : (parseMethodDescriptor yX11_drops.desc).map (fun d => d.parameters.length) = some 1)⟩ rfl (Nat.le_of_ble_eq_true rfl) ⟨⟨by decide, by decide⟩, by decide, by decide⟩ (fun E m9 h9 => h9.elim) (fun r9 m9 h9 => ?_)
                        obtain ⟨rfl, h8⟩ := h9
                        replace h8 := h8.symm
                        subst h8
                        show mV g x _ _ _ _ _ [.int (X11_drops_r g m r (X11_find_r g m r (gA m (r + 9) 0) N) )]
                        exact v_iret (pc := 228) hX hZ dX11_does_228 (by decide) (by decide) ⟨(by rw [X11_does_r, if_neg c1, if_neg c2, if_neg c3, if_neg c4, if_neg c5, if_neg c6, if_neg c7, if_neg c8, if_neg c9, if_neg c10, if_pos c11]), (by rw [X11_does_m, if_neg c1, if_neg c2, if_neg c3, if_neg c4, if_neg c5, if_neg c6, if_neg c7, if_neg c8, if_neg c9, if_neg c10, if_pos c11])⟩
                      ·
                        refine v_tsO (tgt := 229) (pc := 1) hX dX11_does_1 (by have e0 := ts_ne c1 (show (0 : Int32).toInt = 0 by decide); have e1 := ts_ne c2 (show (1 : Int32).toInt = 1 by decide); have e2 := ts_ne c3 (show (2 : Int32).toInt = 2 by decide); have e3 := ts_ne c4 (show (3 : Int32).toInt = 3 by decide); have e4 := ts_ne c5 (show (4 : Int32).toInt = 4 by decide); have e5 := ts_ne c6 (show (5 : Int32).toInt = 5 by decide); have e6 := ts_ne c7 (show (6 : Int32).toInt = 6 by decide); have e7 := ts_ne c8 (show (7 : Int32).toInt = 7 by decide); have e8 := ts_ne c9 (show (8 : Int32).toInt = 8 by decide); have e9 := ts_ne c10 (show (9 : Int32).toInt = 9 by decide); have e10 := ts_ne c11 (show (10 : Int32).toInt = 10 by decide); omega) (by decide) ?_
                        refine v_aload_n (pc := 229) hX dX11_does_229 rfl ?_
                        refine v_aload_n (pc := 230) hX dX11_does_230 rfl ?_
                        refine v_get (v := .ref (r + 9)) (pc := 231) hX dX11_does_231 hs.k (ci := 12) (r := vwC12) rfl 13 (by decide) wd_1519 (fvA rfl hs.r9) ?_
                        refine v_iconst (v := 0) (pc := 234) hX dX11_does_234 (by decide) ?_
                        refine v_iald (j := 0) (v := (gA m (r + 9) 0)) (pc := 235) hX dX11_does_235 hs.k9 rfl (by decide) (by decide) rfl ?_
                        refine v_callV (z := yX11_passes) (pc := 236) hX dX11_does_236 (c_X11_passes hO m r (gA m (r + 9) 0) N hs hN hN8) hs.k rfl wd_1615 wd_1617 wp_22 wd_16 wd_1618 ⟨by decide, by decide, (by decide +kernel : (parseMethodDescriptor yX11_passes.desc).map (fun d => d.parameters.length) = some 1)⟩ rfl (Nat.le_of_ble_eq_true rfl) ⟨⟨by decide, by decide⟩, by decide, by decide⟩ (fun E m9 h9 => h9.elim) (fun r9 m9 h9 => ?_)
                        obtain ⟨rfl, h8⟩ := h9
                        replace h8 := h8.symm
                        subst h8
                        show mV g x _ _ _ _ _ [.int (X11_passes_r g m r (gA m (r + 9) 0) N)]
                        exact v_iret (pc := 239) hX hZ dX11_does_239 (by decide) (by decide) ⟨(by rw [X11_does_r, if_neg c1, if_neg c2, if_neg c3, if_neg c4, if_neg c5, if_neg c6, if_neg c7, if_neg c8, if_neg c9, if_neg c10, if_neg c11]), (by rw [X11_does_m, if_neg c1, if_neg c2, if_neg c3, if_neg c4, if_neg c5, if_neg c6, if_neg c7, if_neg c8, if_neg c9, if_neg c10, if_neg c11])⟩
/-! how many pieces and hammers -/
def RI (m : mM) (r : Nat) : Prop := okI (gA m (r + 1) 5) 8 ∧ okI (gA m (r + 1) 6) 4
section
variable {g : mG} {m m1 : mM} {r N H i : Nat} {a b c d v : Int32}
theorem RI.cg (h : RI m r) (e1 : gA m1 (r + 1) 5 = gA m (r + 1) 5) (e2 : gA m1 (r + 1) 6 = gA m (r + 1) 6) : RI m1 r := by
  unfold RI
  rw [e1, e2]
  exact h
theorem RI.sI {k q : Nat} (h : RI m r) : RI (sI m k q v) r := h
theorem RI.sA (h : RI m r) (hi : 7 ≤ i ∨ i < 5) : RI (sA m (r + 1) i v) r := h.cg (gA_n (by omega)) (gA_n (by omega))
theorem RI.sB {q : Nat} (h : RI m r) (hq : q ≠ r + 1) : RI (Jvm.Pilot.CBirdForgeLaw_law_r3627_3a07d8.sA m q i v) r := h.cg (gA_n (Or.inl (Ne.symm hq))) (gA_n (Or.inl (Ne.symm hq)))
theorem RI_adds (h : RI m r) : RI (X11_adds_m g m r a) r := by
  unfold X11_adds_m
  split
  · exact h.sI
  · split
    · exact (h.sA (by omega)).sA (by omega)
    · exact h.sI
theorem RI_blows (h : RI m r) : RI (X11_blows_m g m r a) r := by
  unfold X11_blows_m
  split
  · exact h.sI
  · exact h.sA (by omega)
theorem okI_N1 {B : Nat} (hB : B < 2 ^ 30) (h : N < B) : okI (nI N + 1) B := by
  rw [nI_1]
  exact okI_nI h (by omega)
theorem RI_mk (h7 : N < 8) : ∀ (n j : Nat) (m : mM), RI m r → RI (X11_makes_l1 g r a N n j m).2 r := by
  intro n
  induction n with
  | zero =>
    intro j m h
    rw [X11_makes_l1]
    have h1 : RI (Jvm.Pilot.CBirdForgeLaw_law_r3627_3a07d8.sA (Jvm.Pilot.CBirdForgeLaw_law_r3627_3a07d8.sA (Jvm.Pilot.CBirdForgeLaw_law_r3627_3a07d8.sA (Jvm.Pilot.CBirdForgeLaw_law_r3627_3a07d8.sA m (r + 1) (8 * N + 13) (gA m (r + 1) 4)) (r + 1) (8 * N + 14) a) (r + 1) (8 * N + 15) 20) (r + 1) (8 * N + 17) 10) r := (((h.sA (by omega)).sA (by omega)).sA (by omega)).sA (by omega)
    refine RI.sA ?_ (by omega)
    refine ⟨?_, ?_⟩
    · rw [gA_y]
      exact okI_N1 (by decide) h7
    · rw [gA_n (by omega)]
      exact h1.2
  | succ n ih =>
    intro j m h
    rw [X11_makes_l1]
    exact ih _ _ (h.sA (by omega))
theorem n8_ne (hN8 : N ≤ 8) (h : ¬ nI N = 8) : N < 8 := by
  have := lt8 h hN8
  omega
theorem RI_makes (h : RI m r) (hN8 : N ≤ 8) : RI (X11_makes_m g m r a N) r := by
  unfold X11_makes_m
  by_cases c : nI N = 8
  · simp only [if_pos c]
    split
    · exact h.sI
    · split
      · exact h.sI
      · split <;> exact h.sI
  · simp only [if_neg c]
    have := RI_mk (g := g) (a := a) (n8_ne hN8 c) 8 0 m h
    split
    · exact this
    · split
      · exact this
      · split
        · exact this
        · exact h.sI
theorem RI_equips (h : RI m r) (hH4 : H ≤ 4) : RI (X11_equips_m g m r a H) r := by
  unfold X11_equips_m
  split
  · exact h.sI
  · split
    · exact h.sI
    · rename_i c
      have hH : H < 4 := by
        rcases Nat.lt_or_ge H 4 with q | q
        · exact q
        · exact absurd (show nI H = 4 by rw [show H = 4 by omega]; rfl) c
      have h1 := (h.sA (v := a) (i := 2 * H + 77) (by omega)).sA (v := 0) (i := 2 * H + 78) (by omega)
      refine ⟨?_, ?_⟩
      · rw [gA_n (by omega)]
        exact h1.1
      · rw [gA_y]
        exact okI_N1 (by decide) hH
theorem RI_puts (h : RI m r) : RI (X11_puts_m g m r a N) r := by
  unfold X11_puts_m
  repeat' split
  all_goals first | exact h.sI | exact h.sA (by omega)
theorem RI_takes (h : RI m r) : RI (X11_takes_m g m r a) r := by
  unfold X11_takes_m
  repeat' split
  all_goals first | exact h.sI | exact h.sA (by omega)
theorem RI_hardens (h : RI m r) : RI (X11_hardens_m g m r a b) r := h.cg (ha_n (by omega)) (ha_n (by omega))
theorem RI_strikes (h : RI m r) : RI (X11_strikes_m g m r a b H) r := by
  unfold X11_strikes_m
  repeat' split
  all_goals first | exact h.sI | exact ((RI_hardens (h.sA (by omega))).sA (by omega)).sA (by omega)
theorem RI_quenches (h : RI m r) : RI (X11_quenches_m g m r a) r := by
  unfold X11_quenches_m
  repeat' split
  all_goals first | exact h.sI | exact ((RI_hardens h).sA (by omega)).sA (by omega)
theorem RI_tests (h : RI m r) : RI (X11_tests_m g m r a) r := by
  unfold X11_tests_m
  repeat' split
  all_goals first | exact h.sI | exact ((h.sA (by omega)).sA (by omega)).sA (by omega)
theorem RI_lives (h : RI m r) : RI (X11_lives_m g m r N) r := h.cg (li_n (by omega)) (li_n (by omega))
theorem RI_ps : ∀ (n j : Nat) (m : mM), RI m r → RI (X11_passes_l1 g r a N n j m).2 r := by
  intro n
  induction n with
  | zero =>
    intro j m h
    rw [X11_passes_l1]
    exact h
  | succ n ih =>
    intro j m h
    rw [X11_passes_l1]
    exact ih _ _ (RI_lives h)
theorem RI_passes (h : RI m r) : RI (X11_passes_m g m r a N) r := by
  unfold X11_passes_m
  split
  · exact h.sI
  · exact RI_ps _ _ _ h
theorem RI_goes (h : RI m r) (ha : a.toNatClampNeg ≤ 7) (hN : gA m (r + 1) 5 = nI N) (hN8 : N ≤ 8) (h1 : 1 ≤ N) : RI (X11_goes_m g m r a) r := by
  refine ⟨?_, ?_⟩
  · rw [go_N ha hN h1]
    exact okI_nI (by omega) (by decide)
  · rw [(go_at (g := g) ha).1 6 (Nat.le_refl _), if_pos (by omega)]
    exact h.2
theorem RI_drops (h : RI m r) (hN : gA m (r + 1) 5 = nI N) (hN8 : N ≤ 8) : RI (X11_drops_m g m r (X11_find_r g m r a N)) r := by
  unfold X11_drops_m
  split
  · rename_i c
    have o := fd_ge (g := g) hN8 c
    exact RI_goes h o.1.2 hN hN8 (by have := o.2.1; omega)
  · exact h.sI
theorem it_P {α : Type} {P : α → Prop} {c : Prop} [Decidable c] {x y : α} (h1 : c → P x) (h2 : ¬ c → P y) : P (if c then x else y) := by
  by_cases h : c
  · rw [if_pos h]; exact h1 h
  · rw [if_neg h]; exact h2 h
theorem RI_joins (h : RI m r) (hN : gA m (r + 1) 5 = nI N) (hN8 : N ≤ 8) : RI (X11_joins_m g m r a b c d N) r := by
  unfold X11_joins_m
  refine it_P (P := fun q => RI q r) (fun _ => h.sI) (fun ca => it_P (P := fun q => RI q r) (fun _ => h.sI) (fun cb => it_P (P := fun q => RI q r) (fun _ => h.sI) (fun cc => it_P (P := fun q => RI q r) (fun cd => ?_) (fun _ => h.sI))))
  refine it_P (P := fun q => RI q r) (fun k1 => it_P (P := fun q => RI q r) (fun k2 => it_P (P := fun q => RI q r) (fun k3 => it_P (P := fun q => RI q r) (fun k4 => ?_) (fun _ => h.sI)) (fun _ => h.sI)) (fun _ => h.sI)) (fun _ => h.sI)
  refine it_P (P := fun q => RI q r) (fun _ => h.sI) (fun k5 => it_P (P := fun q => RI q r) (fun _ => h.sI) (fun _ => it_P (P := fun q => RI q r) (fun _ => h.sI) (fun _ => it_P (P := fun q => RI q r) (fun _ => h.sI) (fun _ => it_P (P := fun q => RI q r) (fun _ => h.sI) (fun _ => ?_)))))
  have oa := fd_lt (g := g) hN8 ca
  have ob := fd_lt (g := g) hN8 cb
  have oc := fd_lt (g := g) hN8 cc
  have od := fd_ge (g := g) hN8 cd
  obtain ⟨j4, jb, jc, jd, jN1, jN2, jN3⟩ := join_ok (g := g) hN hN8 oa ob oc od k1 k2 k3 k4 k5
  have g1 := RI_goes (g := g) h oa.1.2 hN hN8 (by omega)
  have g2 := RI_goes (g := g) g1 jb.1.2 jN1 (by omega) (by omega)
  have g3 := RI_goes (g := g) g2 jc.1.2 jN2 (by omega) (by omega)
  have g4 := RI_goes (g := g) g3 jd.1.2 jN3 (by omega) (by omega)
  exact g4.sA (by omega)
theorem RI_does (h : RI m r) (hN : gA m (r + 1) 5 = nI N) (hN8 : N ≤ 8) (hH4 : H ≤ 4) : RI (X11_does_m g m r a N H) r := by
  unfold X11_does_m
  repeat' split
  · exact RI_adds h
  · exact RI_blows h
  · exact RI_makes h hN8
  · exact RI_equips h hH4
  · exact RI_puts h
  · exact RI_takes h
  · exact RI_strikes h
  · exact RI_quenches h
  · exact RI_tests h
  · exact RI_joins h hN hN8
  · exact RI_drops h hN hN8
  · exact RI_passes h
end
