def X11_pieceAtRank_l2 (g : mG) (m : mM) (r : Nat) (a : Int32) (N : Nat) : Nat → Nat → Nat → Int32 → Int32
  | 0, j, q, s => s
  | n + 1, j, q, s => if ((gA m (r + 1) (8 * j + 17)) - (gA m (r + 1) (8 * q + 17))) = 0 then (if 0 < ((gA m (r + 1) (8 * j + 16)) - (gA m (r + 1) (8 * q + 16))) then (X11_pieceAtRank_l2 g m r a N n (j + 1) q (s + 1) ) else (if ((gA m (r + 1) (8 * j + 16)) - (gA m (r + 1) (8 * q + 16))) = 0 then (if (nI q) ≤ (nI j) then (X11_pieceAtRank_l2 g m r a N n (j + 1) q (s + 0) ) else (X11_pieceAtRank_l2 g m r a N n (j + 1) q (s + 1) )) else (X11_pieceAtRank_l2 g m r a N n (j + 1) q (s + 0) ))) else (if 0 < ((gA m (r + 1) (8 * j + 17)) - (gA m (r + 1) (8 * q + 17))) then (X11_pieceAtRank_l2 g m r a N n (j + 1) q (s + 1) ) else (if ((gA m (r + 1) (8 * j + 17)) - (gA m (r + 1) (8 * q + 17))) = 0 then (if (nI q) ≤ (nI j) then (X11_pieceAtRank_l2 g m r a N n (j + 1) q (s + 0) ) else (X11_pieceAtRank_l2 g m r a N n (j + 1) q (s + 1) )) else (X11_pieceAtRank_l2 g m r a N n (j + 1) q (s + 0) )))
def X11_pieceAtRank_l2a0 (g : mG) (m : mM) (r : Nat) (a : Int32) (N : Nat) (q : Nat) (s : Int32) : Int32 := X11_pieceAtRank_l2 g m r a N N 0 q s 
set_option maxHeartbeats 4000000 in
set_option maxRecDepth 100000 in
theorem lpc_X11_pieceAtRank_l2 {l : Launch} {g : mG} {x : mCx} (hO : mO l g) {m : mM} (r : Nat) (a : Int32) (N : Nat) (hN8 : N ≤ 8) {pst : Option Value → mM → Prop} {XX : String → mM → Prop} (hX : mX l g x cX11_pieceAtRank yX11_pieceAtRank { frames := 2, cells := 0, slots := 0, locals := 41 } 6) (hZ : mZ g x (Option.some FieldType.int) [] pst XX 0 0) : ∀ (n j : Nat) (q : Nat) (s : Int32) (hs : SR m r) (hN : gA m (r + 1) 5 = nI N) (hq : q < N) (hj : j + n = N) (hk : mV g x m 0 0 121 [(0, .ref r), (1, .int a), (2, .int (nI q)), (3, .int (X11_pieceAtRank_l2 g m r a N n j q s ))] []), mV g x m 0 0 22 [(0, .ref r), (1, .int a), (2, .int (nI q)), (3, .int s), (4, .int (nI j))] [] := by
  intro n
  induction n with
  | zero =>
    intro j q s  hs hN hq hj hk
    refine v_iload (pc := 22) hX dX11_pieceAtRank_22 rfl ?_
    refine v_aload_n (pc := 24) hX dX11_pieceAtRank_24 rfl ?_
    refine v_get (v := .ref (r + 1)) (pc := 25) hX dX11_pieceAtRank_25 hs.k (ci := 12) (r := vwC12) rfl 5 (by decide) wd_1511 (fvA rfl hs.r1) ?_
    refine v_iconst (v := 5) (pc := 28) hX dX11_pieceAtRank_28 (by decide) ?_
    refine v_iald (j := 5) (v := (nI N)) (pc := 29) hX dX11_pieceAtRank_29 hs.k1 rfl (by decide) (by decide) ((rfl).trans hN) ?_
    refine v_icmp_ge (tgt := 121) (pc := 30) hX dX11_pieceAtRank_30 (by decide) (fun c1 => ?_) (fun c1 => ?_)
    ·
      refine mV_sub (lv' := [(0, .ref r), (1, .int a), (2, .int (nI q)), (3, .int s)]) ⟨rfl, rfl, rfl, rfl, trivial⟩ ?_
      exact (by rw [X11_pieceAtRank_l2] at hk; exact hk)
    · exact absurd (nI_le (by omega) (by omega)) c1
  | succ n ih =>
    intro j q s  hs hN hq hj hk
    refine v_iload (pc := 22) hX dX11_pieceAtRank_22 rfl ?_
    refine v_aload_n (pc := 24) hX dX11_pieceAtRank_24 rfl ?_
    refine v_get (v := .ref (r + 1)) (pc := 25) hX dX11_pieceAtRank_25 hs.k (ci := 12) (r := vwC12) rfl 5 (by decide) wd_1511 (fvA rfl hs.r1) ?_
    refine v_iconst (v := 5) (pc := 28) hX dX11_pieceAtRank_28 (by decide) ?_
    refine v_iald (j := 5) (v := (nI N)) (pc := 29) hX dX11_pieceAtRank_29 hs.k1 rfl (by decide) (by decide) ((rfl).trans hN) ?_
    refine v_icmp_ge (tgt := 121) (pc := 30) hX dX11_pieceAtRank_30 (by decide) (fun c1 => ?_) (fun c1 => ?_)
    · exact absurd c1 (nI_ge (by omega) (by omega))
    ·
      refine v_aload_n (pc := 33) hX dX11_pieceAtRank_33 rfl ?_
      refine v_get (v := .ref (r + 1)) (pc := 34) hX dX11_pieceAtRank_34 hs.k (ci := 12) (r := vwC12) rfl 5 (by decide) wd_1511 (fvA rfl hs.r1) ?_
      refine v_iload (pc := 37) hX dX11_pieceAtRank_37 rfl ?_
      refine v_iconst (v := 4) (pc := 39) hX dX11_pieceAtRank_39 (by decide) ?_
      refine v_callS (z := yX11_of) (pc := 40) hX dX11_pieceAtRank_40 (c_of2 hO m (nI j) j 4 rfl) wd_1626 wd_1627 wd_16 wd_1628 ⟨by decide, by decide, (by decide +kernel : (parseMethodDescriptor yX11_of.desc).map (fun d => d.parameters.length) = some 2)⟩ rfl (Nat.le_of_ble_eq_true rfl) ⟨⟨by decide, by decide⟩, by decide, by decide⟩ (fun E m9 h9 => h9.elim) (fun r9 m9 h9 => ?_)
      obtain ⟨rfl, h8⟩ := h9
      replace h8 := h8.symm
      subst h8
      show mV g x _ _ _ _ _ [.int (nI (8 * j + 17)), .ref (r + 1)]
      refine v_iald (j := 8 * j + 17) (v := (gA m (r + 1) (8 * j + 17))) (pc := 43) hX dX11_pieceAtRank_43 hs.k1 rfl (by omega) (by decide) rfl ?_
      refine v_aload_n (pc := 44) hX dX11_pieceAtRank_44 rfl ?_
      refine v_get (v := .ref (r + 1)) (pc := 45) hX dX11_pieceAtRank_45 hs.k (ci := 12) (r := vwC12) rfl 5 (by decide) wd_1511 (fvA rfl hs.r1) ?_
      refine v_iload_n (pc := 48) hX dX11_pieceAtRank_48 rfl ?_
      refine v_iconst (v := 4) (pc := 49) hX dX11_pieceAtRank_49 (by decide) ?_
      refine v_callS (z := yX11_of) (pc := 50) hX dX11_pieceAtRank_50 (c_of2 hO m (nI q) q 4 rfl) wd_1626 wd_1627 wd_16 wd_1628 ⟨by decide, by decide, (by decide +kernel : (parseMethodDescriptor yX11_of.desc).map (fun d => d.parameters.length) = some 2)⟩ rfl (Nat.le_of_ble_eq_true rfl) ⟨⟨by decide, by decide⟩, by decide, by decide⟩ (fun E m9 h9 => h9.elim) (fun r9 m9 h9 => ?_)
      obtain ⟨rfl, h8⟩ := h9
      replace h8 := h8.symm
      subst h8
      show mV g x _ _ _ _ _ [.int (nI (8 * q + 17)), .ref (r + 1), .int (gA m (r + 1) (8 * j + 17))]
      refine v_iald (j := 8 * q + 17) (v := (gA m (r + 1) (8 * q + 17))) (pc := 53) hX dX11_pieceAtRank_53 hs.k1 rfl (by omega) (by decide) rfl ?_
      refine v_isub (pc := 54) hX dX11_pieceAtRank_54 ?_
      refine v_istore (pc := 55) hX dX11_pieceAtRank_55 (by decide) rfl ?_
      refine v_iload (pc := 57) hX dX11_pieceAtRank_57 rfl ?_
      refine v_if_eq (tgt := 67) (pc := 59) hX dX11_pieceAtRank_59 (by decide) (fun c2 => ?_) (fun c2 => ?_)
      ·
        refine v_aload_n (pc := 67) hX dX11_pieceAtRank_67 rfl ?_
        refine v_get (v := .ref (r + 1)) (pc := 68) hX dX11_pieceAtRank_68 hs.k (ci := 12) (r := vwC12) rfl 5 (by decide) wd_1511 (fvA rfl hs.r1) ?_
        refine v_iload (pc := 71) hX dX11_pieceAtRank_71 rfl ?_
        refine v_iconst (v := 3) (pc := 73) hX dX11_pieceAtRank_73 (by decide) ?_
        refine v_callS (z := yX11_of) (pc := 74) hX dX11_pieceAtRank_74 (c_of2 hO m (nI j) j 3 rfl) wd_1626 wd_1627 wd_16 wd_1628 ⟨by decide, by decide, (by decide +kernel : (parseMethodDescriptor yX11_of.desc).map (fun d => d.parameters.length) = some 2)⟩ rfl (Nat.le_of_ble_eq_true rfl) ⟨⟨by decide, by decide⟩, by decide, by decide⟩ (fun E m9 h9 => h9.elim) (fun r9 m9 h9 => ?_)
        obtain ⟨rfl, h8⟩ := h9
        replace h8 := h8.symm
        subst h8
        show mV g x _ _ _ _ _ [.int (nI (8 * j + 16)), .ref (r + 1)]
        refine v_iald (j := 8 * j + 16) (v := (gA m (r + 1) (8 * j + 16))) (pc := 77) hX dX11_pieceAtRank_77 hs.k1 rfl (by omega) (by decide) rfl ?_
        refine v_aload_n (pc := 78) hX dX11_pieceAtRank_78 rfl ?_
        refine v_get (v := .ref (r + 1)) (pc := 79) hX dX11_pieceAtRank_79 hs.k (ci := 12) (r := vwC12) rfl 5 (by decide) wd_1511 (fvA rfl hs.r1) ?_
        refine v_iload_n (pc := 82) hX dX11_pieceAtRank_82 rfl ?_
        refine v_iconst (v := 3) (pc := 83) hX dX11_pieceAtRank_83 (by decide) ?_
        refine v_callS (z := yX11_of) (pc := 84) hX dX11_pieceAtRank_84 (c_of2 hO m (nI q) q 3 rfl) wd_1626 wd_1627 wd_16 wd_1628 ⟨by decide, by decide, (by decide +kernel : (parseMethodDescriptor yX11_of.desc).map (fun d => d.parameters.length) = some 2)⟩ rfl (Nat.le_of_ble_eq_true rfl) ⟨⟨by decide, by decide⟩, by decide, by decide⟩ (fun E m9 h9 => h9.elim) (fun r9 m9 h9 => ?_)
        obtain ⟨rfl, h8⟩ := h9
        replace h8 := h8.symm
        subst h8
        show mV g x _ _ _ _ _ [.int (nI (8 * q + 16)), .ref (r + 1), .int (gA m (r + 1) (8 * j + 16))]
        refine v_iald (j := 8 * q + 16) (v := (gA m (r + 1) (8 * q + 16))) (pc := 87) hX dX11_pieceAtRank_87 hs.k1 rfl (by omega) (by decide) rfl ?_
        refine v_isub (pc := 88) hX dX11_pieceAtRank_88 ?_
        refine v_istore (pc := 89) hX dX11_pieceAtRank_89 (by decide) rfl ?_
        refine v_iload_n (pc := 91) hX dX11_pieceAtRank_91 rfl ?_
        refine v_iload (pc := 92) hX dX11_pieceAtRank_92 rfl ?_
        refine v_if_gt (tgt := 108) (pc := 94) hX dX11_pieceAtRank_94 (by decide) (fun c3 => ?_) (fun c3 => ?_)
        ·
          refine v_iconst (v := 1) (pc := 108) hX dX11_pieceAtRank_108 (by decide) ?_
          refine v_goto (tgt := 113) (pc := 109) hX dX11_pieceAtRank_109 (by decide) ?_
          refine v_iadd (pc := 113) hX dX11_pieceAtRank_113 ?_
          refine v_istore_n (pc := 114) hX dX11_pieceAtRank_114 (by decide) rfl ?_
          refine v_iinc (w := nI (j + 1)) (pc := 115) hX dX11_pieceAtRank_115 rfl (nI_1 _) (by decide) rfl ?_
          refine v_goto (tgt := 22) (pc := 118) hX dX11_pieceAtRank_118 (by decide) ?_
          refine mV_sub (lv' := [(0, .ref r), (1, .int a), (2, .int (nI q)), (3, .int (s + 1)), (4, .int (nI ((j + 1))))]) ⟨rfl, rfl, rfl, rfl, rfl, trivial⟩ ?_
          exact ih (j + 1) q (s + 1)  hs hN hq (by omega) (by rw [X11_pieceAtRank_l2, if_pos c2, if_pos c3] at hk; exact hk)
        ·
          refine v_iload (pc := 97) hX dX11_pieceAtRank_97 rfl ?_
          refine v_if_ne (tgt := 112) (pc := 99) hX dX11_pieceAtRank_99 (by decide) (fun c4 => ?_) (fun c4 => ?_)
          ·
            refine v_iconst (v := 0) (pc := 112) hX dX11_pieceAtRank_112 (by decide) ?_
            refine v_iadd (pc := 113) hX dX11_pieceAtRank_113 ?_
            refine v_istore_n (pc := 114) hX dX11_pieceAtRank_114 (by decide) rfl ?_
            refine v_iinc (w := nI (j + 1)) (pc := 115) hX dX11_pieceAtRank_115 rfl (nI_1 _) (by decide) rfl ?_
            refine v_goto (tgt := 22) (pc := 118) hX dX11_pieceAtRank_118 (by decide) ?_
            refine mV_sub (lv' := [(0, .ref r), (1, .int a), (2, .int (nI q)), (3, .int (s + 0)), (4, .int (nI ((j + 1))))]) ⟨rfl, rfl, rfl, rfl, rfl, trivial⟩ ?_
            exact ih (j + 1) q (s + 0)  hs hN hq (by omega) (by rw [X11_pieceAtRank_l2, if_pos c2, if_neg c3, if_neg c4] at hk; exact hk)
          ·
            refine v_iload (pc := 102) hX dX11_pieceAtRank_102 rfl ?_
            refine v_iload_n (pc := 104) hX dX11_pieceAtRank_104 rfl ?_
            refine v_icmp_ge (tgt := 112) (pc := 105) hX dX11_pieceAtRank_105 (by decide) (fun c5 => ?_) (fun c5 => ?_)
            ·
              refine v_iconst (v := 0) (pc := 112) hX dX11_pieceAtRank_112 (by decide) ?_
              refine v_iadd (pc := 113) hX dX11_pieceAtRank_113 ?_
              refine v_istore_n (pc := 114) hX dX11_pieceAtRank_114 (by decide) rfl ?_
              refine v_iinc (w := nI (j + 1)) (pc := 115) hX dX11_pieceAtRank_115 rfl (nI_1 _) (by decide) rfl ?_
              refine v_goto (tgt := 22) (pc := 118) hX dX11_pieceAtRank_118 (by decide) ?_
              refine mV_sub (lv' := [(0, .ref r), (1, .int a), (2, .int (nI q)), (3, .int (s + 0)), (4, .int (nI ((j + 1))))]) ⟨rfl, rfl, rfl, rfl, rfl, trivial⟩ ?_
              exact ih (j + 1) q (s + 0)  hs hN hq (by omega) (by rw [X11_pieceAtRank_l2, if_pos c2, if_neg c3, if_pos c4, if_pos c5] at hk; exact hk)
            ·
              refine v_iconst (v := 1) (pc := 108) hX dX11_pieceAtRank_108 (by decide) ?_
              refine v_goto (tgt := 113) (pc := 109) hX dX11_pieceAtRank_109 (by decide) ?_
              refine v_iadd (pc := 113) hX dX11_pieceAtRank_113 ?_
              refine v_istore_n (pc := 114) hX dX11_pieceAtRank_114 (by decide) rfl ?_
              refine v_iinc (w := nI (j + 1)) (pc := 115) hX dX11_pieceAtRank_115 rfl (nI_1 _) (by decide) rfl ?_
              refine v_goto (tgt := 22) (pc := 118) hX dX11_pieceAtRank_118 (by decide) ?_
              refine mV_sub (lv' := [(0, .ref r), (1, .int a), (2, .int (nI q)), (3, .int (s + 1)), (4, .int (nI ((j + 1))))]) ⟨rfl, rfl, rfl, rfl, rfl, trivial⟩ ?_
              exact ih (j + 1) q (s + 1)  hs hN hq (by omega) (by rw [X11_pieceAtRank_l2, if_pos c2, if_neg c3, if_pos c4, if_neg c5] at hk; exact hk)
      ·
        refine v_iload (pc := 62) hX dX11_pieceAtRank_62 rfl ?_
        refine v_goto (tgt := 89) (pc := 64) hX dX11_pieceAtRank_64 (by decide) ?_
        refine v_istore (pc := 89) hX dX11_pieceAtRank_89 (by decide) rfl ?_
        refine v_iload_n (pc := 91) hX dX11_pieceAtRank_91 rfl ?_
        refine v_iload (pc := 92) hX dX11_pieceAtRank_92 rfl ?_
        refine v_if_gt (tgt := 108) (pc := 94) hX dX11_pieceAtRank_94 (by decide) (fun c6 => ?_) (fun c6 => ?_)
        ·
          refine v_iconst (v := 1) (pc := 108) hX dX11_pieceAtRank_108 (by decide) ?_
          refine v_goto (tgt := 113) (pc := 109) hX dX11_pieceAtRank_109 (by decide) ?_
          refine v_iadd (pc := 113) hX dX11_pieceAtRank_113 ?_
          refine v_istore_n (pc := 114) hX dX11_pieceAtRank_114 (by decide) rfl ?_
          refine v_iinc (w := nI (j + 1)) (pc := 115) hX dX11_pieceAtRank_115 rfl (nI_1 _) (by decide) rfl ?_
          refine v_goto (tgt := 22) (pc := 118) hX dX11_pieceAtRank_118 (by decide) ?_
          refine mV_sub (lv' := [(0, .ref r), (1, .int a), (2, .int (nI q)), (3, .int (s + 1)), (4, .int (nI ((j + 1))))]) ⟨rfl, rfl, rfl, rfl, rfl, trivial⟩ ?_
          exact ih (j + 1) q (s + 1)  hs hN hq (by omega) (by rw [X11_pieceAtRank_l2, if_neg c2, if_pos c6] at hk; exact hk)
        ·
          refine v_iload (pc := 97) hX dX11_pieceAtRank_97 rfl ?_
          refine v_if_ne (tgt := 112) (pc := 99) hX dX11_pieceAtRank_99 (by decide) (fun c7 => ?_) (fun c7 => ?_)
          ·
            refine v_iconst (v := 0) (pc := 112) hX dX11_pieceAtRank_112 (by decide) ?_
            refine v_iadd (pc := 113) hX dX11_pieceAtRank_113 ?_
            refine v_istore_n (pc := 114) hX dX11_pieceAtRank_114 (by decide) rfl ?_
            refine v_iinc (w := nI (j + 1)) (pc := 115) hX dX11_pieceAtRank_115 rfl (nI_1 _) (by decide) rfl ?_
            refine v_goto (tgt := 22) (pc := 118) hX dX11_pieceAtRank_118 (by decide) ?_
            refine mV_sub (lv' := [(0, .ref r), (1, .int a), (2, .int (nI q)), (3, .int (s + 0)), (4, .int (nI ((j + 1))))]) ⟨rfl, rfl, rfl, rfl, rfl, trivial⟩ ?_
            exact ih (j + 1) q (s + 0)  hs hN hq (by omega) (by rw [X11_pieceAtRank_l2, if_neg c2, if_neg c6, if_neg c7] at hk; exact hk)
          ·
            refine v_iload (pc := 102) hX dX11_pieceAtRank_102 rfl ?_
            refine v_iload_n (pc := 104) hX dX11_pieceAtRank_104 rfl ?_
            refine v_icmp_ge (tgt := 112) (pc := 105) hX dX11_pieceAtRank_105 (by decide) (fun c8 => ?_) (fun c8 => ?_)
            ·
              refine v_iconst (v := 0) (pc := 112) hX dX11_pieceAtRank_112 (by decide) ?_
              refine v_iadd (pc := 113) hX dX11_pieceAtRank_113 ?_
              refine v_istore_n (pc := 114) hX dX11_pieceAtRank_114 (by decide) rfl ?_
              refine v_iinc (w := nI (j + 1)) (pc := 115) hX dX11_pieceAtRank_115 rfl (nI_1 _) (by decide) rfl ?_
              refine v_goto (tgt := 22) (pc := 118) hX dX11_pieceAtRank_118 (by decide) ?_
              refine mV_sub (lv' := [(0, .ref r), (1, .int a), (2, .int (nI q)), (3, .int (s + 0)), (4, .int (nI ((j + 1))))]) ⟨rfl, rfl, rfl, rfl, rfl, trivial⟩ ?_
              exact ih (j + 1) q (s + 0)  hs hN hq (by omega) (by rw [X11_pieceAtRank_l2, if_neg c2, if_neg c6, if_pos c7, if_pos c8] at hk; exact hk)
            ·
              refine v_iconst (v := 1) (pc := 108) hX dX11_pieceAtRank_108 (by decide) ?_
              refine v_goto (tgt := 113) (pc := 109) hX dX11_pieceAtRank_109 (by decide) ?_
              refine v_iadd (pc := 113) hX dX11_pieceAtRank_113 ?_
              refine v_istore_n (pc := 114) hX dX11_pieceAtRank_114 (by decide) rfl ?_
              refine v_iinc (w := nI (j + 1)) (pc := 115) hX dX11_pieceAtRank_115 rfl (nI_1 _) (by decide) rfl ?_
              refine v_goto (tgt := 22) (pc := 118) hX dX11_pieceAtRank_118 (by decide) ?_
              refine mV_sub (lv' := [(0, .ref r), (1, .int a), (2, .int (nI q)), (3, .int (s + 1)), (4, .int (nI ((j + 1))))]) ⟨rfl, rfl, rfl, rfl, rfl, trivial⟩ ?_
              exact ih (j + 1) q (s + 1)  hs hN hq (by omega) (by rw [X11_pieceAtRank_l2, if_neg c2, if_neg c6, if_pos c7, if_neg c8] at hk; exact hk)
def X11_pieceAtRank_l1 (g : mG) (r : Nat) (a : Int32) (N : Nat) : Nat → Nat → mM → Int32 × mM
  | 0, j, m => (0, (sI m 384 r 1))
  | n + 1, j, m => if (X11_pieceAtRank_l2a0 g m r a N j 0) = a then ((gA m (r + 1) (8 * j + 13), m)) else (X11_pieceAtRank_l1 g r a N n (j + 1)  m)
set_option maxHeartbeats 4000000 in
set_option maxRecDepth 100000 in
theorem lp_X11_pieceAtRank_l1 {l : Launch} {g : mG} {x : mCx} (hO : mO l g) (r : Nat) (a : Int32) (N : Nat) (hN8 : N ≤ 8) {pst : Option Value → mM → Prop} {XX : String → mM → Prop} (hX : mX l g x cX11_pieceAtRank yX11_pieceAtRank { frames := 2, cells := 0, slots := 0, locals := 41 } 6) (hZ : mZ g x (Option.some FieldType.int) [] pst XX 0 0) : ∀ (n j : Nat)  (m : mM) (hs : SR m r) (hN : gA m (r + 1) 5 = nI N) (hj : j + n = N) (hp : pst (some (.int ((X11_pieceAtRank_l1 g r a N n j  m).1))) ((X11_pieceAtRank_l1 g r a N n j  m).2)), mV g x m 0 0 7 [(0, .ref r), (1, .int a), (2, .int (nI j))] [] := by
  intro n
  induction n with
  | zero =>
    intro j  m hs hN hj hp
    refine v_iload_n (pc := 7) hX dX11_pieceAtRank_7 rfl ?_
    refine v_aload_n (pc := 8) hX dX11_pieceAtRank_8 rfl ?_
    refine v_get (v := .ref (r + 1)) (pc := 9) hX dX11_pieceAtRank_9 hs.k (ci := 12) (r := vwC12) rfl 5 (by decide) wd_1511 (fvA rfl hs.r1) ?_
    refine v_iconst (v := 5) (pc := 12) hX dX11_pieceAtRank_12 (by decide) ?_
    refine v_iald (j := 5) (v := (nI N)) (pc := 13) hX dX11_pieceAtRank_13 hs.k1 rfl (by decide) (by decide) ((rfl).trans hN) ?_
    refine v_icmp_ge (tgt := 143) (pc := 14) hX dX11_pieceAtRank_14 (by decide) (fun c1 => ?_) (fun c1 => ?_)
    ·
      refine v_aload_n (pc := 143) hX dX11_pieceAtRank_143 rfl ?_
      refine v_iconst (v := 1) (pc := 144) hX dX11_pieceAtRank_144 (by decide) ?_
      refine v_callV (z := yX11_fail) (pc := 145) hX dX11_pieceAtRank_145 (c_fail2 hO m r 1 hs) hs.k rfl wd_1595 wd_1597 wp_19 wd_16 wd_1598 ⟨by decide, by decide, (by decide +kernel : (parseMethodDescriptor yX11_fail.desc).map (fun d => d.parameters.length) = some 1)⟩ rfl (Nat.le_of_ble_eq_true rfl) ⟨⟨by decide, by decide⟩, by decide, by decide⟩ (fun E m9 h9 => h9.elim) (fun r9 m9 h9 => ?_)
      obtain ⟨rfl, h8⟩ := h9
      replace h8 := h8.symm
      subst h8
      show mV g x _ _ _ _ _ [.int 0]
      exact v_iret (pc := 148) hX hZ dX11_pieceAtRank_148 (by decide) (by decide) (by rw [X11_pieceAtRank_l1] at hp; exact hp)
    · exact absurd (nI_le (by omega) (by omega)) c1
  | succ n ih =>
    intro j  m hs hN hj hp
    refine v_iload_n (pc := 7) hX dX11_pieceAtRank_7 rfl ?_
    refine v_aload_n (pc := 8) hX dX11_pieceAtRank_8 rfl ?_
    refine v_get (v := .ref (r + 1)) (pc := 9) hX dX11_pieceAtRank_9 hs.k (ci := 12) (r := vwC12) rfl 5 (by decide) wd_1511 (fvA rfl hs.r1) ?_
    refine v_iconst (v := 5) (pc := 12) hX dX11_pieceAtRank_12 (by decide) ?_
    refine v_iald (j := 5) (v := (nI N)) (pc := 13) hX dX11_pieceAtRank_13 hs.k1 rfl (by decide) (by decide) ((rfl).trans hN) ?_
    refine v_icmp_ge (tgt := 143) (pc := 14) hX dX11_pieceAtRank_14 (by decide) (fun c1 => ?_) (fun c1 => ?_)
    · exact absurd c1 (nI_ge (by omega) (by omega))
    ·
      refine v_iconst (v := 0) (pc := 17) hX dX11_pieceAtRank_17 (by decide) ?_
      refine v_istore_n (pc := 18) hX dX11_pieceAtRank_18 (by decide) rfl ?_
      refine v_iconst (v := 0) (pc := 19) hX dX11_pieceAtRank_19 (by decide) ?_
      refine v_istore (pc := 20) hX dX11_pieceAtRank_20 (by decide) rfl ?_
      refine mV_sub (lv' := [(0, .ref r), (1, .int a), (2, .int (nI j)), (3, .int 0), (4, .int (nI 0))]) ⟨rfl, rfl, rfl, rfl, rfl, trivial⟩ ?_
      refine lpc_X11_pieceAtRank_l2 hO r a N hN8 hX hZ N 0 j 0  hs hN (by omega) (by omega) ?_
      show mV g x m _ _ _ [(0, .ref r), (1, .int a), (2, .int (nI j)), (3, .int (X11_pieceAtRank_l2a0 g m r a N j 0))] []
      refine v_iload_n (pc := 121) hX dX11_pieceAtRank_121 rfl ?_
      refine v_iload_n (pc := 122) hX dX11_pieceAtRank_122 rfl ?_
      refine v_icmp_ne (tgt := 137) (pc := 123) hX dX11_pieceAtRank_123 (by decide) (fun c2 => ?_) (fun c2 => ?_)
      ·
        refine v_iinc (w := nI (j + 1)) (pc := 137) hX dX11_pieceAtRank_137 rfl (nI_1 _) (by decide) rfl ?_
        refine v_goto (tgt := 7) (pc := 140) hX dX11_pieceAtRank_140 (by decide) ?_
        refine mV_sub (lv' := [(0, .ref r), (1, .int a), (2, .int (nI (j + 1)))]) ⟨rfl, rfl, rfl, trivial⟩ ?_
        exact ih (j + 1)  m hs hN (by omega) (by rw [X11_pieceAtRank_l1, if_neg c2] at hp; exact hp)
      ·
        refine v_aload_n (pc := 126) hX dX11_pieceAtRank_126 rfl ?_
        refine v_get (v := .ref (r + 1)) (pc := 127) hX dX11_pieceAtRank_127 hs.k (ci := 12) (r := vwC12) rfl 5 (by decide) wd_1511 (fvA rfl hs.r1) ?_
        refine v_iload_n (pc := 130) hX dX11_pieceAtRank_130 rfl ?_
        refine v_iconst (v := 0) (pc := 131) hX dX11_pieceAtRank_131 (by decide) ?_
        refine v_callS (z := yX11_of) (pc := 132) hX dX11_pieceAtRank_132 (c_of2 hO m (nI j) j 0 rfl) wd_1626 wd_1627 wd_16 wd_1628 ⟨by decide, by decide, (by decide +kernel : (parseMethodDescriptor yX11_of.desc).map (fun d => d.parameters.length) = some 2)⟩ rfl (Nat.le_of_ble_eq_true rfl) ⟨⟨by decide, by decide⟩, by decide, by decide⟩ (fun E m9 h9 => h9.elim) (fun r9 m9 h9 => ?_)
        obtain ⟨rfl, h8⟩ := h9
        replace h8 := h8.symm
        subst h8
        show mV g x _ _ _ _ _ [.int (nI (8 * j + 13)), .ref (r + 1)]
        refine v_iald (j := 8 * j + 13) (v := (gA m (r + 1) (8 * j + 13))) (pc := 135) hX dX11_pieceAtRank_135 hs.k1 rfl (by omega) (by decide) rfl ?_
        exact v_iret (pc := 136) hX hZ dX11_pieceAtRank_136 (by decide) (by decide) (by rw [X11_pieceAtRank_l1, if_pos c2] at hp; exact hp)
theorem kK_X11_pieceAtRank_l1 (g : mG) (r : Nat) (a : Int32) (N : Nat) : ∀ (n j : Nat)  (m : mM), gK ((X11_pieceAtRank_l1 g r a N n j  m).2) = gK m := by
  intro n
  induction n with
  | zero =>
    intro j  m
    rw [X11_pieceAtRank_l1]
    repeat' split
    all_goals simp only [mm]
  | succ n ih =>
    intro j  m
    rw [X11_pieceAtRank_l1]
    repeat' split
    all_goals simp only [mm, ih]
theorem kN_X11_pieceAtRank_l1 (g : mG) (r : Nat) (a : Int32) (N : Nat) : ∀ (n j : Nat)  (m : mM), gN ((X11_pieceAtRank_l1 g r a N n j  m).2) = gN m := by
  intro n
  induction n with
  | zero =>
    intro j  m
    rw [X11_pieceAtRank_l1]
    repeat' split
    all_goals simp only [mm]
  | succ n ih =>
    intro j  m
    rw [X11_pieceAtRank_l1]
    repeat' split
    all_goals simp only [mm, ih]
theorem kI_X11_pieceAtRank_l1 (g : mG) (r : Nat) (a : Int32) (N : Nat) (k a9 : Nat) (h0 : k ≠ 384) : ∀ (n j : Nat)  (m : mM), gI ((X11_pieceAtRank_l1 g r a N n j  m).2) k a9 = gI m k a9 := by
  intro n
  induction n with
  | zero =>
    intro j  m
    rw [X11_pieceAtRank_l1]
    repeat' split
    all_goals simp [mm, h0]
  | succ n ih =>
    intro j  m
    rw [X11_pieceAtRank_l1]
    repeat' split
    all_goals simp [mm, ih, h0]
theorem kJ_X11_pieceAtRank_l1 (g : mG) (r : Nat) (a : Int32) (N : Nat) : ∀ (n j : Nat)  (m : mM), gJ ((X11_pieceAtRank_l1 g r a N n j  m).2) = gJ m := by
  intro n
  induction n with
  | zero =>
    intro j  m
    rw [X11_pieceAtRank_l1]
    repeat' split
    all_goals simp only [mm]
  | succ n ih =>
    intro j  m
    rw [X11_pieceAtRank_l1]
    repeat' split
    all_goals simp only [mm, ih]
theorem kR_X11_pieceAtRank_l1 (g : mG) (r : Nat) (a : Int32) (N : Nat) : ∀ (n j : Nat)  (m : mM), gR ((X11_pieceAtRank_l1 g r a N n j  m).2) = gR m := by
  intro n
  induction n with
  | zero =>
    intro j  m
    rw [X11_pieceAtRank_l1]
    repeat' split
    all_goals simp only [mm]
  | succ n ih =>
    intro j  m
    rw [X11_pieceAtRank_l1]
    repeat' split
    all_goals simp only [mm, ih]
theorem kA_X11_pieceAtRank_l1 (g : mG) (r : Nat) (a : Int32) (N : Nat) : ∀ (n j : Nat)  (m : mM), gA ((X11_pieceAtRank_l1 g r a N n j  m).2) = gA m := by
  intro n
  induction n with
  | zero =>
    intro j  m
    rw [X11_pieceAtRank_l1]
    repeat' split
    all_goals simp only [mm]
  | succ n ih =>
    intro j  m
    rw [X11_pieceAtRank_l1]
    repeat' split
    all_goals simp only [mm, ih]
theorem kQ_X11_pieceAtRank_l1 (g : mG) (r : Nat) (a : Int32) (N : Nat) : ∀ (n j : Nat)  (m : mM), gQ ((X11_pieceAtRank_l1 g r a N n j  m).2) = gQ m := by
  intro n
  induction n with
  | zero =>
    intro j  m
    rw [X11_pieceAtRank_l1]
    repeat' split
    all_goals simp only [mm]
  | succ n ih =>
    intro j  m
    rw [X11_pieceAtRank_l1]
    repeat' split
    all_goals simp only [mm, ih]
theorem kL_X11_pieceAtRank_l1 (g : mG) (r : Nat) (a : Int32) (N : Nat) : ∀ (n j : Nat)  (m : mM), gL ((X11_pieceAtRank_l1 g r a N n j  m).2) = gL m := by
  intro n
  induction n with
  | zero =>
    intro j  m
    rw [X11_pieceAtRank_l1]
    repeat' split
    all_goals simp only [mm]
  | succ n ih =>
    intro j  m
    rw [X11_pieceAtRank_l1]
    repeat' split
    all_goals simp only [mm, ih]
theorem kD_X11_pieceAtRank_l1 (g : mG) (r : Nat) (a : Int32) (N : Nat) : ∀ (n j : Nat)  (m : mM), gD ((X11_pieceAtRank_l1 g r a N n j  m).2) = gD m := by
  intro n
  induction n with
  | zero =>
    intro j  m
    rw [X11_pieceAtRank_l1]
    repeat' split
    all_goals simp only [mm]
  | succ n ih =>
    intro j  m
    rw [X11_pieceAtRank_l1]
    repeat' split
    all_goals simp only [mm, ih]
def X11_pieceAtRank_r (g : mG) (m : mM) (r : Nat) (a : Int32) (N : Nat) : Int32 := (X11_pieceAtRank_l1 g r a N N 0  ((sI m 384 r 0))).1
def X11_pieceAtRank_m (g : mG) (m : mM) (r : Nat) (a : Int32) (N : Nat) : mM := (X11_pieceAtRank_l1 g r a N N 0  ((sI m 384 r 0))).2
theorem kK_X11_pieceAtRank (g : mG) (m : mM) (r : Nat) (a : Int32) (N : Nat) : gK (X11_pieceAtRank_m g m r a N) = gK m := by
  unfold X11_pieceAtRank_m
  repeat' split
  all_goals simp only [mm, kK_X11_pieceAtRank_l1]
theorem kN_X11_pieceAtRank (g : mG) (m : mM) (r : Nat) (a : Int32) (N : Nat) : gN (X11_pieceAtRank_m g m r a N) = gN m := by
  unfold X11_pieceAtRank_m
  repeat' split
  all_goals simp only [mm, kN_X11_pieceAtRank_l1]
theorem kI_X11_pieceAtRank (g : mG) (m : mM) (r : Nat) (a : Int32) (N : Nat) (k a9 : Nat) (h0 : k ≠ 384) : gI (X11_pieceAtRank_m g m r a N) k a9 = gI m k a9 := by
  unfold X11_pieceAtRank_m
  repeat' split
  all_goals simp [mm, kI_X11_pieceAtRank_l1, h0]
theorem kJ_X11_pieceAtRank (g : mG) (m : mM) (r : Nat) (a : Int32) (N : Nat) : gJ (X11_pieceAtRank_m g m r a N) = gJ m := by
  unfold X11_pieceAtRank_m
  repeat' split
  all_goals simp only [mm, kJ_X11_pieceAtRank_l1]
theorem kR_X11_pieceAtRank (g : mG) (m : mM) (r : Nat) (a : Int32) (N : Nat) : gR (X11_pieceAtRank_m g m r a N) = gR m := by
  unfold X11_pieceAtRank_m
  repeat' split
  all_goals simp only [mm, kR_X11_pieceAtRank_l1]
theorem kA_X11_pieceAtRank (g : mG) (m : mM) (r : Nat) (a : Int32) (N : Nat) : gA (X11_pieceAtRank_m g m r a N) = gA m := by
  unfold X11_pieceAtRank_m
  repeat' split
  all_goals simp only [mm, kA_X11_pieceAtRank_l1]
theorem kQ_X11_pieceAtRank (g : mG) (m : mM) (r : Nat) (a : Int32) (N : Nat) : gQ (X11_pieceAtRank_m g m r a N) = gQ m := by
  unfold X11_pieceAtRank_m
  repeat' split
  all_goals simp only [mm, kQ_X11_pieceAtRank_l1]
theorem kL_X11_pieceAtRank (g : mG) (m : mM) (r : Nat) (a : Int32) (N : Nat) : gL (X11_pieceAtRank_m g m r a N) = gL m := by
  unfold X11_pieceAtRank_m
  repeat' split
  all_goals simp only [mm, kL_X11_pieceAtRank_l1]
theorem kD_X11_pieceAtRank (g : mG) (m : mM) (r : Nat) (a : Int32) (N : Nat) : gD (X11_pieceAtRank_m g m r a N) = gD m := by
  unfold X11_pieceAtRank_m
  repeat' split
  all_goals simp only [mm, kD_X11_pieceAtRank_l1]
set_option maxHeartbeats 4000000 in
set_option maxRecDepth 100000 in
theorem c_X11_pieceAtRank {l : Launch} {g : mG} (hO : mO l g) (m : mM) (r : Nat) (a : Int32) (N : Nat) (hs : SR m r) (hN : gA m (r + 1) 5 = nI N) (hN8 : N ≤ 8) : mT l g yX11_pieceAtRank (.code yX11_pieceAtRank cX11_pieceAtRank 6 (Option.some FieldType.int)) 2 41 0 0 [.ref r, .int a] m (fun u m' => u = some (.int (X11_pieceAtRank_r g m r a N)) ∧ m' = X11_pieceAtRank_m g m r a N) nX := by
  refine mT_of hO (by decide) (Nat.le_of_ble_eq_true rfl) (fun x hX hZ => ?_)
  show mV g x m 0 0 0 [(0, .ref r), (1, .int a)] []
  refine v_aload_n (pc := 0) hX dX11_pieceAtRank_0 rfl ?_
  refine v_iconst (v := 0) (pc := 1) hX dX11_pieceAtRank_1 (by decide) ?_
  refine v_put (m1 := (sI m 384 r 0)) (pc := 2) hX dX11_pieceAtRank_2 hs.k (ci := 12) (r := vwC12) rfl 0 (by decide) wd_1506 rfl rfl rfl rfl ?_
  refine v_iconst (v := 0) (pc := 5) hX dX11_pieceAtRank_5 (by decide) ?_
  refine v_istore_n (pc := 6) hX dX11_pieceAtRank_6 (by decide) rfl ?_
  refine mV_sub (lv' := [(0, .ref r), (1, .int a), (2, .int (nI 0))]) ⟨rfl, rfl, rfl, trivial⟩ ?_
  exact lp_X11_pieceAtRank_l1 hO r a N hN8 hX hZ N 0  ((sI m 384 r 0)) (hs.to (by simp only [mm]) (by simp only [mm])) (rfl.trans hN) (by omega) ⟨(by rw [X11_pieceAtRank_r]), (by rw [X11_pieceAtRank_m])⟩
def X11_heaviestHammer_l1 (g : mG) (r : Nat) (H : Nat) : Nat → Nat → Int32 → mM → Int32 × mM
  | 0, j, s, m => if 0 ≤ s then ((s, (sI m 384 r 0))) else ((0, (sI m 384 r 1)))
  | n + 1, j, s, m => if (X11_worn_r g m r (nI j) ) = 20 then (X11_heaviestHammer_l1 g r H n (j + 1) s m) else (if s < 0 then (X11_heaviestHammer_l1 g r H n (j + 1) (nI j) m) else (if (X11_weighs_r g m r s ) < (X11_weighs_r g m r (nI j) ) then (X11_heaviestHammer_l1 g r H n (j + 1) (nI j) m) else (if (X11_weighs_r g m r (nI j) ) = (X11_weighs_r g m r s ) then (if (X11_worn_r g m r s ) ≤ (X11_worn_r g m r (nI j) ) then (X11_heaviestHammer_l1 g r H n (j + 1) s m) else (X11_heaviestHammer_l1 g r H n (j + 1) (nI j) m)) else (X11_heaviestHammer_l1 g r H n (j + 1) s m))))
set_option maxHeartbeats 4000000 in
set_option maxRecDepth 100000 in
theorem lp_X11_heaviestHammer_l1 {l : Launch} {g : mG} {x : mCx} (hO : mO l g) (r : Nat) (H : Nat) (hH4 : H ≤ 4) {pst : Option Value → mM → Prop} {XX : String → mM → Prop} (hX : mX l g x cX11_heaviestHammer yX11_heaviestHammer { frames := 2, cells := 0, slots := 0, locals := 41 } 3) (hZ : mZ g x (Option.some FieldType.int) [] pst XX 0 0) : ∀ (n j : Nat) (s : Int32) (m : mM) (hs : SR m r) (hH : gA m (r + 1) 6 = nI H) (hsb : ¬ s < 0 → okI s 3) (hj : j + n = H) (hp : pst (some (.int ((X11_heaviestHammer_l1 g r H n j s m).1))) ((X11_heaviestHammer_l1 g r H n j s m).2)), mV g x m 0 0 4 [(0, .ref r), (1, .int s), (2, .int (nI j))] [] := by
  intro n
  induction n with
  | zero =>
    intro j s m hs hH hsb hj hp
    refine v_iload_n (pc := 4) hX dX11_heaviestHammer_4 rfl ?_
    refine v_aload_n (pc := 5) hX dX11_heaviestHammer_5 rfl ?_
    refine v_get (v := .ref (r + 1)) (pc := 6) hX dX11_heaviestHammer_6 hs.k (ci := 12) (r := vwC12) rfl 5 (by decide) wd_1511 (fvA rfl hs.r1) ?_
    refine v_bipush (v := 6) (pc := 9) hX dX11_heaviestHammer_9 (by decide) ?_
    refine v_iald (j := 6) (v := (nI H)) (pc := 11) hX dX11_heaviestHammer_11 hs.k1 rfl (by decide) (by decide) ((rfl).trans hH) ?_
    refine v_icmp_ge (tgt := 79) (pc := 12) hX dX11_heaviestHammer_12 (by decide) (fun c1 => ?_) (fun c1 => ?_)
    ·
      refine v_aload_n (pc := 79) hX dX11_heaviestHammer_79 rfl ?_
      refine v_iload_n (pc := 80) hX dX11_heaviestHammer_80 rfl ?_
      refine v_if_ge (tgt := 88) (pc := 81) hX dX11_heaviestHammer_81 (by decide) (fun c2 => ?_) (fun c2 => ?_)
      ·
        refine v_iconst (v := 0) (pc := 88) hX dX11_heaviestHammer_88 (by decide) ?_
        refine v_put (m1 := (sI m 384 r 0)) (pc := 89) hX dX11_heaviestHammer_89 hs.k (ci := 12) (r := vwC12) rfl 0 (by decide) wd_1506 rfl rfl rfl rfl ?_
        refine v_aload_n (pc := 92) hX dX11_heaviestHammer_92 rfl ?_
        refine v_get (v := .int 0) (pc := 93) hX dX11_heaviestHammer_93 (by simp only [mm]; exact hs.k) (ci := 12) (r := vwC12) rfl 0 (by decide) wd_1506 (by show Value.int _ = Value.int _; simp [mm]) ?_
        refine v_if_ne (tgt := 103) (pc := 96) hX dX11_heaviestHammer_96 (by decide) (fun c3 => ?_) (fun c3 => ?_)
        · exact absurd (by decide) c3
        ·
          refine v_iload_n (pc := 99) hX dX11_heaviestHammer_99 rfl ?_
          refine v_goto (tgt := 104) (pc := 100) hX dX11_heaviestHammer_100 (by decide) ?_
          exact v_iret (pc := 104) hX hZ dX11_heaviestHammer_104 (by decide) (by decide) (by rw [X11_heaviestHammer_l1, if_pos c2] at hp; exact hp)
      ·
        refine v_iconst (v := 1) (pc := 84) hX dX11_heaviestHammer_84 (by decide) ?_
        refine v_goto (tgt := 89) (pc := 85) hX dX11_heaviestHammer_85 (by decide) ?_
        refine v_put (m1 := (sI m 384 r 1)) (pc := 89) hX dX11_heaviestHammer_89 hs.k (ci := 12) (r := vwC12) rfl 0 (by decide) wd_1506 rfl rfl rfl rfl ?_
        refine v_aload_n (pc := 92) hX dX11_heaviestHammer_92 rfl ?_
        refine v_get (v := .int 1) (pc := 93) hX dX11_heaviestHammer_93 (by simp only [mm]; exact hs.k) (ci := 12) (r := vwC12) rfl 0 (by decide) wd_1506 (by show Value.int _ = Value.int _; simp [mm]) ?_
        refine v_if_ne (tgt := 103) (pc := 96) hX dX11_heaviestHammer_96 (by decide) (fun c4 => ?_) (fun c4 => ?_)
        ·
          refine v_iconst (v := 0) (pc := 103) hX dX11_heaviestHammer_103 (by decide) ?_
          exact v_iret (pc := 104) hX hZ dX11_heaviestHammer_104 (by decide) (by decide) (by rw [X11_heaviestHammer_l1, if_neg c2] at hp; exact hp)
        · exact absurd c4 (by decide)
    · exact absurd (nI_le (by omega) (by omega)) c1
  | succ n ih =>
    intro j s m hs hH hsb hj hp
    refine v_iload_n (pc := 4) hX dX11_heaviestHammer_4 rfl ?_
    refine v_aload_n (pc := 5) hX dX11_heaviestHammer_5 rfl ?_
    refine v_get (v := .ref (r + 1)) (pc := 6) hX dX11_heaviestHammer_6 hs.k (ci := 12) (r := vwC12) rfl 5 (by decide) wd_1511 (fvA rfl hs.r1) ?_
    refine v_bipush (v := 6) (pc := 9) hX dX11_heaviestHammer_9 (by decide) ?_
    refine v_iald (j := 6) (v := (nI H)) (pc := 11) hX dX11_heaviestHammer_11 hs.k1 rfl (by decide) (by decide) ((rfl).trans hH) ?_
    refine v_icmp_ge (tgt := 79) (pc := 12) hX dX11_heaviestHammer_12 (by decide) (fun c1 => ?_) (fun c1 => ?_)
    · exact absurd c1 (nI_ge (by omega) (by omega))
    ·
      refine v_aload_n (pc := 15) hX dX11_heaviestHammer_15 rfl ?_
      refine v_iload_n (pc := 16) hX dX11_heaviestHammer_16 rfl ?_
      refine v_callV (z := yX11_worn) (pc := 17) hX dX11_heaviestHammer_17 (c_X11_worn hO m r (nI j)  hs (okI_nI (by omega) (by decide))) hs.k rfl wd_1684 wd_1686 wp_32 wd_16 wd_1687 ⟨by decide, by decide, (by decide +kernel : (parseMethodDescriptor yX11_worn.desc).map (fun d => d.parameters.length) = some 1)⟩ rfl (Nat.le_of_ble_eq_true rfl) ⟨⟨by decide, by decide⟩, by decide, by decide⟩ (fun E m9 h9 => h9.elim) (fun r9 m9 h9 => ?_)
      obtain ⟨rfl, h8⟩ := h9
      replace h8 := h8.symm
      subst h8
      show mV g x _ _ _ _ _ [.int (X11_worn_r g m r (nI j) )]
      refine v_bipush (v := 20) (pc := 20) hX dX11_heaviestHammer_20 (by decide) ?_
      refine v_icmp_ne (tgt := 28) (pc := 22) hX dX11_heaviestHammer_22 (by decide) (fun c2 => ?_) (fun c2 => ?_)
      ·
        refine v_iload_n (pc := 28) hX dX11_heaviestHammer_28 rfl ?_
        refine v_if_lt (tgt := 71) (pc := 29) hX dX11_heaviestHammer_29 (by decide) (fun c3 => ?_) (fun c3 => ?_)
        ·
          refine v_iload_n (pc := 71) hX dX11_heaviestHammer_71 rfl ?_
          refine v_istore_n (pc := 72) hX dX11_heaviestHammer_72 (by decide) rfl ?_
          refine v_iinc (w := nI (j + 1)) (pc := 73) hX dX11_heaviestHammer_73 rfl (nI_1 _) (by decide) rfl ?_
          refine v_goto (tgt := 4) (pc := 76) hX dX11_heaviestHammer_76 (by decide) ?_
          refine mV_sub (lv' := [(0, .ref r), (1, .int (nI j)), (2, .int (nI (j + 1)))]) ⟨rfl, rfl, rfl, trivial⟩ ?_
          exact ih (j + 1) (nI j) m hs hH (by first | exact hsb | exact fun _ => okI_nI (by omega) (by decide)) (by omega) (by rw [X11_heaviestHammer_l1, if_neg c2, if_pos c3] at hp; exact hp)
        ·
          refine v_aload_n (pc := 32) hX dX11_heaviestHammer_32 rfl ?_
          refine v_iload_n (pc := 33) hX dX11_heaviestHammer_33 rfl ?_
          refine v_callV (z := yX11_weighs) (pc := 34) hX dX11_heaviestHammer_34 (c_X11_weighs hO m r (nI j)  hs (okI_nI (by omega) (by decide))) hs.k rfl wd_1692 wd_1694 wp_34 wd_16 wd_1695 ⟨by decide, by decide, (by decide +kernel : (parseMethodDescriptor yX11_weighs.desc).map (fun d => d.parameters.length) = some 1)⟩ rfl (Nat.le_of_ble_eq_true rfl) ⟨⟨by decide, by decide⟩, by decide, by decide⟩ (fun E m9 h9 => h9.elim) (fun r9 m9 h9 => ?_)
          obtain ⟨rfl, h8⟩ := h9
          replace h8 := h8.symm
          subst h8
          show mV g x _ _ _ _ _ [.int (X11_weighs_r g m r (nI j) )]
          refine v_aload_n (pc := 37) hX dX11_heaviestHammer_37 rfl ?_
          refine v_iload_n (pc := 38) hX dX11_heaviestHammer_38 rfl ?_
          refine v_callV (z := yX11_weighs) (pc := 39) hX dX11_heaviestHammer_39 (c_X11_weighs hO m r s  hs (hsb (by assumption))) hs.k rfl wd_1692 wd_1694 wp_34 wd_16 wd_1695 ⟨by decide, by decide, (by decide +kernel : (parseMethodDescriptor yX11_weighs.desc).map (fun d => d.parameters.length) = some 1)⟩ rfl (Nat.le_of_ble_eq_true rfl) ⟨⟨by decide, by decide⟩, by decide, by decide⟩ (fun E m9 h9 => h9.elim) (fun r9 m9 h9 => ?_)
          obtain ⟨rfl, h8⟩ := h9
          replace h8 := h8.symm
          subst h8
          show mV g x _ _ _ _ _ [.int (X11_weighs_r g m r s ), .int (X11_weighs_r g m r (nI j) )]
          refine v_icmp_gt (tgt := 71) (pc := 42) hX dX11_heaviestHammer_42 (by decide) (fun c4 => ?_) (fun c4 => ?_)
          ·
            refine v_iload_n (pc := 71) hX dX11_heaviestHammer_71 rfl ?_
            refine v_istore_n (pc := 72) hX dX11_heaviestHammer_72 (by decide) rfl ?_
            refine v_iinc (w := nI (j + 1)) (pc := 73) hX dX11_heaviestHammer_73 rfl (nI_1 _) (by decide) rfl ?_
            refine v_goto (tgt := 4) (pc := 76) hX dX11_heaviestHammer_76 (by decide) ?_
            refine mV_sub (lv' := [(0, .ref r), (1, .int (nI j)), (2, .int (nI (j + 1)))]) ⟨rfl, rfl, rfl, trivial⟩ ?_
            exact ih (j + 1) (nI j) m hs hH (by first | exact hsb | exact fun _ => okI_nI (by omega) (by decide)) (by omega) (by rw [X11_heaviestHammer_l1, if_neg c2, if_neg c3, if_pos c4] at hp; exact hp)
          ·
            refine v_aload_n (pc := 45) hX dX11_heaviestHammer_45 rfl ?_
            refine v_iload_n (pc := 46) hX dX11_heaviestHammer_46 rfl ?_
            refine v_callV (z := yX11_weighs) (pc := 47) hX dX11_heaviestHammer_47 (c_X11_weighs hO m r (nI j)  hs (okI_nI (by omega) (by decide))) hs.k rfl wd_1692 wd_1694 wp_34 wd_16 wd_1695 ⟨by decide, by decide, (by decide +kernel : (parseMethodDescriptor yX11_weighs.desc).map (fun d => d.parameters.length) = some 1)⟩ rfl (Nat.le_of_ble_eq_true rfl) ⟨⟨by decide, by decide⟩, by decide, by decide⟩ (fun E m9 h9 => h9.elim) (fun r9 m9 h9 => ?_)
            obtain ⟨rfl, h8⟩ := h9
            replace h8 := h8.symm
            subst h8
            show mV g x _ _ _ _ _ [.int (X11_weighs_r g m r (nI j) )]
            refine v_aload_n (pc := 50) hX dX11_heaviestHammer_50 rfl ?_
            refine v_iload_n (pc := 51) hX dX11_heaviestHammer_51 rfl ?_
            refine v_callV (z := yX11_weighs) (pc := 52) hX dX11_heaviestHammer_52 (c_X11_weighs hO m r s  hs (hsb (by assumption))) hs.k rfl wd_1692 wd_1694 wp_34 wd_16 wd_1695 ⟨by decide, by decide, (by decide +kernel : (parseMethodDescriptor yX11_weighs.desc).map (fun d => d.parameters.length) = some 1)⟩ rfl (Nat.le_of_ble_eq_true rfl) ⟨⟨by decide, by decide⟩, by decide, by decide⟩ (fun E m9 h9 => h9.elim) (fun r9 m9 h9 => ?_)
            obtain ⟨rfl, h8⟩ := h9
            replace h8 := h8.symm
            subst h8
            show mV g x _ _ _ _ _ [.int (X11_weighs_r g m r s ), .int (X11_weighs_r g m r (nI j) )]
            refine v_icmp_ne (tgt := 73) (pc := 55) hX dX11_heaviestHammer_55 (by decide) (fun c5 => ?_) (fun c5 => ?_)
            ·
              refine v_iinc (w := nI (j + 1)) (pc := 73) hX dX11_heaviestHammer_73 rfl (nI_1 _) (by decide) rfl ?_
              refine v_goto (tgt := 4) (pc := 76) hX dX11_heaviestHammer_76 (by decide) ?_
              refine mV_sub (lv' := [(0, .ref r), (1, .int s), (2, .int (nI (j + 1)))]) ⟨rfl, rfl, rfl, trivial⟩ ?_
              exact ih (j + 1) s m hs hH (by first | exact hsb | exact fun _ => okI_nI (by omega) (by decide)) (by omega) (by rw [X11_heaviestHammer_l1, if_neg c2, if_neg c3, if_neg c4, if_neg c5] at hp; exact hp)
            ·
              refine v_aload_n (pc := 58) hX dX11_heaviestHammer_58 rfl ?_
              refine v_iload_n (pc := 59) hX dX11_heaviestHammer_59 rfl ?_
              refine v_callV (z := yX11_worn) (pc := 60) hX dX11_heaviestHammer_60 (c_X11_worn hO m r (nI j)  hs (okI_nI (by omega) (by decide))) hs.k rfl wd_1684 wd_1686 wp_32 wd_16 wd_1687 ⟨by decide, by decide, (by decide +kernel : (parseMethodDescriptor yX11_worn.desc).map (fun d => d.parameters.length) = some 1)⟩ rfl (Nat.le_of_ble_eq_true rfl) ⟨⟨by decide, by decide⟩, by decide, by decide⟩ (fun E m9 h9 => h9.elim) (fun r9 m9 h9 => ?_)
              obtain ⟨rfl, h8⟩ := h9
              replace h8 := h8.symm
              subst h8
              show mV g x _ _ _ _ _ [.int (X11_worn_r g m r (nI j) )]
              refine v_aload_n (pc := 63) hX dX11_heaviestHammer_63 rfl ?_
              refine v_iload_n (pc := 64) hX dX11_heaviestHammer_64 rfl ?_
              refine v_callV (z := yX11_worn) (pc := 65) hX dX11_heaviestHammer_65 (c_X11_worn hO m r s  hs (hsb (by assumption))) hs.k rfl wd_1684 wd_1686 wp_32 wd_16 wd_1687 ⟨by decide, by decide, (by decide +kernel : (parseMethodDescriptor yX11_worn.desc).map (fun d => d.parameters.length) = some 1)⟩ rfl (Nat.le_of_ble_eq_true rfl) ⟨⟨by decide, by decide⟩, by decide, by decide⟩ (fun E m9 h9 => h9.elim) (fun r9 m9 h9 => ?_)
              obtain ⟨rfl, h8⟩ := h9
              replace h8 := h8.symm
              subst h8
              show mV g x _ _ _ _ _ [.int (X11_worn_r g m r s ), .int (X11_worn_r g m r (nI j) )]
              refine v_icmp_ge (tgt := 73) (pc := 68) hX dX11_heaviestHammer_68 (by decide) (fun c6 => ?_) (fun c6 => ?_)
              ·
                refine v_iinc (w := nI (j + 1)) (pc := 73) hX dX11_heaviestHammer_73 rfl (nI_1 _) (by decide) rfl ?_
                refine v_goto (tgt := 4) (pc := 76) hX dX11_heaviestHammer_76 (by decide) ?_
                refine mV_sub (lv' := [(0, .ref r), (1, .int s), (2, .int (nI (j + 1)))]) ⟨rfl, rfl, rfl, trivial⟩ ?_
                exact ih (j + 1) s m hs hH (by first | exact hsb | exact fun _ => okI_nI (by omega) (by decide)) (by omega) (by rw [X11_heaviestHammer_l1, if_neg c2, if_neg c3, if_neg c4, if_pos c5, if_pos c6] at hp; exact hp)
              ·
                refine v_iload_n (pc := 71) hX dX11_heaviestHammer_71 rfl ?_
                refine v_istore_n (pc := 72) hX dX11_heaviestHammer_72 (by decide) rfl ?_
                refine v_iinc (w := nI (j + 1)) (pc := 73) hX dX11_heaviestHammer_73 rfl (nI_1 _) (by decide) rfl ?_
                refine v_goto (tgt := 4) (pc := 76) hX dX11_heaviestHammer_76 (by decide) ?_
                refine mV_sub (lv' := [(0, .ref r), (1, .int (nI j)), (2, .int (nI (j + 1)))]) ⟨rfl, rfl, rfl, trivial⟩ ?_
                exact ih (j + 1) (nI j) m hs hH (by first | exact hsb | exact fun _ => okI_nI (by omega) (by decide)) (by omega) (by rw [X11_heaviestHammer_l1, if_neg c2, if_neg c3, if_neg c4, if_pos c5, if_neg c6] at hp; exact hp)
      ·
        refine v_goto (tgt := 73) (pc := 25) hX dX11_heaviestHammer_25 (by decide) ?_
        refine v_iinc (w := nI (j + 1)) (pc := 73) hX dX11_heaviestHammer_73 rfl (nI_1 _) (by decide) rfl ?_
        refine v_goto (tgt := 4) (pc := 76) hX dX11_heaviestHammer_76 (by decide) ?_
        refine mV_sub (lv' := [(0, .ref r), (1, .int s), (2, .int (nI (j + 1)))]) ⟨rfl, rfl, rfl, trivial⟩ ?_
        exact ih (j + 1) s m hs hH (by first | exact hsb | exact fun _ => okI_nI (by omega) (by decide)) (by omega) (by rw [X11_heaviestHammer_l1, if_pos c2] at hp; exact hp)
theorem kK_X11_heaviestHammer_l1 (g : mG) (r : Nat) (H : Nat) : ∀ (n j : Nat) (s : Int32) (m : mM), gK ((X11_heaviestHammer_l1 g r H n j s m).2) = gK m := by
  intro n
  induction n with
  | zero =>
    intro j s m
    rw [X11_heaviestHammer_l1]
    repeat' split
    all_goals simp only [mm]
  | succ n ih =>
    intro j s m
    rw [X11_heaviestHammer_l1]
    repeat' split
    all_goals simp only [mm, ih]
theorem kN_X11_heaviestHammer_l1 (g : mG) (r : Nat) (H : Nat) : ∀ (n j : Nat) (s : Int32) (m : mM), gN ((X11_heaviestHammer_l1 g r H n j s m).2) = gN m := by
  intro n
  induction n with
  | zero =>
    intro j s m
    rw [X11_heaviestHammer_l1]
    repeat' split
    all_goals simp only [mm]
  | succ n ih =>
    intro j s m
    rw [X11_heaviestHammer_l1]
    repeat' split
    all_goals simp only [mm, ih]
theorem kI_X11_heaviestHammer_l1 (g : mG) (r : Nat) (H : Nat) (k a9 : Nat) (h0 : k ≠ 384) : ∀ (n j : Nat) (s : Int32) (m : mM), gI ((X11_heaviestHammer_l1 g r H n j s m).2) k a9 = gI m k a9 := by
  intro n
  induction n with
  | zero =>
    intro j s m
    rw [X11_heaviestHammer_l1]
    repeat' split
    all_goals simp [mm, h0]
  | succ n ih =>
    intro j s m
    rw [X11_heaviestHammer_l1]
    repeat' split
    all_goals simp [mm, ih, h0]
theorem kJ_X11_heaviestHammer_l1 (g : mG) (r : Nat) (H : Nat) : ∀ (n j : Nat) (s : Int32) (m : mM), gJ ((X11_heaviestHammer_l1 g r H n j s m).2) = gJ m := by
  intro n
  induction n with
  | zero =>
    intro j s m
    rw [X11_heaviestHammer_l1]
    repeat' split
    all_goals simp only [mm]
  | succ n ih =>
    intro j s m
    rw [X11_heaviestHammer_l1]
    repeat' split
    all_goals simp only [mm, ih]
theorem kR_X11_heaviestHammer_l1 (g : mG) (r : Nat) (H : Nat) : ∀ (n j : Nat) (s : Int32) (m : mM), gR ((X11_heaviestHammer_l1 g r H n j s m).2) = gR m := by
  intro n
  induction n with
  | zero =>
    intro j s m
    rw [X11_heaviestHammer_l1]
    repeat' split
    all_goals simp only [mm]
  | succ n ih =>
    intro j s m
    rw [X11_heaviestHammer_l1]
    repeat' split
    all_goals simp only [mm, ih]
theorem kA_X11_heaviestHammer_l1 (g : mG) (r : Nat) (H : Nat) : ∀ (n j : Nat) (s : Int32) (m : mM), gA ((X11_heaviestHammer_l1 g r H n j s m).2) = gA m := by
  intro n
  induction n with
  | zero =>
    intro j s m
    rw [X11_heaviestHammer_l1]
    repeat' split
    all_goals simp only [mm]
  | succ n ih =>
    intro j s m
    rw [X11_heaviestHammer_l1]
    repeat' split
    all_goals simp only [mm, ih]
theorem kQ_X11_heaviestHammer_l1 (g : mG) (r : Nat) (H : Nat) : ∀ (n j : Nat) (s : Int32) (m : mM), gQ ((X11_heaviestHammer_l1 g r H n j s m).2) = gQ m := by
  intro n
  induction n with
  | zero =>
    intro j s m
    rw [X11_heaviestHammer_l1]
    repeat' split
    all_goals simp only [mm]
  | succ n ih =>
    intro j s m
    rw [X11_heaviestHammer_l1]
    repeat' split
    all_goals simp only [mm, ih]
theorem kL_X11_heaviestHammer_l1 (g : mG) (r : Nat) (H : Nat) : ∀ (n j : Nat) (s : Int32) (m : mM), gL ((X11_heaviestHammer_l1 g r H n j s m).2) = gL m := by
  intro n
  induction n with
  | zero =>
    intro j s m
    rw [X11_heaviestHammer_l1]
    repeat' split
    all_goals simp only [mm]
  | succ n ih =>
    intro j s m
    rw [X11_heaviestHammer_l1]
    repeat' split
    all_goals simp only [mm, ih]
theorem kD_X11_heaviestHammer_l1 (g : mG) (r : Nat) (H : Nat) : ∀ (n j : Nat) (s : Int32) (m : mM), gD ((X11_heaviestHammer_l1 g r H n j s m).2) = gD m := by
  intro n
  induction n with
  | zero =>
    intro j s m
    rw [X11_heaviestHammer_l1]
    repeat' split
    all_goals simp only [mm]
  | succ n ih =>
    intro j s m
    rw [X11_heaviestHammer_l1]
    repeat' split
    all_goals simp only [mm, ih]
def X11_heaviestHammer_r (g : mG) (m : mM) (r : Nat) (H : Nat) : Int32 := (X11_heaviestHammer_l1 g r H H 0 ((-1)) m).1
def X11_heaviestHammer_m (g : mG) (m : mM) (r : Nat) (H : Nat) : mM := (X11_heaviestHammer_l1 g r H H 0 ((-1)) m).2
theorem kK_X11_heaviestHammer (g : mG) (m : mM) (r : Nat) (H : Nat) : gK (X11_heaviestHammer_m g m r H) = gK m := by
  unfold X11_heaviestHammer_m
  repeat' split
  all_goals simp only [mm, kK_X11_heaviestHammer_l1]
theorem kN_X11_heaviestHammer (g : mG) (m : mM) (r : Nat) (H : Nat) : gN (X11_heaviestHammer_m g m r H) = gN m := by
  unfold X11_heaviestHammer_m
  repeat' split
  all_goals simp only [mm, kN_X11_heaviestHammer_l1]
theorem kI_X11_heaviestHammer (g : mG) (m : mM) (r : Nat) (H : Nat) (k a9 : Nat) (h0 : k ≠ 384) : gI (X11_heaviestHammer_m g m r H) k a9 = gI m k a9 := by
  unfold X11_heaviestHammer_m
  repeat' split
  all_goals simp [mm, kI_X11_heaviestHammer_l1, h0]
theorem kJ_X11_heaviestHammer (g : mG) (m : mM) (r : Nat) (H : Nat) : gJ (X11_heaviestHammer_m g m r H) = gJ m := by
  unfold X11_heaviestHammer_m
  repeat' split
  all_goals simp only [mm, kJ_X11_heaviestHammer_l1]
theorem kR_X11_heaviestHammer (g : mG) (m : mM) (r : Nat) (H : Nat) : gR (X11_heaviestHammer_m g m r H) = gR m := by
  unfold X11_heaviestHammer_m
  repeat' split
  all_goals simp only [mm, kR_X11_heaviestHammer_l1]
theorem kA_X11_heaviestHammer (g : mG) (m : mM) (r : Nat) (H : Nat) : gA (X11_heaviestHammer_m g m r H) = gA m := by
  unfold X11_heaviestHammer_m
  repeat' split
  all_goals simp only [mm, kA_X11_heaviestHammer_l1]
theorem kQ_X11_heaviestHammer (g : mG) (m : mM) (r : Nat) (H : Nat) : gQ (X11_heaviestHammer_m g m r H) = gQ m := by
  unfold X11_heaviestHammer_m
  repeat' split
  all_goals simp only [mm, kQ_X11_heaviestHammer_l1]
theorem kL_X11_heaviestHammer (g : mG) (m : mM) (r : Nat) (H : Nat) : gL (X11_heaviestHammer_m g m r H) = gL m := by
  unfold X11_heaviestHammer_m
  repeat' split
  all_goals simp only [mm, kL_X11_heaviestHammer_l1]
theorem kD_X11_heaviestHammer (g : mG) (m : mM) (r : Nat) (H : Nat) : gD (X11_heaviestHammer_m g m r H) = gD m := by
  unfold X11_heaviestHammer_m
  repeat' split
  all_goals simp only [mm, kD_X11_heaviestHammer_l1]
set_option maxHeartbeats 4000000 in
set_option maxRecDepth 100000 in
theorem c_X11_heaviestHammer {l : Launch} {g : mG} (hO : mO l g) (m : mM) (r : Nat) (H : Nat) (hs : SR m r) (hH : gA m (r + 1) 6 = nI H) (hH4 : H ≤ 4) : mT l g yX11_heaviestHammer (.code yX11_heaviestHammer cX11_heaviestHammer 3 (Option.some FieldType.int)) 2 41 0 0 [.ref r] m (fun u m' => u = some (.int (X11_heaviestHammer_r g m r H)) ∧ m' = X11_heaviestHammer_m g m r H) nX := by
  refine mT_of hO (by decide) (Nat.le_of_ble_eq_true rfl) (fun x hX hZ => ?_)
  show mV g x m 0 0 0 [(0, .ref r)] []
  refine v_iconst (v := (-1)) (pc := 0) hX dX11_heaviestHammer_0 (by decide) ?_
  refine v_istore_n (pc := 1) hX dX11_heaviestHammer_1 (by decide) rfl ?_
  refine v_iconst (v := 0) (pc := 2) hX dX11_heaviestHammer_2 (by decide) ?_
  refine v_istore_n (pc := 3) hX dX11_heaviestHammer_3 (by decide) rfl ?_
  refine mV_sub (lv' := [(0, .ref r), (1, .int ((-1))), (2, .int (nI 0))]) ⟨rfl, rfl, rfl, trivial⟩ ?_
  exact lp_X11_heaviestHammer_l1 hO r H hH4 hX hZ H 0 ((-1)) m hs hH (fun h => absurd (by decide) h) (by omega) ⟨(by rw [X11_heaviestHammer_r]), (by rw [X11_heaviestHammer_m])⟩
def X11_meanHardness_l1 (g : mG) (r : Nat) (N : Nat) : Nat → Nat → Int32 → mM → UInt64 × mM
  | 0, j, s, m => if (gI m 384 r) = 0 then ((FP.ddiv (FP.i2d s) (FP.i2d (nI N)), m)) else ((FP.dconst0, m))
  | n + 1, j, s, m => X11_meanHardness_l1 g r N n (j + 1) (s + (gA m (r + 1) (8 * j + 17))) m
set_option maxHeartbeats 4000000 in
set_option maxRecDepth 100000 in
theorem lp_X11_meanHardness_l1 {l : Launch} {g : mG} {x : mCx} (hO : mO l g) (r : Nat) (N : Nat) (hN8 : N ≤ 8) {pst : Option Value → mM → Prop} {XX : String → mM → Prop} (hX : mX l g x cX11_meanHardness yX11_meanHardness { frames := 2, cells := 0, slots := 0, locals := 41 } 3) (hZ : mZ g x (Option.some FieldType.double) [] pst XX 0 0) : ∀ (n j : Nat) (s : Int32) (m : mM) (hs : SR m r) (hN : gA m (r + 1) 5 = nI N) (hth : gI m 384 r = 0 → ¬ nI N = 0) (hj : j + n = N) (hp : pst (some (.double ((X11_meanHardness_l1 g r N n j s m).1))) ((X11_meanHardness_l1 g r N n j s m).2)), mV g x m 0 0 22 [(0, .ref r), (1, .int s), (2, .int (nI j))] [] := by
  intro n
  induction n with
  | zero =>
    intro j s m hs hN hth hj hp
    refine v_iload_n (pc := 22) hX dX11_meanHardness_22 rfl ?_
    refine v_aload_n (pc := 23) hX dX11_meanHardness_23 rfl ?_
    refine v_get (v := .ref (r + 1)) (pc := 24) hX dX11_meanHardness_24 hs.k (ci := 12) (r := vwC12) rfl 5 (by decide) wd_1511 (fvA rfl hs.r1) ?_
    refine v_iconst (v := 5) (pc := 27) hX dX11_meanHardness_27 (by decide) ?_
    refine v_iald (j := 5) (v := (nI N)) (pc := 28) hX dX11_meanHardness_28 hs.k1 rfl (by decide) (by decide) ((rfl).trans hN) ?_
    refine v_icmp_ge (tgt := 51) (pc := 29) hX dX11_meanHardness_29 (by decide) (fun c1 => ?_) (fun c1 => ?_)
    ·
      refine v_aload_n (pc := 51) hX dX11_meanHardness_51 rfl ?_
      refine v_get (v := .int (gI m 384 r)) (pc := 52) hX dX11_meanHardness_52 hs.k (ci := 12) (r := vwC12) rfl 0 (by decide) wd_1506 rfl ?_
      refine v_if_ne (tgt := 71) (pc := 55) hX dX11_meanHardness_55 (by decide) (fun c2 => ?_) (fun c2 => ?_)
      ·
        refine v_dconst0 (pc := 71) hX dX11_meanHardness_71 ?_
        exact v_dret (pc := 72) hX hZ dX11_meanHardness_72 (by decide) (by decide) (by rw [X11_meanHardness_l1, if_neg c2] at hp; exact hp)
      ·
        have hnz := hth (by assumption)
        refine v_iload_n (pc := 58) hX dX11_meanHardness_58 rfl ?_
        refine v_i2d (pc := 59) hX dX11_meanHardness_59 ?_
        refine v_aload_n (pc := 60) hX dX11_meanHardness_60 rfl ?_
        refine v_get (v := .ref (r + 1)) (pc := 61) hX dX11_meanHardness_61 hs.k (ci := 12) (r := vwC12) rfl 5 (by decide) wd_1511 (fvA rfl hs.r1) ?_
        refine v_iconst (v := 5) (pc := 64) hX dX11_meanHardness_64 (by decide) ?_
        refine v_iald (j := 5) (v := (nI N)) (pc := 65) hX dX11_meanHardness_65 hs.k1 rfl (by decide) (by decide) ((rfl).trans hN) ?_
        refine v_i2d (pc := 66) hX dX11_meanHardness_66 ?_
        refine v_ddiv (pc := 67) hX dX11_meanHardness_67 (n64_div (by assumption)) ?_
        refine v_goto (tgt := 72) (pc := 68) hX dX11_meanHardness_68 (by decide) ?_
        exact v_dret (pc := 72) hX hZ dX11_meanHardness_72 (by decide) (by decide) (by rw [X11_meanHardness_l1, if_pos c2] at hp; exact hp)
    · exact absurd (nI_le (by omega) (by omega)) c1
  | succ n ih =>
    intro j s m hs hN hth hj hp
    refine v_iload_n (pc := 22) hX dX11_meanHardness_22 rfl ?_
    refine v_aload_n (pc := 23) hX dX11_meanHardness_23 rfl ?_
    refine v_get (v := .ref (r + 1)) (pc := 24) hX dX11_meanHardness_24 hs.k (ci := 12) (r := vwC12) rfl 5 (by decide) wd_1511 (fvA rfl hs.r1) ?_
    refine v_iconst (v := 5) (pc := 27) hX dX11_meanHardness_27 (by decide) ?_
    refine v_iald (j := 5) (v := (nI N)) (pc := 28) hX dX11_meanHardness_28 hs.k1 rfl (by decide) (by decide) ((rfl).trans hN) ?_
    refine v_icmp_ge (tgt := 51) (pc := 29) hX dX11_meanHardness_29 (by decide) (fun c1 => ?_) (fun c1 => ?_)
    · exact absurd c1 (nI_ge (by omega) (by omega))
    ·
      refine v_iload_n (pc := 32) hX dX11_meanHardness_32 rfl ?_
      refine v_aload_n (pc := 33) hX dX11_meanHardness_33 rfl ?_
      refine v_get (v := .ref (r + 1)) (pc := 34) hX dX11_meanHardness_34 hs.k (ci := 12) (r := vwC12) rfl 5 (by decide) wd_1511 (fvA rfl hs.r1) ?_
      refine v_iload_n (pc := 37) hX dX11_meanHardness_37 rfl ?_
      refine v_iconst (v := 4) (pc := 38) hX dX11_meanHardness_38 (by decide) ?_
      refine v_callS (z := yX11_of) (pc := 39) hX dX11_meanHardness_39 (c_of2 hO m (nI j) j 4 rfl) wd_1626 wd_1627 wd_16 wd_1628 ⟨by decide, by decide, (by decide +kernel : (parseMethodDescriptor yX11_of.desc).map (fun d => d.parameters.length) = some 2)⟩ rfl (Nat.le_of_ble_eq_true rfl) ⟨⟨by decide, by decide⟩, by decide, by decide⟩ (fun E m9 h9 => h9.elim) (fun r9 m9 h9 => ?_)
      obtain ⟨rfl, h8⟩ := h9
      replace h8 := h8.symm
      subst h8
      show mV g x _ _ _ _ _ [.int (nI (8 * j + 17)), .ref (r + 1), .int s]
      refine v_iald (j := 8 * j + 17) (v := (gA m (r + 1) (8 * j + 17))) (pc := 42) hX dX11_meanHardness_42 hs.k1 rfl (by omega) (by decide) rfl ?_
      refine v_iadd (pc := 43) hX dX11_meanHardness_43 ?_
      refine v_istore_n (pc := 44) hX dX11_meanHardness_44 (by decide) rfl ?_
      refine v_iinc (w := nI (j + 1)) (pc := 45) hX dX11_meanHardness_45 rfl (nI_1 _) (by decide) rfl ?_
      refine v_goto (tgt := 22) (pc := 48) hX dX11_meanHardness_48 (by decide) ?_
      refine mV_sub (lv' := [(0, .ref r), (1, .int (s + (gA m (r + 1) (8 * j + 17)))), (2, .int (nI (j + 1)))]) ⟨rfl, rfl, rfl, trivial⟩ ?_
      exact ih (j + 1) (s + (gA m (r + 1) (8 * j + 17))) m hs hN hth (by omega) (by rw [X11_meanHardness_l1] at hp; exact hp)
theorem kK_X11_meanHardness_l1 (g : mG) (r : Nat) (N : Nat) : ∀ (n j : Nat) (s : Int32) (m : mM), gK ((X11_meanHardness_l1 g r N n j s m).2) = gK m := by
  intro n
  induction n with
  | zero =>
    intro j s m
    rw [X11_meanHardness_l1]
    repeat' split
    all_goals simp only [mm]
  | succ n ih =>
    intro j s m
    rw [X11_meanHardness_l1]
    repeat' split
    all_goals simp only [mm, ih]
theorem kN_X11_meanHardness_l1 (g : mG) (r : Nat) (N : Nat) : ∀ (n j : Nat) (s : Int32) (m : mM), gN ((X11_meanHardness_l1 g r N n j s m).2) = gN m := by
  intro n
  induction n with
  | zero =>
    intro j s m
    rw [X11_meanHardness_l1]
    repeat' split
    all_goals simp only [mm]
  | succ n ih =>
    intro j s m
    rw [X11_meanHardness_l1]
    repeat' split
    all_goals simp only [mm, ih]
theorem kI_X11_meanHardness_l1 (g : mG) (r : Nat) (N : Nat) : ∀ (n j : Nat) (s : Int32) (m : mM), gI ((X11_meanHardness_l1 g r N n j s m).2) = gI m := by
  intro n
  induction n with
  | zero =>
    intro j s m
    rw [X11_meanHardness_l1]
    repeat' split
    all_goals simp only [mm]
  | succ n ih =>
    intro j s m
    rw [X11_meanHardness_l1]
    repeat' split
    all_goals simp only [mm, ih]
theorem kJ_X11_meanHardness_l1 (g : mG) (r : Nat) (N : Nat) : ∀ (n j : Nat) (s : Int32) (m : mM), gJ ((X11_meanHardness_l1 g r N n j s m).2) = gJ m := by
  intro n
  induction n with
  | zero =>
    intro j s m
    rw [X11_meanHardness_l1]
    repeat' split
    all_goals simp only [mm]
  | succ n ih =>
    intro j s m
    rw [X11_meanHardness_l1]
    repeat' split
    all_goals simp only [mm, ih]
theorem kR_X11_meanHardness_l1 (g : mG) (r : Nat) (N : Nat) : ∀ (n j : Nat) (s : Int32) (m : mM), gR ((X11_meanHardness_l1 g r N n j s m).2) = gR m := by
  intro n
  induction n with
  | zero =>
    intro j s m
    rw [X11_meanHardness_l1]
    repeat' split
    all_goals simp only [mm]
  | succ n ih =>
    intro j s m
    rw [X11_meanHardness_l1]
    repeat' split
    all_goals simp only [mm, ih]
theorem kA_X11_meanHardness_l1 (g : mG) (r : Nat) (N : Nat) : ∀ (n j : Nat) (s : Int32) (m : mM), gA ((X11_meanHardness_l1 g r N n j s m).2) = gA m := by
  intro n
  induction n with
  | zero =>
    intro j s m
    rw [X11_meanHardness_l1]
    repeat' split
    all_goals simp only [mm]
  | succ n ih =>
    intro j s m
    rw [X11_meanHardness_l1]
    repeat' split
    all_goals simp only [mm, ih]
theorem kQ_X11_meanHardness_l1 (g : mG) (r : Nat) (N : Nat) : ∀ (n j : Nat) (s : Int32) (m : mM), gQ ((X11_meanHardness_l1 g r N n j s m).2) = gQ m := by
  intro n
  induction n with
  | zero =>
    intro j s m
    rw [X11_meanHardness_l1]
    repeat' split
    all_goals simp only [mm]
  | succ n ih =>
    intro j s m
    rw [X11_meanHardness_l1]
    repeat' split
    all_goals simp only [mm, ih]
theorem kL_X11_meanHardness_l1 (g : mG) (r : Nat) (N : Nat) : ∀ (n j : Nat) (s : Int32) (m : mM), gL ((X11_meanHardness_l1 g r N n j s m).2) = gL m := by
  intro n
  induction n with
  | zero =>
    intro j s m
    rw [X11_meanHardness_l1]
    repeat' split
    all_goals simp only [mm]
  | succ n ih =>
    intro j s m
    rw [X11_meanHardness_l1]
    repeat' split
    all_goals simp only [mm, ih]
theorem kD_X11_meanHardness_l1 (g : mG) (r : Nat) (N : Nat) : ∀ (n j : Nat) (s : Int32) (m : mM), gD ((X11_meanHardness_l1 g r N n j s m).2) = gD m := by
  intro n
  induction n with
  | zero =>
    intro j s m
    rw [X11_meanHardness_l1]
    repeat' split
    all_goals simp only [mm]
  | succ n ih =>
    intro j s m
    rw [X11_meanHardness_l1]
    repeat' split
    all_goals simp only [mm, ih]
def X11_meanHardness_r (g : mG) (m : mM) (r : Nat) (N : Nat) : UInt64 := (if (nI N) = 0 then (X11_meanHardness_l1 g r N N 0 0 ((sI m 384 r 1))) else (X11_meanHardness_l1 g r N N 0 0 ((sI m 384 r 0)))).1
def X11_meanHardness_m (g : mG) (m : mM) (r : Nat) (N : Nat) : mM := (if (nI N) = 0 then (X11_meanHardness_l1 g r N N 0 0 ((sI m 384 r 1))) else (X11_meanHardness_l1 g r N N 0 0 ((sI m 384 r 0)))).2
theorem kK_X11_meanHardness (g : mG) (m : mM) (r : Nat) (N : Nat) : gK (X11_meanHardness_m g m r N) = gK m := by
  unfold X11_meanHardness_m
  repeat' split
  all_goals simp only [mm, kK_X11_meanHardness_l1]
theorem kN_X11_meanHardness (g : mG) (m : mM) (r : Nat) (N : Nat) : gN (X11_meanHardness_m g m r N) = gN m := by
  unfold X11_meanHardness_m
  repeat' split
  all_goals simp only [mm, kN_X11_meanHardness_l1]
theorem kI_X11_meanHardness (g : mG) (m : mM) (r : Nat) (N : Nat) (k a9 : Nat) (h0 : k ≠ 384) : gI (X11_meanHardness_m g m r N) k a9 = gI m k a9 := by
  unfold X11_meanHardness_m
  repeat' split
  all_goals simp [mm, kI_X11_meanHardness_l1, h0]
theorem kJ_X11_meanHardness (g : mG) (m : mM) (r : Nat) (N : Nat) : gJ (X11_meanHardness_m g m r N) = gJ m := by
  unfold X11_meanHardness_m
  repeat' split
  all_goals simp only [mm, kJ_X11_meanHardness_l1]
theorem kR_X11_meanHardness (g : mG) (m : mM) (r : Nat) (N : Nat) : gR (X11_meanHardness_m g m r N) = gR m := by
  unfold X11_meanHardness_m
  repeat' split
  all_goals simp only [mm, kR_X11_meanHardness_l1]
theorem kA_X11_meanHardness (g : mG) (m : mM) (r : Nat) (N : Nat) : gA (X11_meanHardness_m g m r N) = gA m := by
  unfold X11_meanHardness_m
  repeat' split
  all_goals simp only [mm, kA_X11_meanHardness_l1]
theorem kQ_X11_meanHardness (g : mG) (m : mM) (r : Nat) (N : Nat) : gQ (X11_meanHardness_m g m r N) = gQ m := by
  unfold X11_meanHardness_m
  repeat' split
  all_goals simp only [mm, kQ_X11_meanHardness_l1]
theorem kL_X11_meanHardness (g : mG) (m : mM) (r : Nat) (N : Nat) : gL (X11_meanHardness_m g m r N) = gL m := by
  unfold X11_meanHardness_m
  repeat' split
  all_goals simp only [mm, kL_X11_meanHardness_l1]
theorem kD_X11_meanHardness (g : mG) (m : mM) (r : Nat) (N : Nat) : gD (X11_meanHardness_m g m r N) = gD m := by
  unfold X11_meanHardness_m
  repeat' split
  all_goals simp only [mm, kD_X11_meanHardness_l1]
set_option maxHeartbeats 4000000 in
set_option maxRecDepth 100000 in
theorem c_X11_meanHardness {l : Launch} {g : mG} (hO : mO l g) (m : mM) (r : Nat) (N : Nat) (hs : SR m r) (hN : gA m (r + 1) 5 = nI N) (hN8 : N ≤ 8) : mT l g yX11_meanHardness (.code yX11_meanHardness cX11_meanHardness 3 (Option.some FieldType.double)) 2 41 0 0 [.ref r] m (fun u m' => u = some (.double (X11_meanHardness_r g m r N)) ∧ m' = X11_meanHardness_m g m r N) nX := by
  refine mT_of hO (by decide) (Nat.le_of_ble_eq_true rfl) (fun x hX hZ => ?_)
  show mV g x m 0 0 0 [(0, .ref r)] []
  refine v_aload_n (pc := 0) hX dX11_meanHardness_0 rfl ?_
  refine v_aload_n (pc := 1) hX dX11_meanHardness_1 rfl ?_
  refine v_get (v := .ref (r + 1)) (pc := 2) hX dX11_meanHardness_2 hs.k (ci := 12) (r := vwC12) rfl 5 (by decide) wd_1511 (fvA rfl hs.r1) ?_
  refine v_iconst (v := 5) (pc := 5) hX dX11_meanHardness_5 (by decide) ?_
  refine v_iald (j := 5) (v := (nI N)) (pc := 6) hX dX11_meanHardness_6 hs.k1 rfl (by decide) (by decide) ((rfl).trans hN) ?_
  refine v_if_ne (tgt := 14) (pc := 7) hX dX11_meanHardness_7 (by decide) (fun c1 => ?_) (fun c1 => ?_)
  ·
    refine v_iconst (v := 0) (pc := 14) hX dX11_meanHardness_14 (by decide) ?_
    refine v_put (m1 := (sI m 384 r 0)) (pc := 15) hX dX11_meanHardness_15 hs.k (ci := 12) (r := vwC12) rfl 0 (by decide) wd_1506 rfl rfl rfl rfl ?_
    refine v_iconst (v := 0) (pc := 18) hX dX11_meanHardness_18 (by decide) ?_
    refine v_istore_n (pc := 19) hX dX11_meanHardness_19 (by decide) rfl ?_
    refine v_iconst (v := 0) (pc := 20) hX dX11_meanHardness_20 (by decide) ?_
    refine v_istore_n (pc := 21) hX dX11_meanHardness_21 (by decide) rfl ?_
    refine mV_sub (lv' := [(0, .ref r), (1, .int 0), (2, .int (nI 0))]) ⟨rfl, rfl, rfl, trivial⟩ ?_
    exact lp_X11_meanHardness_l1 hO r N hN8 hX hZ N 0 0 ((sI m 384 r 0)) (hs.to (by simp only [mm]) (by simp only [mm])) (rfl.trans hN) (fun _ => by assumption) (by omega) ⟨(by rw [X11_meanHardness_r, if_neg c1]), (by rw [X11_meanHardness_m, if_neg c1])⟩
  ·
    refine v_iconst (v := 1) (pc := 10) hX dX11_meanHardness_10 (by decide) ?_
    refine v_goto (tgt := 15) (pc := 11) hX dX11_meanHardness_11 (by decide) ?_
    refine v_put (m1 := (sI m 384 r 1)) (pc := 15) hX dX11_meanHardness_15 hs.k (ci := 12) (r := vwC12) rfl 0 (by decide) wd_1506 rfl rfl rfl rfl ?_
    refine v_iconst (v := 0) (pc := 18) hX dX11_meanHardness_18 (by decide) ?_
    refine v_istore_n (pc := 19) hX dX11_meanHardness_19 (by decide) rfl ?_
    refine v_iconst (v := 0) (pc := 20) hX dX11_meanHardness_20 (by decide) ?_
    refine v_istore_n (pc := 21) hX dX11_meanHardness_21 (by decide) rfl ?_
    refine mV_sub (lv' := [(0, .ref r), (1, .int 0), (2, .int (nI 0))]) ⟨rfl, rfl, rfl, trivial⟩ ?_
    exact lp_X11_meanHardness_l1 hO r N hN8 hX hZ N 0 0 ((sI m 384 r 1)) (hs.to (by simp only [mm]) (by simp only [mm])) (rfl.trans hN) (by simp [mm]) (by omega) ⟨(by rw [X11_meanHardness_r, if_pos c1]), (by rw [X11_meanHardness_m, if_pos c1])⟩
def X11_passShare_r (g : mG) (m : mM) (r : Nat)  : UInt32 := if (gA m (r + 1) 11) = 0 then FP.fconst0 else (FP.fdiv (FP.i2f (gA m (r + 1) 12)) (FP.i2f (gA m (r + 1) 11)))
def X11_passShare_m (g : mG) (m : mM) (r : Nat)  : mM := if (gA m (r + 1) 11) = 0 then ((sI m 384 r 1)) else ((sI m 384 r 0))
theorem kK_X11_passShare (g : mG) (m : mM) (r : Nat)  : gK (X11_passShare_m g m r ) = gK m := by
  unfold X11_passShare_m
  repeat' split
  all_goals simp only [mm]
theorem kN_X11_passShare (g : mG) (m : mM) (r : Nat)  : gN (X11_passShare_m g m r ) = gN m := by
  unfold X11_passShare_m
  repeat' split
  all_goals simp only [mm]
theorem kI_X11_passShare (g : mG) (m : mM) (r : Nat)  (k a9 : Nat) (h0 : k ≠ 384) : gI (X11_passShare_m g m r ) k a9 = gI m k a9 := by
  unfold X11_passShare_m
  repeat' split
  all_goals simp [mm, h0]
theorem kJ_X11_passShare (g : mG) (m : mM) (r : Nat)  : gJ (X11_passShare_m g m r ) = gJ m := by
  unfold X11_passShare_m
  repeat' split
  all_goals simp only [mm]
theorem kR_X11_passShare (g : mG) (m : mM) (r : Nat)  : gR (X11_passShare_m g m r ) = gR m := by
  unfold X11_passShare_m
  repeat' split
  all_goals simp only [mm]
theorem kA_X11_passShare (g : mG) (m : mM) (r : Nat)  : gA (X11_passShare_m g m r ) = gA m := by
  unfold X11_passShare_m
  repeat' split
  all_goals simp only [mm]
theorem kQ_X11_passShare (g : mG) (m : mM) (r : Nat)  : gQ (X11_passShare_m g m r ) = gQ m := by
  unfold X11_passShare_m
  repeat' split
  all_goals simp only [mm]
theorem kL_X11_passShare (g : mG) (m : mM) (r : Nat)  : gL (X11_passShare_m g m r ) = gL m := by
  unfold X11_passShare_m
  repeat' split
  all_goals simp only [mm]
theorem kD_X11_passShare (g : mG) (m : mM) (r : Nat)  : gD (X11_passShare_m g m r ) = gD m := by
  unfold X11_passShare_m
  repeat' split
  all_goals simp only [mm]
set_option maxHeartbeats 4000000 in
set_option maxRecDepth 100000 in
theorem c_X11_passShare {l : Launch} {g : mG} (hO : mO l g) (m : mM) (r : Nat)  (hs : SR m r) : mT l g yX11_passShare (.code yX11_passShare cX11_passShare 1 (Option.some FieldType.float)) 1 20 0 0 [.ref r] m (fun u m' => u = some (.float (X11_passShare_r g m r )) ∧ m' = X11_passShare_m g m r ) nX := by
  refine mT_of hO (by decide) (Nat.le_of_ble_eq_true rfl) (fun x hX hZ => ?_)
  show mV g x m 0 0 0 [(0, .ref r)] []
  refine v_aload_n (pc := 0) hX dX11_passShare_0 rfl ?_
  refine v_aload_n (pc := 1) hX dX11_passShare_1 rfl ?_
  refine v_get (v := .ref (r + 1)) (pc := 2) hX dX11_passShare_2 hs.k (ci := 12) (r := vwC12) rfl 5 (by decide) wd_1511 (fvA rfl hs.r1) ?_
  refine v_bipush (v := 11) (pc := 5) hX dX11_passShare_5 (by decide) ?_
  refine v_iald (j := 11) (v := (gA m (r + 1) 11)) (pc := 7) hX dX11_passShare_7 hs.k1 rfl (by decide) (by decide) rfl ?_
  refine v_if_ne (tgt := 15) (pc := 8) hX dX11_passShare_8 (by decide) (fun c1 => ?_) (fun c1 => ?_)
  ·
    refine v_iconst (v := 0) (pc := 15) hX dX11_passShare_15 (by decide) ?_
    refine v_put (m1 := (sI m 384 r 0)) (pc := 16) hX dX11_passShare_16 hs.k (ci := 12) (r := vwC12) rfl 0 (by decide) wd_1506 rfl rfl rfl rfl ?_
    refine v_aload_n (pc := 19) hX dX11_passShare_19 rfl ?_
    refine v_get (v := .int 0) (pc := 20) hX dX11_passShare_20 (by simp only [mm]; exact hs.k) (ci := 12) (r := vwC12) rfl 0 (by decide) wd_1506 (by show Value.int _ = Value.int _; simp [mm]) ?_
    refine v_if_ne (tgt := 46) (pc := 23) hX dX11_passShare_23 (by decide) (fun c2 => ?_) (fun c2 => ?_)
    · exact absurd (by decide) c2
    ·
      refine v_aload_n (pc := 26) hX dX11_passShare_26 rfl ?_
      refine v_get (v := .ref (r + 1)) (pc := 27) hX dX11_passShare_27 (by simp only [mm]; exact hs.k) (ci := 12) (r := vwC12) rfl 5 (by decide) wd_1511 (fvA rfl (by simp [mm, hs.r1])) ?_
      refine v_bipush (v := 12) (pc := 30) hX dX11_passShare_30 (by decide) ?_
      refine v_iald (j := 12) (v := (gA m (r + 1) 12)) (pc := 32) hX dX11_passShare_32 (by simp only [mm]; exact hs.k1) rfl (by decide) (by decide) rfl ?_
      refine v_i2f (pc := 33) hX dX11_passShare_33 ?_
      refine v_aload_n (pc := 34) hX dX11_passShare_34 rfl ?_
      refine v_get (v := .ref (r + 1)) (pc := 35) hX dX11_passShare_35 (by simp only [mm]; exact hs.k) (ci := 12) (r := vwC12) rfl 5 (by decide) wd_1511 (fvA rfl (by simp [mm, hs.r1])) ?_
      refine v_bipush (v := 11) (pc := 38) hX dX11_passShare_38 (by decide) ?_
      refine v_iald (j := 11) (v := (gA m (r + 1) 11)) (pc := 40) hX dX11_passShare_40 (by simp only [mm]; exact hs.k1) rfl (by decide) (by decide) rfl ?_
      refine v_i2f (pc := 41) hX dX11_passShare_41 ?_
      refine v_fdiv (pc := 42) hX dX11_passShare_42 (n32_div (by assumption)) ?_
      refine v_goto (tgt := 47) (pc := 43) hX dX11_passShare_43 (by decide) ?_
      exact v_fret (pc := 47) hX hZ dX11_passShare_47 (by decide) (by decide) ⟨(by rw [X11_passShare_r, if_neg c1]), (by rw [X11_passShare_m, if_neg c1])⟩
  ·
    refine v_iconst (v := 1) (pc := 11) hX dX11_passShare_11 (by decide) ?_
    refine v_goto (tgt := 16) (pc := 12) hX dX11_passShare_12 (by decide) ?_
    refine v_put (m1 := (sI m 384 r 1)) (pc := 16) hX dX11_passShare_16 hs.k (ci := 12) (r := vwC12) rfl 0 (by decide) wd_1506 rfl rfl rfl rfl ?_
    refine v_aload_n (pc := 19) hX dX11_passShare_19 rfl ?_
    refine v_get (v := .int 1) (pc := 20) hX dX11_passShare_20 (by simp only [mm]; exact hs.k) (ci := 12) (r := vwC12) rfl 0 (by decide) wd_1506 (by show Value.int _ = Value.int _; simp [mm]) ?_
    refine v_if_ne (tgt := 46) (pc := 23) hX dX11_passShare_23 (by decide) (fun c3 => ?_) (fun c3 => ?_)
    ·
      refine v_fconst0 (pc := 46) hX dX11_passShare_46 ?_
      exact v_fret (pc := 47) hX hZ dX11_passShare_47 (by decide) (by decide) ⟨(by rw [X11_passShare_r, if_pos c1]), (by rw [X11_passShare_m, if_pos c1])⟩
    · exact absurd c3 (by decide)
def X11_isConsistent_l1 (g : mG) (r : Nat) (H : Nat) : Nat → Nat → Int32 → mM → Int32 × mM
  | 0, j, s, m => if s = (gA m (r + 1) 7) then (if ((gA m (r + 1) 10) + 20) = ((gA m (r + 1) 3) + (gA m (r + 1) 9)) then ((1, m)) else ((0, m))) else ((0, m))
  | n + 1, j, s, m => X11_isConsistent_l1 g r H n (j + 1) (s + (X11_worn_r g m r (nI j) )) m
set_option maxHeartbeats 4000000 in
set_option maxRecDepth 100000 in
theorem lp_X11_isConsistent_l1 {l : Launch} {g : mG} {x : mCx} (hO : mO l g) (r : Nat) (H : Nat) (hH4 : H ≤ 4) {pst : Option Value → mM → Prop} {XX : String → mM → Prop} (hX : mX l g x cX11_isConsistent yX11_isConsistent { frames := 2, cells := 0, slots := 0, locals := 41 } 3) (hZ : mZ g x (Option.some FieldType.boolean) [] pst XX 0 0) : ∀ (n j : Nat) (s : Int32) (m : mM) (hs : SR m r) (hH : gA m (r + 1) 6 = nI H) (hj : j + n = H) (hp : pst (some (.int ((X11_isConsistent_l1 g r H n j s m).1))) ((X11_isConsistent_l1 g r H n j s m).2)), mV g x m 0 0 9 [(0, .ref r), (1, .int s), (2, .int (nI j))] [] := by
  intro n
  induction n with
  | zero =>
    intro j s m hs hH hj hp
    refine v_iload_n (pc := 9) hX dX11_isConsistent_9 rfl ?_
    refine v_aload_n (pc := 10) hX dX11_isConsistent_10 rfl ?_
    refine v_get (v := .ref (r + 1)) (pc := 11) hX dX11_isConsistent_11 hs.k (ci := 12) (r := vwC12) rfl 5 (by decide) wd_1511 (fvA rfl hs.r1) ?_
    refine v_bipush (v := 6) (pc := 14) hX dX11_isConsistent_14 (by decide) ?_
    refine v_iald (j := 6) (v := (nI H)) (pc := 16) hX dX11_isConsistent_16 hs.k1 rfl (by decide) (by decide) ((rfl).trans hH) ?_
    refine v_icmp_ge (tgt := 34) (pc := 17) hX dX11_isConsistent_17 (by decide) (fun c1 => ?_) (fun c1 => ?_)
    ·
      refine v_iload_n (pc := 34) hX dX11_isConsistent_34 rfl ?_
      refine v_aload_n (pc := 35) hX dX11_isConsistent_35 rfl ?_
      refine v_get (v := .ref (r + 1)) (pc := 36) hX dX11_isConsistent_36 hs.k (ci := 12) (r := vwC12) rfl 5 (by decide) wd_1511 (fvA rfl hs.r1) ?_
      refine v_bipush (v := 7) (pc := 39) hX dX11_isConsistent_39 (by decide) ?_
      refine v_iald (j := 7) (v := (gA m (r + 1) 7)) (pc := 41) hX dX11_isConsistent_41 hs.k1 rfl (by decide) (by decide) rfl ?_
      refine v_icmp_ne (tgt := 76) (pc := 42) hX dX11_isConsistent_42 (by decide) (fun c2 => ?_) (fun c2 => ?_)
      ·
        refine v_iconst (v := 0) (pc := 76) hX dX11_isConsistent_76 (by decide) ?_
        exact v_zret (pc := 77) hX hZ dX11_isConsistent_77 rfl (by decide) (by decide) (by rw [X11_isConsistent_l1, if_neg c2] at hp; exact hp)
      ·
        refine v_aload_n (pc := 45) hX dX11_isConsistent_45 rfl ?_
        refine v_get (v := .ref (r + 1)) (pc := 46) hX dX11_isConsistent_46 hs.k (ci := 12) (r := vwC12) rfl 5 (by decide) wd_1511 (fvA rfl hs.r1) ?_
        refine v_bipush (v := 10) (pc := 49) hX dX11_isConsistent_49 (by decide) ?_
        refine v_iald (j := 10) (v := (gA m (r + 1) 10)) (pc := 51) hX dX11_isConsistent_51 hs.k1 rfl (by decide) (by decide) rfl ?_
        refine v_bipush (v := 20) (pc := 52) hX dX11_isConsistent_52 (by decide) ?_
        refine v_iadd (pc := 54) hX dX11_isConsistent_54 ?_
        refine v_aload_n (pc := 55) hX dX11_isConsistent_55 rfl ?_
        refine v_get (v := .ref (r + 1)) (pc := 56) hX dX11_isConsistent_56 hs.k (ci := 12) (r := vwC12) rfl 5 (by decide) wd_1511 (fvA rfl hs.r1) ?_
        refine v_iconst (v := 3) (pc := 59) hX dX11_isConsistent_59 (by decide) ?_
        refine v_iald (j := 3) (v := (gA m (r + 1) 3)) (pc := 60) hX dX11_isConsistent_60 hs.k1 rfl (by decide) (by decide) rfl ?_
        refine v_aload_n (pc := 61) hX dX11_isConsistent_61 rfl ?_
        refine v_get (v := .ref (r + 1)) (pc := 62) hX dX11_isConsistent_62 hs.k (ci := 12) (r := vwC12) rfl 5 (by decide) wd_1511 (fvA rfl hs.r1) ?_
        refine v_bipush (v := 9) (pc := 65) hX dX11_isConsistent_65 (by decide) ?_
        refine v_iald (j := 9) (v := (gA m (r + 1) 9)) (pc := 67) hX dX11_isConsistent_67 hs.k1 rfl (by decide) (by decide) rfl ?_
        refine v_iadd (pc := 68) hX dX11_isConsistent_68 ?_
        refine v_icmp_ne (tgt := 76) (pc := 69) hX dX11_isConsistent_69 (by decide) (fun c3 => ?_) (fun c3 => ?_)
        ·
          refine v_iconst (v := 0) (pc := 76) hX dX11_isConsistent_76 (by decide) ?_
          exact v_zret (pc := 77) hX hZ dX11_isConsistent_77 rfl (by decide) (by decide) (by rw [X11_isConsistent_l1, if_pos c2, if_neg c3] at hp; exact hp)
        ·
          refine v_iconst (v := 1) (pc := 72) hX dX11_isConsistent_72 (by decide) ?_
          refine v_goto (tgt := 77) (pc := 73) hX dX11_isConsistent_73 (by decide) ?_
          exact v_zret (pc := 77) hX hZ dX11_isConsistent_77 rfl (by decide) (by decide) (by rw [X11_isConsistent_l1, if_pos c2, if_pos c3] at hp; exact hp)
    · exact absurd (nI_le (by omega) (by omega)) c1
  | succ n ih =>
    intro j s m hs hH hj hp
    refine v_iload_n (pc := 9) hX dX11_isConsistent_9 rfl ?_
    refine v_aload_n (pc := 10) hX dX11_isConsistent_10 rfl ?_
    refine v_get (v := .ref (r + 1)) (pc := 11) hX dX11_isConsistent_11 hs.k (ci := 12) (r := vwC12) rfl 5 (by decide) wd_1511 (fvA rfl hs.r1) ?_
    refine v_bipush (v := 6) (pc := 14) hX dX11_isConsistent_14 (by decide) ?_
    refine v_iald (j := 6) (v := (nI H)) (pc := 16) hX dX11_isConsistent_16 hs.k1 rfl (by decide) (by decide) ((rfl).trans hH) ?_
    refine v_icmp_ge (tgt := 34) (pc := 17) hX dX11_isConsistent_17 (by decide) (fun c1 => ?_) (fun c1 => ?_)
    · exact absurd c1 (nI_ge (by omega) (by omega))
    ·
      refine v_iload_n (pc := 20) hX dX11_isConsistent_20 rfl ?_
      refine v_aload_n (pc := 21) hX dX11_isConsistent_21 rfl ?_
      refine v_iload_n (pc := 22) hX dX11_isConsistent_22 rfl ?_
      refine v_callV (z := yX11_worn) (pc := 23) hX dX11_isConsistent_23 (c_X11_worn hO m r (nI j)  hs (okI_nI (by omega) (by decide))) hs.k rfl wd_1684 wd_1686 wp_32 wd_16 wd_1687 ⟨by decide, by decide, (by decide +kernel : (parseMethodDescriptor yX11_worn.desc).map (fun d => d.parameters.length) = some 1)⟩ rfl (Nat.le_of_ble_eq_true rfl) ⟨⟨by decide, by decide⟩, by decide, by decide⟩ (fun E m9 h9 => h9.elim) (fun r9 m9 h9 => ?_)
      obtain ⟨rfl, h8⟩ := h9
      replace h8 := h8.symm
      subst h8
      show mV g x _ _ _ _ _ [.int (X11_worn_r g m r (nI j) ), .int s]
      refine v_iadd (pc := 26) hX dX11_isConsistent_26 ?_
      refine v_istore_n (pc := 27) hX dX11_isConsistent_27 (by decide) rfl ?_
      refine v_iinc (w := nI (j + 1)) (pc := 28) hX dX11_isConsistent_28 rfl (nI_1 _) (by decide) rfl ?_
      refine v_goto (tgt := 9) (pc := 31) hX dX11_isConsistent_31 (by decide) ?_
      refine mV_sub (lv' := [(0, .ref r), (1, .int (s + (X11_worn_r g m r (nI j) ))), (2, .int (nI (j + 1)))]) ⟨rfl, rfl, rfl, trivial⟩ ?_
      exact ih (j + 1) (s + (X11_worn_r g m r (nI j) )) m hs hH (by omega) (by rw [X11_isConsistent_l1] at hp; exact hp)
theorem kK_X11_isConsistent_l1 (g : mG) (r : Nat) (H : Nat) : ∀ (n j : Nat) (s : Int32) (m : mM), gK ((X11_isConsistent_l1 g r H n j s m).2) = gK m := by
  intro n
  induction n with
  | zero =>
    intro j s m
    rw [X11_isConsistent_l1]
    repeat' split
    all_goals simp only [mm]
  | succ n ih =>
    intro j s m
    rw [X11_isConsistent_l1]
    repeat' split
    all_goals simp only [mm, ih]
theorem kN_X11_isConsistent_l1 (g : mG) (r : Nat) (H : Nat) : ∀ (n j : Nat) (s : Int32) (m : mM), gN ((X11_isConsistent_l1 g r H n j s m).2) = gN m := by
  intro n
  induction n with
  | zero =>
    intro j s m
    rw [X11_isConsistent_l1]
    repeat' split
    all_goals simp only [mm]
  | succ n ih =>
    intro j s m
    rw [X11_isConsistent_l1]
    repeat' split
    all_goals simp only [mm, ih]
theorem kI_X11_isConsistent_l1 (g : mG) (r : Nat) (H : Nat) : ∀ (n j : Nat) (s : Int32) (m : mM), gI ((X11_isConsistent_l1 g r H n j s m).2) = gI m := by
  intro n
  induction n with
  | zero =>
    intro j s m
    rw [X11_isConsistent_l1]
    repeat' split
    all_goals simp only [mm]
  | succ n ih =>
    intro j s m
    rw [X11_isConsistent_l1]
    repeat' split
    all_goals simp only [mm, ih]
theorem kJ_X11_isConsistent_l1 (g : mG) (r : Nat) (H : Nat) : ∀ (n j : Nat) (s : Int32) (m : mM), gJ ((X11_isConsistent_l1 g r H n j s m).2) = gJ m := by
  intro n
  induction n with
  | zero =>
    intro j s m
    rw [X11_isConsistent_l1]
    repeat' split
    all_goals simp only [mm]
  | succ n ih =>
    intro j s m
    rw [X11_isConsistent_l1]
    repeat' split
    all_goals simp only [mm, ih]
theorem kR_X11_isConsistent_l1 (g : mG) (r : Nat) (H : Nat) : ∀ (n j : Nat) (s : Int32) (m : mM), gR ((X11_isConsistent_l1 g r H n j s m).2) = gR m := by
  intro n
  induction n with
  | zero =>
    intro j s m
    rw [X11_isConsistent_l1]
    repeat' split
    all_goals simp only [mm]
  | succ n ih =>
    intro j s m
    rw [X11_isConsistent_l1]
    repeat' split
    all_goals simp only [mm, ih]
theorem kA_X11_isConsistent_l1 (g : mG) (r : Nat) (H : Nat) : ∀ (n j : Nat) (s : Int32) (m : mM), gA ((X11_isConsistent_l1 g r H n j s m).2) = gA m := by
  intro n
  induction n with
  | zero =>
    intro j s m
    rw [X11_isConsistent_l1]
    repeat' split
    all_goals simp only [mm]
  | succ n ih =>
    intro j s m
    rw [X11_isConsistent_l1]
    repeat' split
    all_goals simp only [mm, ih]
theorem kQ_X11_isConsistent_l1 (g : mG) (r : Nat) (H : Nat) : ∀ (n j : Nat) (s : Int32) (m : mM), gQ ((X11_isConsistent_l1 g r H n j s m).2) = gQ m := by
  intro n
  induction n with
  | zero =>
    intro j s m
    rw [X11_isConsistent_l1]
    repeat' split
    all_goals simp only [mm]
  | succ n ih =>
    intro j s m
    rw [X11_isConsistent_l1]
    repeat' split
    all_goals simp only [mm, ih]
theorem kL_X11_isConsistent_l1 (g : mG) (r : Nat) (H : Nat) : ∀ (n j : Nat) (s : Int32) (m : mM), gL ((X11_isConsistent_l1 g r H n j s m).2) = gL m := by
  intro n
  induction n with
  | zero =>
    intro j s m
    rw [X11_isConsistent_l1]
    repeat' split
    all_goals simp only [mm]
  | succ n ih =>
    intro j s m
    rw [X11_isConsistent_l1]
    repeat' split
    all_goals simp only [mm, ih]
theorem kD_X11_isConsistent_l1 (g : mG) (r : Nat) (H : Nat) : ∀ (n j : Nat) (s : Int32) (m : mM), gD ((X11_isConsistent_l1 g r H n j s m).2) = gD m := by
  intro n
  induction n with
  | zero =>
    intro j s m
    rw [X11_isConsistent_l1]
    repeat' split
    all_goals simp only [mm]
  | succ n ih =>
    intro j s m
    rw [X11_isConsistent_l1]
    repeat' split
    all_goals simp only [mm, ih]
def X11_isConsistent_r (g : mG) (m : mM) (r : Nat) (H : Nat) : Int32 := (X11_isConsistent_l1 g r H H 0 0 ((sI m 384 r 0))).1
def X11_isConsistent_m (g : mG) (m : mM) (r : Nat) (H : Nat) : mM := (X11_isConsistent_l1 g r H H 0 0 ((sI m 384 r 0))).2
theorem kK_X11_isConsistent (g : mG) (m : mM) (r : Nat) (H : Nat) : gK (X11_isConsistent_m g m r H) = gK m := by
  unfold X11_isConsistent_m
  repeat' split
  all_goals simp only [mm, kK_X11_isConsistent_l1]
theorem kN_X11_isConsistent (g : mG) (m : mM) (r : Nat) (H : Nat) : gN (X11_isConsistent_m g m r H) = gN m := by
  unfold X11_isConsistent_m
  repeat' split
  all_goals simp only [mm, kN_X11_isConsistent_l1]
theorem kI_X11_isConsistent (g : mG) (m : mM) (r : Nat) (H : Nat) (k a9 : Nat) (h0 : k ≠ 384) : gI (X11_isConsistent_m g m r H) k a9 = gI m k a9 := by
  unfold X11_isConsistent_m
  repeat' split
  all_goals simp [mm, kI_X11_isConsistent_l1, h0]
theorem kJ_X11_isConsistent (g : mG) (m : mM) (r : Nat) (H : Nat) : gJ (X11_isConsistent_m g m r H) = gJ m := by
  unfold X11_isConsistent_m
  repeat' split
  all_goals simp only [mm, kJ_X11_isConsistent_l1]
theorem kR_X11_isConsistent (g : mG) (m : mM) (r : Nat) (H : Nat) : gR (X11_isConsistent_m g m r H) = gR m := by
  unfold X11_isConsistent_m
  repeat' split
  all_goals simp only [mm, kR_X11_isConsistent_l1]
theorem kA_X11_isConsistent (g : mG) (m : mM) (r : Nat) (H : Nat) : gA (X11_isConsistent_m g m r H) = gA m := by
  unfold X11_isConsistent_m
  repeat' split
  all_goals simp only [mm, kA_X11_isConsistent_l1]
theorem kQ_X11_isConsistent (g : mG) (m : mM) (r : Nat) (H : Nat) : gQ (X11_isConsistent_m g m r H) = gQ m := by
  unfold X11_isConsistent_m
  repeat' split
  all_goals simp only [mm, kQ_X11_isConsistent_l1]
theorem kL_X11_isConsistent (g : mG) (m : mM) (r : Nat) (H : Nat) : gL (X11_isConsistent_m g m r H) = gL m := by
  unfold X11_isConsistent_m
  repeat' split
  all_goals simp only [mm, kL_X11_isConsistent_l1]
theorem kD_X11_isConsistent (g : mG) (m : mM) (r : Nat) (H : Nat) : gD (X11_isConsistent_m g m r H) = gD m := by
  unfold X11_isConsistent_m
  repeat' split
  all_goals simp only [mm, kD_X11_isConsistent_l1]
set_option maxHeartbeats 4000000 in
set_option maxRecDepth 100000 in
theorem c_X11_isConsistent {l : Launch} {g : mG} (hO : mO l g) (m : mM) (r : Nat) (H : Nat) (hs : SR m r) (hH : gA m (r + 1) 6 = nI H) (hH4 : H ≤ 4) : mT l g yX11_isConsistent (.code yX11_isConsistent cX11_isConsistent 3 (Option.some FieldType.boolean)) 2 41 0 0 [.ref r] m (fun u m' => u = some (.int (X11_isConsistent_r g m r H)) ∧ m' = X11_isConsistent_m g m r H) nX := by
  refine mT_of hO (by decide) (Nat.le_of_ble_eq_true rfl) (fun x hX hZ => ?_)
  show mV g x m 0 0 0 [(0, .ref r)] []
  refine v_aload_n (pc := 0) hX dX11_isConsistent_0 rfl ?_
  refine v_iconst (v := 0) (pc := 1) hX dX11_isConsistent_1 (by decide) ?_
  refine v_put (m1 := (sI m 384 r 0)) (pc := 2) hX dX11_isConsistent_2 hs.k (ci := 12) (r := vwC12) rfl 0 (by decide) wd_1506 rfl rfl rfl rfl ?_
  refine v_iconst (v := 0) (pc := 5) hX dX11_isConsistent_5 (by decide) ?_
  refine v_istore_n (pc := 6) hX dX11_isConsistent_6 (by decide) rfl ?_
  refine v_iconst (v := 0) (pc := 7) hX dX11_isConsistent_7 (by decide) ?_
  refine v_istore_n (pc := 8) hX dX11_isConsistent_8 (by decide) rfl ?_
  refine mV_sub (lv' := [(0, .ref r), (1, .int 0), (2, .int (nI 0))]) ⟨rfl, rfl, rfl, trivial⟩ ?_
  exact lp_X11_isConsistent_l1 hO r H hH4 hX hZ H 0 0 ((sI m 384 r 0)) (hs.to (by simp only [mm]) (by simp only [mm])) (rfl.trans hH) (by omega) ⟨(by rw [X11_isConsistent_r]), (by rw [X11_isConsistent_m])⟩
