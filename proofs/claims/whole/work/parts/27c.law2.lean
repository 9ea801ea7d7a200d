/-! THE LAW'S CALLS (2) -/
set_option maxHeartbeats 4000000 in
theorem lwc_9 {l : Launch} {g : mG} {x : mCx} {nm : String} {m : mM} {sc b r o d T ce sl j L : Nat} {xs : Nat → Int32} (hO : mO l g) (hd : VD g) (hcm : ∀ j, j < 12 → cmI g (cmA g j) = j) (hX : mX l g x cL_law (yLw nm) room_1 9) (hs : oT g .int sc L (fun i => .int (xs i))) (hw : OBJ g m m b r T) (hp : PL m b r o d) (hT : T + 12 ≤ 9000) (hj : 5 * j + 5 ≤ L) (hL : L ≤ 2560) (hce : ce + 24 ≤ 613022) (hsl : sl + 6000 ≤ 7185358) (k : ∀ (R : mM) (T1 : Nat), OBJ g R R b r T1 → PL R b r o d → T1 ≤ T + 12 → mV g x R (ce + 24) (sl + 6000) 2680 [(5, .int (nI (5 * j))), (4, .ref d), (3, .ref o), (2, .ref r), (1, .ref b), (0, .ref sc)] []) : mV g x m ce sl 790 [(5, .int (nI (5 * j))), (4, .ref d), (3, .ref o), (2, .ref r), (1, .ref b), (0, .ref sc)] [] := by
  obtain ⟨N, H, nx, C, v⟩ := VW.of hw
  have hc : ∀ mr, VW g m mr b r T N H nx C → CL g b r o d (T + 1) m mr (X10_test_m g m b (xs (5 * j + 1)) N nx) (X11_test_m g mr r (xs (5 * j + 1)) N C) [("java/util/NoSuchElementException", 1), ("java/lang/IllegalStateException", 2), ("java/lang/UnsupportedOperationException", 3)] (X10_test_x g m b (xs (5 * j + 1)) N nx) (X10_test_r g m b (xs (5 * j + 1)) N nx = X11_test_r g mr r (xs (5 * j + 1)) N C) := fun mr v => (call_test hd v.1 v.2.2.2 v.2.1 v.2.2.1 (by omega) (xs (5 * j + 1))).toCL hp
  have c0 := hc m v
  refine v_aload_n (pc := 790) hX dL_law_790 rfl ?_
  refine v_aload_n (pc := 791) hX dL_law_791 rfl ?_
  refine v_iload (pc := 792) hX dL_law_792 rfl ?_
  refine v_iconst (v := 1) (pc := 794) hX dL_law_794 (by decide) ?_
  refine v_iadd (pc := 795) hX dL_law_795 ?_
  refine v_tiO (j := 5 * j + 1) (pc := 796) hX dL_law_796 hs (nI_k rfl) (by omega) (by omega) ?_
  show mV g x _ _ _ _ _ [.int (xs (5 * j + 1)), .ref b]
  refine v_aload_n (pc := 797) hX dL_law_797 rfl ?_
  refine v_callSX (z := yL_test) (pc := 798) hX dL_law_798 (c_L_test hO m b (xs (5 * j + 1)) o N nx v.sb v.hN v.N8 v.hn v.n9 (c0.ko hp) c0.e3) wd_1058 wd_1059 wd_0 wd_1060 ⟨by decide, by decide, (by decide +kernel : (parseMethodDescriptor yL_test.desc).map (fun d => d.parameters.length) = some 3)⟩ rfl (Nat.le_of_ble_eq_true rfl) ⟨⟨Nat.le_of_ble_eq_true rfl, Nat.le_of_ble_eq_true rfl⟩, (by show ce + 1 ≤ 613022; omega), (by show sl + 6 ≤ 7185358; omega)⟩ (fun E9 m9 h9 => h9.elim) (fun u9 m9 h9 => ?_)
  obtain ⟨kk, rfl, wk⟩ := wkL h9
  clear h9
  have v9 := v.toR (c0.keep (q := o) hp (by have := hp.2.1; have := hp.2.2.1; omega) wk.1 wk.2.1)
  have c9 := hc m9 v9
  clear hc c0
  show mV g x m9 _ _ _ _ [.int kk]
  refine v_istore (pc := 801) hX dL_law_801 (by decide) rfl ?_
  refine v_aload_n (pc := 803) hX dL_law_803 rfl ?_
  refine v_aload_n (pc := 804) hX dL_law_804 rfl ?_
  refine v_iload (pc := 805) hX dL_law_805 rfl ?_
  refine v_iconst (v := 1) (pc := 807) hX dL_law_807 (by decide) ?_
  refine v_iadd (pc := 808) hX dL_law_808 ?_
  refine v_tiO (j := 5 * j + 1) (pc := 809) hX dL_law_809 hs (nI_k rfl) (by omega) (by omega) ?_
  show mV g x _ _ _ _ _ [.int (xs (5 * j + 1)), .ref r]
  refine v_callV (z := yX11_test) (pc := 810) hX dL_law_810 (c_X11_test hO m9 r (xs (5 * j + 1)) N C v9.sr v9.rN v9.N8 v9.hC v9.C8) v9.sr.1 rfl wd_1708 wd_1709 wd_1710 wd_16 wd_1711 ⟨by decide, by decide, (by decide +kernel : (parseMethodDescriptor yX11_test.desc).map (fun d => d.parameters.length) = some 1)⟩ rfl (Nat.le_of_ble_eq_true rfl) ⟨⟨Nat.le_of_ble_eq_true rfl, Nat.le_of_ble_eq_true rfl⟩, (by show ce + 1 + 0 ≤ 613022; omega), (by show sl + 6 + 0 ≤ 7185358; omega)⟩ (fun E9 m8 h9 => h9.elim) (fun u8 R h9 => ?_)
  obtain ⟨rfl, h7⟩ := h9
  rw [← h7] at c9
  generalize (X11_test_r g m9 r (xs (5 * j + 1)) N C) = yv at c9 ⊢
  show mV g x R _ _ _ _ [.int yv]
  obtain ⟨w1, w2, wl, wd⟩ := c9.next (q := o) hp v9.sr (by first | exact Or.inl rfl | exact Or.inr rfl) wk.1 wk.2.1
  obtain ⟨w3, w4⟩ := c9.out wk (by decide)
  clear c9
  refine v_istore (pc := 813) hX dL_law_813 (by decide) rfl ?_
  refine v_aload_n (pc := 815) hX dL_law_815 rfl ?_
  refine v_callV (z := yX11_thrown) (pc := 816) hX dL_law_816 (c_X11_thrown hO R r w1.2.2.2.1) w1.2.2.2.1.1 rfl wd_1573 wd_1574 wd_1575 wd_16 wd_1576 ⟨by decide, by decide, (by decide +kernel : (parseMethodDescriptor yX11_thrown.desc).map (fun d => d.parameters.length) = some 0)⟩ rfl (Nat.le_of_ble_eq_true rfl) ⟨⟨Nat.le_of_ble_eq_true rfl, Nat.le_of_ble_eq_true rfl⟩, (by show ce + 1 + 0 + 0 ≤ 613022; omega), (by show sl + 6 + 0 + 0 ≤ 7185358; omega)⟩ (fun E9 m8 h9 => h9.elim) (fun u8 m8 h9 => ?_)
  obtain ⟨rfl, h6⟩ := h9
  replace h6 := h6.symm
  subst h6
  rw [show X11_thrown_r g R r = kk from w3]
  show mV g x R _ _ _ _ [.int kk]
  refine v_iload (pc := 819) hX dL_law_819 rfl ?_
  refine v_icmp_eq (tgt := 826) (pc := 821) hX dL_law_821 (by decide) (fun _ => ?_) (fun c => absurd rfl c)
  refine v_iload (pc := 826) hX dL_law_826 rfl ?_
  refine v_if_ne (tgt := 850) (pc := 828) hX dL_law_828 (by decide) (fun _ => ?_) (fun c1 => ?_)
  ·
    refine v_goto (tgt := 2680) (pc := 850) hX dL_law_850 (by decide) ?_
    refine mV_sub (lv' := [(5, .int (nI (5 * j))), (4, .ref d), (3, .ref o), (2, .ref r), (1, .ref b), (0, .ref sc)]) ⟨rfl, rfl, rfl, rfl, rfl, rfl, trivial⟩ ?_
    refine mV_widen (ce' := ce + 24) (sl' := sl + 6000) (by omega) (by omega) ?_
    exact k _ _ w1 w2 (by omega)
  ·
    obtain ⟨wa, wb⟩ := w4 c1
    have hv : gL R o 0 = (if yv = 0 then (0 : Int64) else 1) := by rw [wl, wa, wb]
    refine v_aload_n (pc := 831) hX dL_law_831 rfl ?_
    refine v_iconst (v := 0) (pc := 832) hX dL_law_832 (by decide) ?_
    refine v_lald (pc := 833) hX dL_law_833 w2.2.2.2.1 (j := 0) rfl (by decide) (by decide) hv ?_
    refine v_iload (pc := 834) hX dL_law_834 rfl ?_
    refine v_if_eq (tgt := 843) (pc := 836) hX dL_law_836 (by decide) (fun c2 => ?_) (fun c2 => ?_)
    ·
      rw [if_pos c2]
      refine v_lconst (v := 0) (pc := 843) hX dL_law_843 (by decide) ?_
      refine v_lcmp (pc := 844) hX dL_law_844 ?_
      refine v_if_eq (tgt := 850) (pc := 845) hX dL_law_845 (by decide) (fun _ => ?_) (fun c => absurd (lg_self _) c)
      refine v_goto (tgt := 2680) (pc := 850) hX dL_law_850 (by decide) ?_
      refine mV_sub (lv' := [(5, .int (nI (5 * j))), (4, .ref d), (3, .ref o), (2, .ref r), (1, .ref b), (0, .ref sc)]) ⟨rfl, rfl, rfl, rfl, rfl, rfl, trivial⟩ ?_
      refine mV_widen (ce' := ce + 24) (sl' := sl + 6000) (by omega) (by omega) ?_
      exact k _ _ w1 w2 (by omega)
    ·
      rw [if_neg c2]
      refine v_lconst (v := 1) (pc := 839) hX dL_law_839 (by decide) ?_
      refine v_goto (tgt := 844) (pc := 840) hX dL_law_840 (by decide) ?_
      refine v_lcmp (pc := 844) hX dL_law_844 ?_
      refine v_if_eq (tgt := 850) (pc := 845) hX dL_law_845 (by decide) (fun _ => ?_) (fun c => absurd (lg_self _) c)
      refine v_goto (tgt := 2680) (pc := 850) hX dL_law_850 (by decide) ?_
      refine mV_sub (lv' := [(5, .int (nI (5 * j))), (4, .ref d), (3, .ref o), (2, .ref r), (1, .ref b), (0, .ref sc)]) ⟨rfl, rfl, rfl, rfl, rfl, rfl, trivial⟩ ?_
      refine mV_widen (ce' := ce + 24) (sl' := sl + 6000) (by omega) (by omega) ?_
      exact k _ _ w1 w2 (by omega)
set_option maxHeartbeats 4000000 in
theorem lwc_10 {l : Launch} {g : mG} {x : mCx} {nm : String} {m : mM} {sc b r o d T ce sl j L : Nat} {xs : Nat → Int32} (hO : mO l g) (hd : VD g) (hcm : ∀ j, j < 12 → cmI g (cmA g j) = j) (hX : mX l g x cL_law (yLw nm) room_1 9) (hs : oT g .int sc L (fun i => .int (xs i))) (hw : OBJ g m m b r T) (hp : PL m b r o d) (hT : T + 12 ≤ 9000) (hj : 5 * j + 5 ≤ L) (hL : L ≤ 2560) (hce : ce + 24 ≤ 613022) (hsl : sl + 6000 ≤ 7185358) (k : ∀ (R : mM) (T1 : Nat), OBJ g R R b r T1 → PL R b r o d → T1 ≤ T + 12 → mV g x R (ce + 24) (sl + 6000) 2680 [(5, .int (nI (5 * j))), (4, .ref d), (3, .ref o), (2, .ref r), (1, .ref b), (0, .ref sc)] []) : mV g x m ce sl 853 [(5, .int (nI (5 * j))), (4, .ref d), (3, .ref o), (2, .ref r), (1, .ref b), (0, .ref sc)] [] := by
  obtain ⟨N, H, nx, C, v⟩ := VW.of hw
  have hc : ∀ mr, VW g m mr b r T N H nx C → CL g b r o d (T + 1) m mr (X10_assemble_m g m b (xs (5 * j + 1)) (xs (5 * j + 2)) (xs (5 * j + 3)) (xs (5 * j + 4)) N nx) (X11_assemble_m g mr r (xs (5 * j + 1)) (xs (5 * j + 2)) (xs (5 * j + 3)) (xs (5 * j + 4)) N C) [("java/util/NoSuchElementException", 1), ("java/lang/IllegalArgumentException", 2), ("java/lang/IllegalStateException", 3)] (X10_assemble_x g m b (xs (5 * j + 1)) (xs (5 * j + 2)) (xs (5 * j + 3)) (xs (5 * j + 4)) N nx) (X10_assemble_r g m b (xs (5 * j + 1)) (xs (5 * j + 2)) (xs (5 * j + 3)) (xs (5 * j + 4)) N nx = X11_assemble_r g mr r (xs (5 * j + 1)) (xs (5 * j + 2)) (xs (5 * j + 3)) (xs (5 * j + 4)) N C) := fun mr v => (call_assemble hd v.1 v.2.2.2 v.2.1 v.2.2.1 (by omega) (xs (5 * j + 1)) (xs (5 * j + 2)) (xs (5 * j + 3)) (xs (5 * j + 4))).toCL hp
  have c0 := hc m v
  refine v_aload_n (pc := 853) hX dL_law_853 rfl ?_
  refine v_aload_n (pc := 854) hX dL_law_854 rfl ?_
  refine v_iload (pc := 855) hX dL_law_855 rfl ?_
  refine v_iconst (v := 1) (pc := 857) hX dL_law_857 (by decide) ?_
  refine v_iadd (pc := 858) hX dL_law_858 ?_
  refine v_tiO (j := 5 * j + 1) (pc := 859) hX dL_law_859 hs (nI_k rfl) (by omega) (by omega) ?_
  show mV g x _ _ _ _ _ [.int (xs (5 * j + 1)), .ref b]
  refine v_aload_n (pc := 860) hX dL_law_860 rfl ?_
  refine v_iload (pc := 861) hX dL_law_861 rfl ?_
  refine v_iconst (v := 2) (pc := 863) hX dL_law_863 (by decide) ?_
  refine v_iadd (pc := 864) hX dL_law_864 ?_
  refine v_tiO (j := 5 * j + 2) (pc := 865) hX dL_law_865 hs (nI_k rfl) (by omega) (by omega) ?_
  show mV g x _ _ _ _ _ [.int (xs (5 * j + 2)), .int (xs (5 * j + 1)), .ref b]
  refine v_aload_n (pc := 866) hX dL_law_866 rfl ?_
  refine v_iload (pc := 867) hX dL_law_867 rfl ?_
  refine v_iconst (v := 3) (pc := 869) hX dL_law_869 (by decide) ?_
  refine v_iadd (pc := 870) hX dL_law_870 ?_
  refine v_tiO (j := 5 * j + 3) (pc := 871) hX dL_law_871 hs (nI_k rfl) (by omega) (by omega) ?_
  show mV g x _ _ _ _ _ [.int (xs (5 * j + 3)), .int (xs (5 * j + 2)), .int (xs (5 * j + 1)), .ref b]
  refine v_aload_n (pc := 872) hX dL_law_872 rfl ?_
  refine v_iload (pc := 873) hX dL_law_873 rfl ?_
  refine v_iconst (v := 4) (pc := 875) hX dL_law_875 (by decide) ?_
  refine v_iadd (pc := 876) hX dL_law_876 ?_
  refine v_tiO (j := 5 * j + 4) (pc := 877) hX dL_law_877 hs (nI_k rfl) (by omega) (by omega) ?_
  show mV g x _ _ _ _ _ [.int (xs (5 * j + 4)), .int (xs (5 * j + 3)), .int (xs (5 * j + 2)), .int (xs (5 * j + 1)), .ref b]
  refine v_aload_n (pc := 878) hX dL_law_878 rfl ?_
  refine v_callSX (z := yL_assemble) (pc := 879) hX dL_law_879 (c_L_assemble hO m b (xs (5 * j + 1)) (xs (5 * j + 2)) (xs (5 * j + 3)) (xs (5 * j + 4)) o N nx v.sb v.hN v.N8 v.hn v.n9 (c0.ko hp) c0.e3) wd_1077 wd_1078 wd_0 wd_1079 ⟨by decide, by decide, (by decide +kernel : (parseMethodDescriptor yL_assemble.desc).map (fun d => d.parameters.length) = some 6)⟩ rfl (Nat.le_of_ble_eq_true rfl) ⟨⟨Nat.le_of_ble_eq_true rfl, Nat.le_of_ble_eq_true rfl⟩, (by show ce + 1 ≤ 613022; omega), (by show sl + 6 ≤ 7185358; omega)⟩ (fun E9 m9 h9 => h9.elim) (fun u9 m9 h9 => ?_)
  obtain ⟨kk, rfl, wk⟩ := wkL h9
  clear h9
  have v9 := v.toR (c0.keep (q := o) hp (by have := hp.2.1; have := hp.2.2.1; omega) wk.1 wk.2.1)
  have c9 := hc m9 v9
  clear hc c0
  show mV g x m9 _ _ _ _ [.int kk]
  refine v_istore (pc := 882) hX dL_law_882 (by decide) rfl ?_
  refine v_aload_n (pc := 884) hX dL_law_884 rfl ?_
  refine v_aload_n (pc := 885) hX dL_law_885 rfl ?_
  refine v_iload (pc := 886) hX dL_law_886 rfl ?_
  refine v_iconst (v := 1) (pc := 888) hX dL_law_888 (by decide) ?_
  refine v_iadd (pc := 889) hX dL_law_889 ?_
  refine v_tiO (j := 5 * j + 1) (pc := 890) hX dL_law_890 hs (nI_k rfl) (by omega) (by omega) ?_
  show mV g x _ _ _ _ _ [.int (xs (5 * j + 1)), .ref r]
  refine v_aload_n (pc := 891) hX dL_law_891 rfl ?_
  refine v_iload (pc := 892) hX dL_law_892 rfl ?_
  refine v_iconst (v := 2) (pc := 894) hX dL_law_894 (by decide) ?_
  refine v_iadd (pc := 895) hX dL_law_895 ?_
  refine v_tiO (j := 5 * j + 2) (pc := 896) hX dL_law_896 hs (nI_k rfl) (by omega) (by omega) ?_
  show mV g x _ _ _ _ _ [.int (xs (5 * j + 2)), .int (xs (5 * j + 1)), .ref r]
  refine v_aload_n (pc := 897) hX dL_law_897 rfl ?_
  refine v_iload (pc := 898) hX dL_law_898 rfl ?_
  refine v_iconst (v := 3) (pc := 900) hX dL_law_900 (by decide) ?_
  refine v_iadd (pc := 901) hX dL_law_901 ?_
  refine v_tiO (j := 5 * j + 3) (pc := 902) hX dL_law_902 hs (nI_k rfl) (by omega) (by omega) ?_
  show mV g x _ _ _ _ _ [.int (xs (5 * j + 3)), .int (xs (5 * j + 2)), .int (xs (5 * j + 1)), .ref r]
  refine v_aload_n (pc := 903) hX dL_law_903 rfl ?_
  refine v_iload (pc := 904) hX dL_law_904 rfl ?_
  refine v_iconst (v := 4) (pc := 906) hX dL_law_906 (by decide) ?_
  refine v_iadd (pc := 907) hX dL_law_907 ?_
  refine v_tiO (j := 5 * j + 4) (pc := 908) hX dL_law_908 hs (nI_k rfl) (by omega) (by omega) ?_
  show mV g x _ _ _ _ _ [.int (xs (5 * j + 4)), .int (xs (5 * j + 3)), .int (xs (5 * j + 2)), .int (xs (5 * j + 1)), .ref r]
  refine v_callV (z := yX11_assemble) (pc := 909) hX dL_law_909 (c_X11_assemble hO m9 r (xs (5 * j + 1)) (xs (5 * j + 2)) (xs (5 * j + 3)) (xs (5 * j + 4)) N C v9.sr v9.rN v9.N8 v9.hC v9.C8) v9.sr.1 rfl wd_1716 wd_1717 wd_1718 wd_16 wd_1719 ⟨by decide, by decide, (by decide +kernel : (parseMethodDescriptor yX11_assemble.desc).map (fun d => d.parameters.length) = some 4)⟩ rfl (Nat.le_of_ble_eq_true rfl) ⟨⟨Nat.le_of_ble_eq_true rfl, Nat.le_of_ble_eq_true rfl⟩, (by show ce + 1 + 0 ≤ 613022; omega), (by show sl + 6 + 0 ≤ 7185358; omega)⟩ (fun E9 m8 h9 => h9.elim) (fun u8 R h9 => ?_)
  obtain ⟨rfl, h7⟩ := h9
  rw [← h7] at c9
  generalize (X11_assemble_r g m9 r (xs (5 * j + 1)) (xs (5 * j + 2)) (xs (5 * j + 3)) (xs (5 * j + 4)) N C) = yv at c9 ⊢
  show mV g x R _ _ _ _ [.int yv]
  obtain ⟨w1, w2, wl, wd⟩ := c9.next (q := o) hp v9.sr (by first | exact Or.inl rfl | exact Or.inr rfl) wk.1 wk.2.1
  obtain ⟨w3, w4⟩ := c9.out wk (by decide)
  clear c9
  refine v_istore (pc := 912) hX dL_law_912 (by decide) rfl ?_
  refine v_aload_n (pc := 914) hX dL_law_914 rfl ?_
  refine v_callV (z := yX11_thrown) (pc := 915) hX dL_law_915 (c_X11_thrown hO R r w1.2.2.2.1) w1.2.2.2.1.1 rfl wd_1573 wd_1574 wd_1575 wd_16 wd_1576 ⟨by decide, by decide, (by decide +kernel : (parseMethodDescriptor yX11_thrown.desc).map (fun d => d.parameters.length) = some 0)⟩ rfl (Nat.le_of_ble_eq_true rfl) ⟨⟨Nat.le_of_ble_eq_true rfl, Nat.le_of_ble_eq_true rfl⟩, (by show ce + 1 + 0 + 0 ≤ 613022; omega), (by show sl + 6 + 0 + 0 ≤ 7185358; omega)⟩ (fun E9 m8 h9 => h9.elim) (fun u8 m8 h9 => ?_)
  obtain ⟨rfl, h6⟩ := h9
  replace h6 := h6.symm
  subst h6
  rw [show X11_thrown_r g R r = kk from w3]
  show mV g x R _ _ _ _ [.int kk]
  refine v_iload (pc := 918) hX dL_law_918 rfl ?_
  refine v_icmp_eq (tgt := 925) (pc := 920) hX dL_law_920 (by decide) (fun _ => ?_) (fun c => absurd rfl c)
  refine v_iload (pc := 925) hX dL_law_925 rfl ?_
  refine v_if_ne (tgt := 942) (pc := 927) hX dL_law_927 (by decide) (fun _ => ?_) (fun c1 => ?_)
  ·
    refine v_goto (tgt := 2680) (pc := 942) hX dL_law_942 (by decide) ?_
    refine mV_sub (lv' := [(5, .int (nI (5 * j))), (4, .ref d), (3, .ref o), (2, .ref r), (1, .ref b), (0, .ref sc)]) ⟨rfl, rfl, rfl, rfl, rfl, rfl, trivial⟩ ?_
    refine mV_widen (ce' := ce + 24) (sl' := sl + 6000) (by omega) (by omega) ?_
    exact k _ _ w1 w2 (by omega)
  ·
    obtain ⟨wa, wb⟩ := w4 c1
    have hv : gL R o 0 = yv.toInt64 := by rw [wl, wa, wb]
    refine v_aload_n (pc := 930) hX dL_law_930 rfl ?_
    refine v_iconst (v := 0) (pc := 931) hX dL_law_931 (by decide) ?_
    refine v_lald (pc := 932) hX dL_law_932 w2.2.2.2.1 (j := 0) rfl (by decide) (by decide) hv ?_
    refine v_iload (pc := 933) hX dL_law_933 rfl ?_
    refine v_i2l (pc := 935) hX dL_law_935 ?_
    refine v_lcmp (pc := 936) hX dL_law_936 ?_
    refine v_if_eq (tgt := 942) (pc := 937) hX dL_law_937 (by decide) (fun _ => ?_) (fun c => absurd (lg_self _) c)
    refine v_goto (tgt := 2680) (pc := 942) hX dL_law_942 (by decide) ?_
    refine mV_sub (lv' := [(5, .int (nI (5 * j))), (4, .ref d), (3, .ref o), (2, .ref r), (1, .ref b), (0, .ref sc)]) ⟨rfl, rfl, rfl, rfl, rfl, rfl, trivial⟩ ?_
    refine mV_widen (ce' := ce + 24) (sl' := sl + 6000) (by omega) (by omega) ?_
    exact k _ _ w1 w2 (by omega)
set_option maxHeartbeats 4000000 in
theorem lwc_11 {l : Launch} {g : mG} {x : mCx} {nm : String} {m : mM} {sc b r o d T ce sl j L : Nat} {xs : Nat → Int32} (hO : mO l g) (hd : VD g) (hcm : ∀ j, j < 12 → cmI g (cmA g j) = j) (hX : mX l g x cL_law (yLw nm) room_1 9) (hs : oT g .int sc L (fun i => .int (xs i))) (hw : OBJ g m m b r T) (hp : PL m b r o d) (hT : T + 12 ≤ 9000) (hj : 5 * j + 5 ≤ L) (hL : L ≤ 2560) (hce : ce + 24 ≤ 613022) (hsl : sl + 6000 ≤ 7185358) (k : ∀ (R : mM) (T1 : Nat), OBJ g R R b r T1 → PL R b r o d → T1 ≤ T + 12 → mV g x R (ce + 24) (sl + 6000) 2680 [(5, .int (nI (5 * j))), (4, .ref d), (3, .ref o), (2, .ref r), (1, .ref b), (0, .ref sc)] []) : mV g x m ce sl 945 [(5, .int (nI (5 * j))), (4, .ref d), (3, .ref o), (2, .ref r), (1, .ref b), (0, .ref sc)] [] := by
  obtain ⟨N, H, nx, C, v⟩ := VW.of hw
  have hc : ∀ mr, VW g m mr b r T N H nx C → CL g b r o d (T + 1) m mr (X10_scrap_m g m b (xs (5 * j + 1)) N nx) (X11_scrap_m g mr r (xs (5 * j + 1)) N C) [("java/util/NoSuchElementException", 1)] (X10_scrap_x g m b (xs (5 * j + 1)) N nx) (X10_scrap_r g m b (xs (5 * j + 1)) N nx = X11_scrap_r g mr r (xs (5 * j + 1)) N C) := fun mr v => (call_scrap hd v.1 v.2.2.2 v.2.1 v.2.2.1 (by omega) (xs (5 * j + 1))).toCL hp
  have c0 := hc m v
  refine v_aload_n (pc := 945) hX dL_law_945 rfl ?_
  refine v_aload_n (pc := 946) hX dL_law_946 rfl ?_
  refine v_iload (pc := 947) hX dL_law_947 rfl ?_
  refine v_iconst (v := 1) (pc := 949) hX dL_law_949 (by decide) ?_
  refine v_iadd (pc := 950) hX dL_law_950 ?_
  refine v_tiO (j := 5 * j + 1) (pc := 951) hX dL_law_951 hs (nI_k rfl) (by omega) (by omega) ?_
  show mV g x _ _ _ _ _ [.int (xs (5 * j + 1)), .ref b]
  refine v_aload_n (pc := 952) hX dL_law_952 rfl ?_
  refine v_callSX (z := yL_scrap) (pc := 953) hX dL_law_953 (c_L_scrap hO m b (xs (5 * j + 1)) o N nx v.sb v.hN v.N8 v.hn v.n9 (c0.ko hp) c0.e1) wd_1097 wd_1098 wd_0 wd_1099 ⟨by decide, by decide, (by decide +kernel : (parseMethodDescriptor yL_scrap.desc).map (fun d => d.parameters.length) = some 3)⟩ rfl (Nat.le_of_ble_eq_true rfl) ⟨⟨Nat.le_of_ble_eq_true rfl, Nat.le_of_ble_eq_true rfl⟩, (by show ce + 1 ≤ 613022; omega), (by show sl + 6 ≤ 7185358; omega)⟩ (fun E9 m9 h9 => h9.elim) (fun u9 m9 h9 => ?_)
  obtain ⟨kk, rfl, wk⟩ := wkL h9
  clear h9
  have v9 := v.toR (c0.keep (q := o) hp (by have := hp.2.1; have := hp.2.2.1; omega) wk.1 wk.2.1)
  have c9 := hc m9 v9
  clear hc c0
  show mV g x m9 _ _ _ _ [.int kk]
  refine v_istore (pc := 956) hX dL_law_956 (by decide) rfl ?_
  refine v_aload_n (pc := 958) hX dL_law_958 rfl ?_
  refine v_aload_n (pc := 959) hX dL_law_959 rfl ?_
  refine v_iload (pc := 960) hX dL_law_960 rfl ?_
  refine v_iconst (v := 1) (pc := 962) hX dL_law_962 (by decide) ?_
  refine v_iadd (pc := 963) hX dL_law_963 ?_
  refine v_tiO (j := 5 * j + 1) (pc := 964) hX dL_law_964 hs (nI_k rfl) (by omega) (by omega) ?_
  show mV g x _ _ _ _ _ [.int (xs (5 * j + 1)), .ref r]
  refine v_callV (z := yX11_scrap) (pc := 965) hX dL_law_965 (c_X11_scrap hO m9 r (xs (5 * j + 1)) N C v9.sr v9.rN v9.N8 v9.hC v9.C8) v9.sr.1 rfl wd_1732 wd_1733 wd_1734 wd_16 wd_1735 ⟨by decide, by decide, (by decide +kernel : (parseMethodDescriptor yX11_scrap.desc).map (fun d => d.parameters.length) = some 1)⟩ rfl (Nat.le_of_ble_eq_true rfl) ⟨⟨Nat.le_of_ble_eq_true rfl, Nat.le_of_ble_eq_true rfl⟩, (by show ce + 1 + 0 ≤ 613022; omega), (by show sl + 6 + 0 ≤ 7185358; omega)⟩ (fun E9 m8 h9 => h9.elim) (fun u8 R h9 => ?_)
  obtain ⟨rfl, h7⟩ := h9
  rw [← h7] at c9
  generalize (X11_scrap_r g m9 r (xs (5 * j + 1)) N C) = yv at c9 ⊢
  show mV g x R _ _ _ _ [.int yv]
  obtain ⟨w1, w2, wl, wd⟩ := c9.next (q := o) hp v9.sr (by first | exact Or.inl rfl | exact Or.inr rfl) wk.1 wk.2.1
  obtain ⟨w3, w4⟩ := c9.out wk (by decide)
  clear c9
  refine v_istore (pc := 968) hX dL_law_968 (by decide) rfl ?_
  refine v_aload_n (pc := 970) hX dL_law_970 rfl ?_
  refine v_callV (z := yX11_thrown) (pc := 971) hX dL_law_971 (c_X11_thrown hO R r w1.2.2.2.1) w1.2.2.2.1.1 rfl wd_1573 wd_1574 wd_1575 wd_16 wd_1576 ⟨by decide, by decide, (by decide +kernel : (parseMethodDescriptor yX11_thrown.desc).map (fun d => d.parameters.length) = some 0)⟩ rfl (Nat.le_of_ble_eq_true rfl) ⟨⟨Nat.le_of_ble_eq_true rfl, Nat.le_of_ble_eq_true rfl⟩, (by show ce + 1 + 0 + 0 ≤ 613022; omega), (by show sl + 6 + 0 + 0 ≤ 7185358; omega)⟩ (fun E9 m8 h9 => h9.elim) (fun u8 m8 h9 => ?_)
  obtain ⟨rfl, h6⟩ := h9
  replace h6 := h6.symm
  subst h6
  rw [show X11_thrown_r g R r = kk from w3]
  show mV g x R _ _ _ _ [.int kk]
  refine v_iload (pc := 974) hX dL_law_974 rfl ?_
  refine v_icmp_eq (tgt := 981) (pc := 976) hX dL_law_976 (by decide) (fun _ => ?_) (fun c => absurd rfl c)
  refine v_iload (pc := 981) hX dL_law_981 rfl ?_
  refine v_if_ne (tgt := 998) (pc := 983) hX dL_law_983 (by decide) (fun _ => ?_) (fun c1 => ?_)
  ·
    refine v_goto (tgt := 2680) (pc := 998) hX dL_law_998 (by decide) ?_
    refine mV_sub (lv' := [(5, .int (nI (5 * j))), (4, .ref d), (3, .ref o), (2, .ref r), (1, .ref b), (0, .ref sc)]) ⟨rfl, rfl, rfl, rfl, rfl, rfl, trivial⟩ ?_
    refine mV_widen (ce' := ce + 24) (sl' := sl + 6000) (by omega) (by omega) ?_
    exact k _ _ w1 w2 (by omega)
  ·
    obtain ⟨wa, wb⟩ := w4 c1
    have hv : gL R o 0 = yv.toInt64 := by rw [wl, wa, wb]
    refine v_aload_n (pc := 986) hX dL_law_986 rfl ?_
    refine v_iconst (v := 0) (pc := 987) hX dL_law_987 (by decide) ?_
    refine v_lald (pc := 988) hX dL_law_988 w2.2.2.2.1 (j := 0) rfl (by decide) (by decide) hv ?_
    refine v_iload (pc := 989) hX dL_law_989 rfl ?_
    refine v_i2l (pc := 991) hX dL_law_991 ?_
    refine v_lcmp (pc := 992) hX dL_law_992 ?_
    refine v_if_eq (tgt := 998) (pc := 993) hX dL_law_993 (by decide) (fun _ => ?_) (fun c => absurd (lg_self _) c)
    refine v_goto (tgt := 2680) (pc := 998) hX dL_law_998 (by decide) ?_
    refine mV_sub (lv' := [(5, .int (nI (5 * j))), (4, .ref d), (3, .ref o), (2, .ref r), (1, .ref b), (0, .ref sc)]) ⟨rfl, rfl, rfl, rfl, rfl, rfl, trivial⟩ ?_
    refine mV_widen (ce' := ce + 24) (sl' := sl + 6000) (by omega) (by omega) ?_
    exact k _ _ w1 w2 (by omega)
set_option maxHeartbeats 4000000 in
theorem lwc_12 {l : Launch} {g : mG} {x : mCx} {nm : String} {m : mM} {sc b r o d T ce sl j L : Nat} {xs : Nat → Int32} (hO : mO l g) (hd : VD g) (hcm : ∀ j, j < 12 → cmI g (cmA g j) = j) (hX : mX l g x cL_law (yLw nm) room_1 9) (hs : oT g .int sc L (fun i => .int (xs i))) (hw : OBJ g m m b r T) (hp : PL m b r o d) (hT : T + 12 ≤ 9000) (hj : 5 * j + 5 ≤ L) (hL : L ≤ 2560) (hce : ce + 24 ≤ 613022) (hsl : sl + 6000 ≤ 7185358) (k : ∀ (R : mM) (T1 : Nat), OBJ g R R b r T1 → PL R b r o d → T1 ≤ T + 12 → mV g x R (ce + 24) (sl + 6000) 2680 [(5, .int (nI (5 * j))), (4, .ref d), (3, .ref o), (2, .ref r), (1, .ref b), (0, .ref sc)] []) : mV g x m ce sl 1001 [(5, .int (nI (5 * j))), (4, .ref d), (3, .ref o), (2, .ref r), (1, .ref b), (0, .ref sc)] [] := by
  obtain ⟨N, H, nx, C, v⟩ := VW.of hw
  have hc : ∀ mr, VW g m mr b r T N H nx C → CL g b r o d T m mr m (X11_time_m g mr r) [] none (X10_time_r g m b = X11_time_r g mr r) := fun mr v => (q_time v.1 v.2.1).toCL hp
  have c0 := hc m v
  refine v_aload_n (pc := 1001) hX dL_law_1001 rfl ?_
  refine v_callV (z := yX10_time) (pc := 1002) hX dL_law_1002 (c_X10_time hO m b v.sb) v.sb.1 rfl wd_337 wd_338 wd_339 wd_1 wd_340 ⟨by decide, by decide, (by decide +kernel : (parseMethodDescriptor yX10_time.desc).map (fun d => d.parameters.length) = some 0)⟩ rfl (Nat.le_of_ble_eq_true rfl) ⟨⟨Nat.le_of_ble_eq_true rfl, Nat.le_of_ble_eq_true rfl⟩, (by show ce + 0 ≤ 613022; omega), (by show sl + 0 ≤ 7185358; omega)⟩ (fun E9 m9 h9 => h9.elim) (fun u9 m9 h9 => ?_)
  obtain ⟨rfl, h8⟩ := h9
  replace h8 := h8.symm
  subst h8
  have v9 := v
  have c9 := c0
  clear hc c0
  show mV g x m _ _ _ _ [.int (X10_time_r g m b)]
  refine v_aload_n (pc := 1005) hX dL_law_1005 rfl ?_
  refine v_callV (z := yX11_time) (pc := 1006) hX dL_law_1006 (c_X11_time hO m r v9.sr) v9.sr.1 rfl wd_1740 wd_1741 wd_1742 wd_16 wd_1743 ⟨by decide, by decide, (by decide +kernel : (parseMethodDescriptor yX11_time.desc).map (fun d => d.parameters.length) = some 0)⟩ rfl (Nat.le_of_ble_eq_true rfl) ⟨⟨Nat.le_of_ble_eq_true rfl, Nat.le_of_ble_eq_true rfl⟩, (by show ce + 0 + 0 ≤ 613022; omega), (by show sl + 0 + 0 ≤ 7185358; omega)⟩ (fun E9 m8 h9 => h9.elim) (fun u8 R h9 => ?_)
  obtain ⟨rfl, h7⟩ := h9
  rw [← h7] at c9
  generalize (X11_time_r g m r) = yv at c9 ⊢
  show mV g x R _ _ _ _ [.int yv, .int (X10_time_r g m b)]
  obtain ⟨w1, w2, -, -⟩ := c9.next (q := o) hp v9.sr (Or.inl rfl) rfl (fun _ _ => Sm.rf)
  have ws := c9.same0
  clear c9
  refine v_icmp_eq (tgt := 2680) (pc := 1009) hX dL_law_1009 (by decide) (fun _ => ?_) (fun c => absurd ws c)
  refine mV_sub (lv' := [(5, .int (nI (5 * j))), (4, .ref d), (3, .ref o), (2, .ref r), (1, .ref b), (0, .ref sc)]) ⟨rfl, rfl, rfl, rfl, rfl, rfl, trivial⟩ ?_
  refine mV_widen (ce' := ce + 24) (sl' := sl + 6000) (by omega) (by omega) ?_
  exact k _ _ w1 w2 (by omega)
set_option maxHeartbeats 4000000 in
theorem lwc_13 {l : Launch} {g : mG} {x : mCx} {nm : String} {m : mM} {sc b r o d T ce sl j L : Nat} {xs : Nat → Int32} (hO : mO l g) (hd : VD g) (hcm : ∀ j, j < 12 → cmI g (cmA g j) = j) (hX : mX l g x cL_law (yLw nm) room_1 9) (hs : oT g .int sc L (fun i => .int (xs i))) (hw : OBJ g m m b r T) (hp : PL m b r o d) (hT : T + 12 ≤ 9000) (hj : 5 * j + 5 ≤ L) (hL : L ≤ 2560) (hce : ce + 24 ≤ 613022) (hsl : sl + 6000 ≤ 7185358) (k : ∀ (R : mM) (T1 : Nat), OBJ g R R b r T1 → PL R b r o d → T1 ≤ T + 12 → mV g x R (ce + 24) (sl + 6000) 2680 [(5, .int (nI (5 * j))), (4, .ref d), (3, .ref o), (2, .ref r), (1, .ref b), (0, .ref sc)] []) : mV g x m ce sl 1014 [(5, .int (nI (5 * j))), (4, .ref d), (3, .ref o), (2, .ref r), (1, .ref b), (0, .ref sc)] [] := by
  obtain ⟨N, H, nx, C, v⟩ := VW.of hw
  have hc : ∀ mr, VW g m mr b r T N H nx C → CL g b r o d T m mr m (X11_furnace_m g mr r) [] none (X10_furnace_r g m b = X11_furnace_r g mr r) := fun mr v => (q_furnace v.1 v.2.1).toCL hp
  have c0 := hc m v
  refine v_aload_n (pc := 1014) hX dL_law_1014 rfl ?_
  refine v_callV (z := yX10_furnace) (pc := 1015) hX dL_law_1015 (c_X10_furnace hO m b v.sb) v.sb.1 rfl wd_341 wd_342 wd_343 wd_1 wd_344 ⟨by decide, by decide, (by decide +kernel : (parseMethodDescriptor yX10_furnace.desc).map (fun d => d.parameters.length) = some 0)⟩ rfl (Nat.le_of_ble_eq_true rfl) ⟨⟨Nat.le_of_ble_eq_true rfl, Nat.le_of_ble_eq_true rfl⟩, (by show ce + 0 ≤ 613022; omega), (by show sl + 0 ≤ 7185358; omega)⟩ (fun E9 m9 h9 => h9.elim) (fun u9 m9 h9 => ?_)
  obtain ⟨rfl, h8⟩ := h9
  replace h8 := h8.symm
  subst h8
  have v9 := v
  have c9 := c0
  clear hc c0
  show mV g x m _ _ _ _ [.int (X10_furnace_r g m b)]
  refine v_aload_n (pc := 1018) hX dL_law_1018 rfl ?_
  refine v_callV (z := yX11_furnace) (pc := 1019) hX dL_law_1019 (c_X11_furnace hO m r v9.sr) v9.sr.1 rfl wd_1748 wd_1749 wd_1750 wd_16 wd_1751 ⟨by decide, by decide, (by decide +kernel : (parseMethodDescriptor yX11_furnace.desc).map (fun d => d.parameters.length) = some 0)⟩ rfl (Nat.le_of_ble_eq_true rfl) ⟨⟨Nat.le_of_ble_eq_true rfl, Nat.le_of_ble_eq_true rfl⟩, (by show ce + 0 + 0 ≤ 613022; omega), (by show sl + 0 + 0 ≤ 7185358; omega)⟩ (fun E9 m8 h9 => h9.elim) (fun u8 R h9 => ?_)
  obtain ⟨rfl, h7⟩ := h9
  rw [← h7] at c9
  generalize (X11_furnace_r g m r) = yv at c9 ⊢
  show mV g x R _ _ _ _ [.int yv, .int (X10_furnace_r g m b)]
  obtain ⟨w1, w2, -, -⟩ := c9.next (q := o) hp v9.sr (Or.inl rfl) rfl (fun _ _ => Sm.rf)
  have ws := c9.same0
  clear c9
  refine v_icmp_eq (tgt := 2680) (pc := 1022) hX dL_law_1022 (by decide) (fun _ => ?_) (fun c => absurd ws c)
  refine mV_sub (lv' := [(5, .int (nI (5 * j))), (4, .ref d), (3, .ref o), (2, .ref r), (1, .ref b), (0, .ref sc)]) ⟨rfl, rfl, rfl, rfl, rfl, rfl, trivial⟩ ?_
  refine mV_widen (ce' := ce + 24) (sl' := sl + 6000) (by omega) (by omega) ?_
  exact k _ _ w1 w2 (by omega)
set_option maxHeartbeats 4000000 in
theorem lwc_14 {l : Launch} {g : mG} {x : mCx} {nm : String} {m : mM} {sc b r o d T ce sl j L : Nat} {xs : Nat → Int32} (hO : mO l g) (hd : VD g) (hcm : ∀ j, j < 12 → cmI g (cmA g j) = j) (hX : mX l g x cL_law (yLw nm) room_1 9) (hs : oT g .int sc L (fun i => .int (xs i))) (hw : OBJ g m m b r T) (hp : PL m b r o d) (hT : T + 12 ≤ 9000) (hj : 5 * j + 5 ≤ L) (hL : L ≤ 2560) (hce : ce + 24 ≤ 613022) (hsl : sl + 6000 ≤ 7185358) (k : ∀ (R : mM) (T1 : Nat), OBJ g R R b r T1 → PL R b r o d → T1 ≤ T + 12 → mV g x R (ce + 24) (sl + 6000) 2680 [(5, .int (nI (5 * j))), (4, .ref d), (3, .ref o), (2, .ref r), (1, .ref b), (0, .ref sc)] []) : mV g x m ce sl 1027 [(5, .int (nI (5 * j))), (4, .ref d), (3, .ref o), (2, .ref r), (1, .ref b), (0, .ref sc)] [] := by
  obtain ⟨N, H, nx, C, v⟩ := VW.of hw
  have hc : ∀ mr, VW g m mr b r T N H nx C → CL g b r o d T m mr m (X11_bellows_m g mr r) [] none (X10_bellows_r g m b = X11_bellows_r g mr r) := fun mr v => (q_bellows v.1 v.2.1).toCL hp
  have c0 := hc m v
  refine v_aload_n (pc := 1027) hX dL_law_1027 rfl ?_
  refine v_callV (z := yX10_bellows) (pc := 1028) hX dL_law_1028 (c_X10_bellows hO m b v.sb) v.sb.1 rfl wd_345 wd_346 wd_347 wd_1 wd_348 ⟨by decide, by decide, (by decide +kernel : (parseMethodDescriptor yX10_bellows.desc).map (fun d => d.parameters.length) = some 0)⟩ rfl (Nat.le_of_ble_eq_true rfl) ⟨⟨Nat.le_of_ble_eq_true rfl, Nat.le_of_ble_eq_true rfl⟩, (by show ce + 0 ≤ 613022; omega), (by show sl + 0 ≤ 7185358; omega)⟩ (fun E9 m9 h9 => h9.elim) (fun u9 m9 h9 => ?_)
  obtain ⟨rfl, h8⟩ := h9
  replace h8 := h8.symm
  subst h8
  have v9 := v
  have c9 := c0
  clear hc c0
  show mV g x m _ _ _ _ [.int (X10_bellows_r g m b)]
  refine v_aload_n (pc := 1031) hX dL_law_1031 rfl ?_
  refine v_callV (z := yX11_bellows) (pc := 1032) hX dL_law_1032 (c_X11_bellows hO m r v9.sr) v9.sr.1 rfl wd_1752 wd_1753 wd_1754 wd_16 wd_1755 ⟨by decide, by decide, (by decide +kernel : (parseMethodDescriptor yX11_bellows.desc).map (fun d => d.parameters.length) = some 0)⟩ rfl (Nat.le_of_ble_eq_true rfl) ⟨⟨Nat.le_of_ble_eq_true rfl, Nat.le_of_ble_eq_true rfl⟩, (by show ce + 0 + 0 ≤ 613022; omega), (by show sl + 0 + 0 ≤ 7185358; omega)⟩ (fun E9 m8 h9 => h9.elim) (fun u8 R h9 => ?_)
  obtain ⟨rfl, h7⟩ := h9
  rw [← h7] at c9
  generalize (X11_bellows_r g m r) = yv at c9 ⊢
  show mV g x R _ _ _ _ [.int yv, .int (X10_bellows_r g m b)]
  obtain ⟨w1, w2, -, -⟩ := c9.next (q := o) hp v9.sr (Or.inl rfl) rfl (fun _ _ => Sm.rf)
  have ws := c9.same0
  clear c9
  refine v_icmp_eq (tgt := 2680) (pc := 1035) hX dL_law_1035 (by decide) (fun _ => ?_) (fun c => absurd ws c)
  refine mV_sub (lv' := [(5, .int (nI (5 * j))), (4, .ref d), (3, .ref o), (2, .ref r), (1, .ref b), (0, .ref sc)]) ⟨rfl, rfl, rfl, rfl, rfl, rfl, trivial⟩ ?_
  refine mV_widen (ce' := ce + 24) (sl' := sl + 6000) (by omega) (by omega) ?_
  exact k _ _ w1 w2 (by omega)
set_option maxHeartbeats 4000000 in
theorem lwc_15 {l : Launch} {g : mG} {x : mCx} {nm : String} {m : mM} {sc b r o d T ce sl j L : Nat} {xs : Nat → Int32} (hO : mO l g) (hd : VD g) (hcm : ∀ j, j < 12 → cmI g (cmA g j) = j) (hX : mX l g x cL_law (yLw nm) room_1 9) (hs : oT g .int sc L (fun i => .int (xs i))) (hw : OBJ g m m b r T) (hp : PL m b r o d) (hT : T + 12 ≤ 9000) (hj : 5 * j + 5 ≤ L) (hL : L ≤ 2560) (hce : ce + 24 ≤ 613022) (hsl : sl + 6000 ≤ 7185358) (k : ∀ (R : mM) (T1 : Nat), OBJ g R R b r T1 → PL R b r o d → T1 ≤ T + 12 → mV g x R (ce + 24) (sl + 6000) 2680 [(5, .int (nI (5 * j))), (4, .ref d), (3, .ref o), (2, .ref r), (1, .ref b), (0, .ref sc)] []) : mV g x m ce sl 1040 [(5, .int (nI (5 * j))), (4, .ref d), (3, .ref o), (2, .ref r), (1, .ref b), (0, .ref sc)] [] := by
  obtain ⟨N, H, nx, C, v⟩ := VW.of hw
  have hc : ∀ mr, VW g m mr b r T N H nx C → CL g b r o d T m mr m (X11_coal_m g mr r) [] none (X10_coal_r g m b = X11_coal_r g mr r) := fun mr v => (q_coal v.1 v.2.1).toCL hp
  have c0 := hc m v
  refine v_aload_n (pc := 1040) hX dL_law_1040 rfl ?_
  refine v_callV (z := yX10_coal) (pc := 1041) hX dL_law_1041 (c_X10_coal hO m b v.sb) v.sb.1 rfl wd_349 wd_350 wd_351 wd_1 wd_352 ⟨by decide, by decide, (by decide +kernel : (parseMethodDescriptor yX10_coal.desc).map (fun d => d.parameters.length) = some 0)⟩ rfl (Nat.le_of_ble_eq_true rfl) ⟨⟨Nat.le_of_ble_eq_true rfl, Nat.le_of_ble_eq_true rfl⟩, (by show ce + 0 ≤ 613022; omega), (by show sl + 0 ≤ 7185358; omega)⟩ (fun E9 m9 h9 => h9.elim) (fun u9 m9 h9 => ?_)
  obtain ⟨rfl, h8⟩ := h9
  replace h8 := h8.symm
  subst h8
  have v9 := v
  have c9 := c0
  clear hc c0
  show mV g x m _ _ _ _ [.int (X10_coal_r g m b)]
  refine v_aload_n (pc := 1044) hX dL_law_1044 rfl ?_
  refine v_callV (z := yX11_coal) (pc := 1045) hX dL_law_1045 (c_X11_coal hO m r v9.sr) v9.sr.1 rfl wd_1756 wd_1757 wd_1758 wd_16 wd_1759 ⟨by decide, by decide, (by decide +kernel : (parseMethodDescriptor yX11_coal.desc).map (fun d => d.parameters.length) = some 0)⟩ rfl (Nat.le_of_ble_eq_true rfl) ⟨⟨Nat.le_of_ble_eq_true rfl, Nat.le_of_ble_eq_true rfl⟩, (by show ce + 0 + 0 ≤ 613022; omega), (by show sl + 0 + 0 ≤ 7185358; omega)⟩ (fun E9 m8 h9 => h9.elim) (fun u8 R h9 => ?_)
  obtain ⟨rfl, h7⟩ := h9
  rw [← h7] at c9
  generalize (X11_coal_r g m r) = yv at c9 ⊢
  show mV g x R _ _ _ _ [.int yv, .int (X10_coal_r g m b)]
  obtain ⟨w1, w2, -, -⟩ := c9.next (q := o) hp v9.sr (Or.inl rfl) rfl (fun _ _ => Sm.rf)
  have ws := c9.same0
  clear c9
  refine v_icmp_eq (tgt := 2680) (pc := 1048) hX dL_law_1048 (by decide) (fun _ => ?_) (fun c => absurd ws c)
  refine mV_sub (lv' := [(5, .int (nI (5 * j))), (4, .ref d), (3, .ref o), (2, .ref r), (1, .ref b), (0, .ref sc)]) ⟨rfl, rfl, rfl, rfl, rfl, rfl, trivial⟩ ?_
  refine mV_widen (ce' := ce + 24) (sl' := sl + 6000) (by omega) (by omega) ?_
  exact k _ _ w1 w2 (by omega)
set_option maxHeartbeats 4000000 in
theorem lwc_16 {l : Launch} {g : mG} {x : mCx} {nm : String} {m : mM} {sc b r o d T ce sl j L : Nat} {xs : Nat → Int32} (hO : mO l g) (hd : VD g) (hcm : ∀ j, j < 12 → cmI g (cmA g j) = j) (hX : mX l g x cL_law (yLw nm) room_1 9) (hs : oT g .int sc L (fun i => .int (xs i))) (hw : OBJ g m m b r T) (hp : PL m b r o d) (hT : T + 12 ≤ 9000) (hj : 5 * j + 5 ≤ L) (hL : L ≤ 2560) (hce : ce + 24 ≤ 613022) (hsl : sl + 6000 ≤ 7185358) (k : ∀ (R : mM) (T1 : Nat), OBJ g R R b r T1 → PL R b r o d → T1 ≤ T + 12 → mV g x R (ce + 24) (sl + 6000) 2680 [(5, .int (nI (5 * j))), (4, .ref d), (3, .ref o), (2, .ref r), (1, .ref b), (0, .ref sc)] []) : mV g x m ce sl 1053 [(5, .int (nI (5 * j))), (4, .ref d), (3, .ref o), (2, .ref r), (1, .ref b), (0, .ref sc)] [] := by
  obtain ⟨N, H, nx, C, v⟩ := VW.of hw
  have hc : ∀ mr, VW g m mr b r T N H nx C → CL g b r o d T m mr m (X11_coalMinutes_m g mr r) [("java/lang/ArithmeticException", 1)] (X10_coalMinutes_x g m b) (X10_coalMinutes_r g m b = X11_coalMinutes_r g mr r) := fun mr v => (q_coalMinutes hd v.1 v.2.1 v.2.2.1).toCL hp
  have c0 := hc m v
  refine v_aload_n (pc := 1053) hX dL_law_1053 rfl ?_
  refine v_aload_n (pc := 1054) hX dL_law_1054 rfl ?_
  refine v_callSX (z := yL_coalMinutes) (pc := 1055) hX dL_law_1055 (c_L_coalMinutes hO m b o v.sb hp.2.2.2.1 c0.e1) wd_1108 wd_1109 wd_0 wd_1110 ⟨by decide, by decide, (by decide +kernel : (parseMethodDescriptor yL_coalMinutes.desc).map (fun d => d.parameters.length) = some 2)⟩ rfl (Nat.le_of_ble_eq_true rfl) ⟨⟨Nat.le_of_ble_eq_true rfl, Nat.le_of_ble_eq_true rfl⟩, (by show ce + 1 ≤ 613022; omega), (by show sl + 6 ≤ 7185358; omega)⟩ (fun E9 m9 h9 => h9.elim) (fun u9 m9 h9 => ?_)
  obtain ⟨kk, rfl, wk⟩ := wkL h9
  clear h9
  have v9 := v.toR (c0.keep (q := o) hp (by have := hp.2.1; have := hp.2.2.1; omega) wk.1 wk.2.1)
  have c9 := hc m9 v9
  clear hc c0
  show mV g x m9 _ _ _ _ [.int kk]
  refine v_istore (pc := 1058) hX dL_law_1058 (by decide) rfl ?_
  refine v_aload_n (pc := 1060) hX dL_law_1060 rfl ?_
  refine v_callV (z := yX11_coalMinutes) (pc := 1061) hX dL_law_1061 (c_X11_coalMinutes hO m9 r v9.sr) v9.sr.1 rfl wd_1760 wd_1761 wd_1762 wd_16 wd_1763 ⟨by decide, by decide, (by decide +kernel : (parseMethodDescriptor yX11_coalMinutes.desc).map (fun d => d.parameters.length) = some 0)⟩ rfl (Nat.le_of_ble_eq_true rfl) ⟨⟨Nat.le_of_ble_eq_true rfl, Nat.le_of_ble_eq_true rfl⟩, (by show ce + 1 + 0 ≤ 613022; omega), (by show sl + 6 + 0 ≤ 7185358; omega)⟩ (fun E9 m8 h9 => h9.elim) (fun u8 R h9 => ?_)
  obtain ⟨rfl, h7⟩ := h9
  rw [← h7] at c9
  generalize (X11_coalMinutes_r g m9 r) = yv at c9 ⊢
  show mV g x R _ _ _ _ [.int yv]
  obtain ⟨w1, w2, wl, wd⟩ := c9.next (q := o) hp v9.sr (by first | exact Or.inl rfl | exact Or.inr rfl) wk.1 wk.2.1
  obtain ⟨w3, w4⟩ := c9.out wk (by decide)
  clear c9
  refine v_istore (pc := 1064) hX dL_law_1064 (by decide) rfl ?_
  refine v_aload_n (pc := 1066) hX dL_law_1066 rfl ?_
  refine v_callV (z := yX11_thrown) (pc := 1067) hX dL_law_1067 (c_X11_thrown hO R r w1.2.2.2.1) w1.2.2.2.1.1 rfl wd_1573 wd_1574 wd_1575 wd_16 wd_1576 ⟨by decide, by decide, (by decide +kernel : (parseMethodDescriptor yX11_thrown.desc).map (fun d => d.parameters.length) = some 0)⟩ rfl (Nat.le_of_ble_eq_true rfl) ⟨⟨Nat.le_of_ble_eq_true rfl, Nat.le_of_ble_eq_true rfl⟩, (by show ce + 1 + 0 + 0 ≤ 613022; omega), (by show sl + 6 + 0 + 0 ≤ 7185358; omega)⟩ (fun E9 m8 h9 => h9.elim) (fun u8 m8 h9 => ?_)
  obtain ⟨rfl, h6⟩ := h9
  replace h6 := h6.symm
  subst h6
  rw [show X11_thrown_r g R r = kk from w3]
  show mV g x R _ _ _ _ [.int kk]
  refine v_iload (pc := 1070) hX dL_law_1070 rfl ?_
  refine v_icmp_eq (tgt := 1077) (pc := 1072) hX dL_law_1072 (by decide) (fun _ => ?_) (fun c => absurd rfl c)
  refine v_iload (pc := 1077) hX dL_law_1077 rfl ?_
  refine v_if_ne (tgt := 1094) (pc := 1079) hX dL_law_1079 (by decide) (fun _ => ?_) (fun c1 => ?_)
  ·
    refine v_goto (tgt := 2680) (pc := 1094) hX dL_law_1094 (by decide) ?_
    refine mV_sub (lv' := [(5, .int (nI (5 * j))), (4, .ref d), (3, .ref o), (2, .ref r), (1, .ref b), (0, .ref sc)]) ⟨rfl, rfl, rfl, rfl, rfl, rfl, trivial⟩ ?_
    refine mV_widen (ce' := ce + 24) (sl' := sl + 6000) (by omega) (by omega) ?_
    exact k _ _ w1 w2 (by omega)
  ·
    obtain ⟨wa, wb⟩ := w4 c1
    have hv : gL R o 0 = yv.toInt64 := by rw [wl, wa, wb]
    refine v_aload_n (pc := 1082) hX dL_law_1082 rfl ?_
    refine v_iconst (v := 0) (pc := 1083) hX dL_law_1083 (by decide) ?_
    refine v_lald (pc := 1084) hX dL_law_1084 w2.2.2.2.1 (j := 0) rfl (by decide) (by decide) hv ?_
    refine v_iload (pc := 1085) hX dL_law_1085 rfl ?_
    refine v_i2l (pc := 1087) hX dL_law_1087 ?_
    refine v_lcmp (pc := 1088) hX dL_law_1088 ?_
    refine v_if_eq (tgt := 1094) (pc := 1089) hX dL_law_1089 (by decide) (fun _ => ?_) (fun c => absurd (lg_self _) c)
    refine v_goto (tgt := 2680) (pc := 1094) hX dL_law_1094 (by decide) ?_
    refine mV_sub (lv' := [(5, .int (nI (5 * j))), (4, .ref d), (3, .ref o), (2, .ref r), (1, .ref b), (0, .ref sc)]) ⟨rfl, rfl, rfl, rfl, rfl, rfl, trivial⟩ ?_
    refine mV_widen (ce' := ce + 24) (sl' := sl + 6000) (by omega) (by omega) ?_
    exact k _ _ w1 w2 (by omega)
set_option maxHeartbeats 4000000 in
theorem lwc_17 {l : Launch} {g : mG} {x : mCx} {nm : String} {m : mM} {sc b r o d T ce sl j L : Nat} {xs : Nat → Int32} (hO : mO l g) (hd : VD g) (hcm : ∀ j, j < 12 → cmI g (cmA g j) = j) (hX : mX l g x cL_law (yLw nm) room_1 9) (hs : oT g .int sc L (fun i => .int (xs i))) (hw : OBJ g m m b r T) (hp : PL m b r o d) (hT : T + 12 ≤ 9000) (hj : 5 * j + 5 ≤ L) (hL : L ≤ 2560) (hce : ce + 24 ≤ 613022) (hsl : sl + 6000 ≤ 7185358) (k : ∀ (R : mM) (T1 : Nat), OBJ g R R b r T1 → PL R b r o d → T1 ≤ T + 12 → mV g x R (ce + 24) (sl + 6000) 2680 [(5, .int (nI (5 * j))), (4, .ref d), (3, .ref o), (2, .ref r), (1, .ref b), (0, .ref sc)] []) : mV g x m ce sl 1097 [(5, .int (nI (5 * j))), (4, .ref d), (3, .ref o), (2, .ref r), (1, .ref b), (0, .ref sc)] [] := by
  obtain ⟨N, H, nx, C, v⟩ := VW.of hw
  have hc : ∀ mr, VW g m mr b r T N H nx C → CL g b r o d T m mr m (X11_piecesInFurnace_m g mr r N) [] none (X10_piecesInFurnace_r g m b N = X11_piecesInFurnace_r g mr r N) := fun mr v => (q_piecesInFurnace hd v.1 v.2.1 v.2.2.1).toCL hp
  have c0 := hc m v
  refine v_aload_n (pc := 1097) hX dL_law_1097 rfl ?_
  refine v_callV (z := yX10_piecesInFurnace) (pc := 1098) hX dL_law_1098 (c_X10_piecesInFurnace hO m b N v.sb v.hN v.N8) v.sb.1 rfl wd_353 wd_354 wd_355 wd_1 wd_356 ⟨by decide, by decide, (by decide +kernel : (parseMethodDescriptor yX10_piecesInFurnace.desc).map (fun d => d.parameters.length) = some 0)⟩ rfl (Nat.le_of_ble_eq_true rfl) ⟨⟨Nat.le_of_ble_eq_true rfl, Nat.le_of_ble_eq_true rfl⟩, (by show ce + 0 ≤ 613022; omega), (by show sl + 0 ≤ 7185358; omega)⟩ (fun E9 m9 h9 => h9.elim) (fun u9 m9 h9 => ?_)
  obtain ⟨rfl, h8⟩ := h9
  replace h8 := h8.symm
  subst h8
  have v9 := v
  have c9 := c0
  clear hc c0
  show mV g x m _ _ _ _ [.int (X10_piecesInFurnace_r g m b N)]
  refine v_aload_n (pc := 1101) hX dL_law_1101 rfl ?_
  refine v_callV (z := yX11_piecesInFurnace) (pc := 1102) hX dL_law_1102 (c_X11_piecesInFurnace hO m r N v9.sr v9.rN v9.N8) v9.sr.1 rfl wd_1764 wd_1765 wd_1766 wd_16 wd_1767 ⟨by decide, by decide, (by decide +kernel : (parseMethodDescriptor yX11_piecesInFurnace.desc).map (fun d => d.parameters.length) = some 0)⟩ rfl (Nat.le_of_ble_eq_true rfl) ⟨⟨Nat.le_of_ble_eq_true rfl, Nat.le_of_ble_eq_true rfl⟩, (by show ce + 0 + 0 ≤ 613022; omega), (by show sl + 0 + 0 ≤ 7185358; omega)⟩ (fun E9 m8 h9 => h9.elim) (fun u8 R h9 => ?_)
  obtain ⟨rfl, h7⟩ := h9
  rw [← h7] at c9
  generalize (X11_piecesInFurnace_r g m r N) = yv at c9 ⊢
  show mV g x R _ _ _ _ [.int yv, .int (X10_piecesInFurnace_r g m b N)]
  obtain ⟨w1, w2, -, -⟩ := c9.next (q := o) hp v9.sr (Or.inl rfl) rfl (fun _ _ => Sm.rf)
  have ws := c9.same0
  clear c9
  refine v_icmp_eq (tgt := 2680) (pc := 1105) hX dL_law_1105 (by decide) (fun _ => ?_) (fun c => absurd ws c)
  refine mV_sub (lv' := [(5, .int (nI (5 * j))), (4, .ref d), (3, .ref o), (2, .ref r), (1, .ref b), (0, .ref sc)]) ⟨rfl, rfl, rfl, rfl, rfl, rfl, trivial⟩ ?_
  refine mV_widen (ce' := ce + 24) (sl' := sl + 6000) (by omega) (by omega) ?_
  exact k _ _ w1 w2 (by omega)
