/-! THE LAW'S LOOP -/
theorem l5_lt {a L : Nat} (h1 : L ≤ 2560) (h2 : a ≤ 2560) : nI L - 5 < nI a ↔ L < a + 5 := by
  have e : (nI L - 5).toInt = (L : Int) - 5 := by
    have q : (nI L - 5).toInt = (nI L).toInt - (5 : Int32).toInt := Kit.i32_sub (by rw [nI_toInt (by omega)]; simp only [tl]; omega) (by rw [nI_toInt (by omega)]; simp only [tl]; omega)
    rw [q, nI_toInt (by omega)]
    simp only [tl]
  rw [Int32.lt_iff_toInt_lt, e, nI_toInt (by omega)]
  omega
set_option maxHeartbeats 4000000 in
theorem lwc_sw {l : Launch} {g : mG} {x : mCx} {nm : String} {m : mM} {sc b r o d T ce sl j L : Nat} {xs : Nat → Int32} (hO : mO l g) (hd : VD g) (hcm : ∀ j, j < 12 → cmI g (cmA g j) = j) (hX : mX l g x cL_law (yLw nm) room_1 9) (hs : oT g .int sc L (fun i => .int (xs i))) (hw : OBJ g m m b r T) (hp : PL m b r o d) (hT : T + 12 ≤ 9000) (hj : 5 * j + 5 ≤ L) (hL : L ≤ 2560) (hce : ce + 24 ≤ 613022) (hsl : sl + 6000 ≤ 7185358) (k : ∀ (R : mM) (T1 : Nat), OBJ g R R b r T1 → PL R b r o d → T1 ≤ T + 12 → mV g x R (ce + 24) (sl + 6000) 2680 [(5, .int (nI (5 * j))), (4, .ref d), (3, .ref o), (2, .ref r), (1, .ref b), (0, .ref sc)] []) : mV g x m ce sl 37 [(5, .int (nI (5 * j))), (4, .ref d), (3, .ref o), (2, .ref r), (1, .ref b), (0, .ref sc)] [] := by
  refine v_aload_n (pc := 37) hX dL_law_37 rfl ?_
  refine v_iload (pc := 38) hX dL_law_38 rfl ?_
  refine v_tiO (j := 5 * j) (pc := 40) hX dL_law_40 hs rfl (by omega) (by omega) ?_
  show mV g x _ _ _ _ _ [.int (xs (5 * j))]
  refine v_bipush (v := 63) (pc := 41) hX dL_law_41 (by decide) ?_
  refine v_iand (pc := 43) hX dL_law_43 ?_
  generalize (xs (5 * j) &&& 63) = w
  by_cases hq : w.toInt < 0 ∨ 52 < w.toInt
  · exact v_tsO (pc := 44) (tgt := 2680) hX dL_law_44 hq (by decide) (mV_widen (ce' := ce + 24) (sl' := sl + 6000) (by omega) (by omega) (k m T hw hp (by omega)))
  · obtain ⟨n, hn, hz⟩ : ∃ n : Nat, n < 53 ∧ w.toInt = (n : Int) := ⟨w.toInt.toNat, by omega, by omega⟩
    match n, hn, hz with
    | 0, _, hz => exact v_tsI (pc := 44) (off := 228) (tgt := 272) hX dL_law_44 (by omega) (by omega) (by rw [hz]; rfl) (by decide) (lwc_0 hO hd hcm hX hs hw hp hT hj hL hce hsl k)
    | 1, _, hz => exact v_tsI (pc := 44) (off := 284) (tgt := 328) hX dL_law_44 (by omega) (by omega) (by rw [hz]; rfl) (by decide) (lwc_1 hO hd hcm hX hs hw hp hT hj hL hce hsl k)
    | 2, _, hz => exact v_tsI (pc := 44) (off := 340) (tgt := 384) hX dL_law_44 (by omega) (by omega) (by rw [hz]; rfl) (by decide) (lwc_2 hO hd hcm hX hs hw hp hT hj hL hce hsl k)
    | 3, _, hz => exact v_tsI (pc := 44) (off := 396) (tgt := 440) hX dL_law_44 (by omega) (by omega) (by rw [hz]; rfl) (by decide) (lwc_3 hO hd hcm hX hs hw hp hT hj hL hce hsl k)
    | 4, _, hz => exact v_tsI (pc := 44) (off := 454) (tgt := 498) hX dL_law_44 (by omega) (by omega) (by rw [hz]; rfl) (by decide) (lwc_4 hO hd hcm hX hs hw hp hT hj hL hce hsl k)
    | 5, _, hz => exact v_tsI (pc := 44) (off := 510) (tgt := 554) hX dL_law_44 (by omega) (by omega) (by rw [hz]; rfl) (by decide) (lwc_5 hO hd hcm hX hs hw hp hT hj hL hce hsl k)
    | 6, _, hz => exact v_tsI (pc := 44) (off := 566) (tgt := 610) hX dL_law_44 (by omega) (by omega) (by rw [hz]; rfl) (by decide) (lwc_6 hO hd hcm hX hs hw hp hT hj hL hce hsl k)
    | 7, _, hz => exact v_tsI (pc := 44) (off := 622) (tgt := 666) hX dL_law_44 (by omega) (by omega) (by rw [hz]; rfl) (by decide) (lwc_7 hO hd hcm hX hs hw hp hT hj hL hce hsl k)
    | 8, _, hz => exact v_tsI (pc := 44) (off := 690) (tgt := 734) hX dL_law_44 (by omega) (by omega) (by rw [hz]; rfl) (by decide) (lwc_8 hO hd hcm hX hs hw hp hT hj hL hce hsl k)
    | 9, _, hz => exact v_tsI (pc := 44) (off := 746) (tgt := 790) hX dL_law_44 (by omega) (by omega) (by rw [hz]; rfl) (by decide) (lwc_9 hO hd hcm hX hs hw hp hT hj hL hce hsl k)
    | 10, _, hz => exact v_tsI (pc := 44) (off := 809) (tgt := 853) hX dL_law_44 (by omega) (by omega) (by rw [hz]; rfl) (by decide) (lwc_10 hO hd hcm hX hs hw hp hT hj hL hce hsl k)
    | 11, _, hz => exact v_tsI (pc := 44) (off := 901) (tgt := 945) hX dL_law_44 (by omega) (by omega) (by rw [hz]; rfl) (by decide) (lwc_11 hO hd hcm hX hs hw hp hT hj hL hce hsl k)
    | 12, _, hz => exact v_tsI (pc := 44) (off := 957) (tgt := 1001) hX dL_law_44 (by omega) (by omega) (by rw [hz]; rfl) (by decide) (lwc_12 hO hd hcm hX hs hw hp hT hj hL hce hsl k)
    | 13, _, hz => exact v_tsI (pc := 44) (off := 970) (tgt := 1014) hX dL_law_44 (by omega) (by omega) (by rw [hz]; rfl) (by decide) (lwc_13 hO hd hcm hX hs hw hp hT hj hL hce hsl k)
    | 14, _, hz => exact v_tsI (pc := 44) (off := 983) (tgt := 1027) hX dL_law_44 (by omega) (by omega) (by rw [hz]; rfl) (by decide) (lwc_14 hO hd hcm hX hs hw hp hT hj hL hce hsl k)
    | 15, _, hz => exact v_tsI (pc := 44) (off := 996) (tgt := 1040) hX dL_law_44 (by omega) (by omega) (by rw [hz]; rfl) (by decide) (lwc_15 hO hd hcm hX hs hw hp hT hj hL hce hsl k)
    | 16, _, hz => exact v_tsI (pc := 44) (off := 1009) (tgt := 1053) hX dL_law_44 (by omega) (by omega) (by rw [hz]; rfl) (by decide) (lwc_16 hO hd hcm hX hs hw hp hT hj hL hce hsl k)
    | 17, _, hz => exact v_tsI (pc := 44) (off := 1053) (tgt := 1097) hX dL_law_44 (by omega) (by omega) (by rw [hz]; rfl) (by decide) (lwc_17 hO hd hcm hX hs hw hp hT hj hL hce hsl k)
    | 18, _, hz => exact v_tsI (pc := 44) (off := 1066) (tgt := 1110) hX dL_law_44 (by omega) (by omega) (by rw [hz]; rfl) (by decide) (lwc_18 hO hd hcm hX hs hw hp hT hj hL hce hsl k)
    | 19, _, hz => exact v_tsI (pc := 44) (off := 1122) (tgt := 1166) hX dL_law_44 (by omega) (by omega) (by rw [hz]; rfl) (by decide) (lwc_19 hO hd hcm hX hs hw hp hT hj hL hce hsl k)
    | 20, _, hz => exact v_tsI (pc := 44) (off := 1135) (tgt := 1179) hX dL_law_44 (by omega) (by omega) (by rw [hz]; rfl) (by decide) (lwc_20 hO hd hcm hX hs hw hp hT hj hL hce hsl k)
    | 21, _, hz => exact v_tsI (pc := 44) (off := 1160) (tgt := 1204) hX dL_law_44 (by omega) (by omega) (by rw [hz]; rfl) (by decide) (lwc_21 hO hd hcm hX hs hw hp hT hj hL hce hsl k)
    | 22, _, hz => exact v_tsI (pc := 44) (off := 1216) (tgt := 1260) hX dL_law_44 (by omega) (by omega) (by rw [hz]; rfl) (by decide) (lwc_22 hO hd hcm hX hs hw hp hT hj hL hce hsl k)
    | 23, _, hz => exact v_tsI (pc := 44) (off := 1272) (tgt := 1316) hX dL_law_44 (by omega) (by omega) (by rw [hz]; rfl) (by decide) (lwc_23 hO hd hcm hX hs hw hp hT hj hL hce hsl k)
    | 24, _, hz => exact v_tsI (pc := 44) (off := 1328) (tgt := 1372) hX dL_law_44 (by omega) (by omega) (by rw [hz]; rfl) (by decide) (lwc_24 hO hd hcm hX hs hw hp hT hj hL hce hsl k)
    | 25, _, hz => exact v_tsI (pc := 44) (off := 1384) (tgt := 1428) hX dL_law_44 (by omega) (by omega) (by rw [hz]; rfl) (by decide) (lwc_25 hO hd hcm hX hs hw hp hT hj hL hce hsl k)
    | 26, _, hz => exact v_tsI (pc := 44) (off := 1440) (tgt := 1484) hX dL_law_44 (by omega) (by omega) (by rw [hz]; rfl) (by decide) (lwc_26 hO hd hcm hX hs hw hp hT hj hL hce hsl k)
    | 27, _, hz => exact v_tsI (pc := 44) (off := 1503) (tgt := 1547) hX dL_law_44 (by omega) (by omega) (by rw [hz]; rfl) (by decide) (lwc_27 hO hd hcm hX hs hw hp hT hj hL hce hsl k)
    | 28, _, hz => exact v_tsI (pc := 44) (off := 1566) (tgt := 1610) hX dL_law_44 (by omega) (by omega) (by rw [hz]; rfl) (by decide) (lwc_28 hO hd hcm hX hs hw hp hT hj hL hce hsl k)
    | 29, _, hz => exact v_tsI (pc := 44) (off := 1629) (tgt := 1673) hX dL_law_44 (by omega) (by omega) (by rw [hz]; rfl) (by decide) (lwc_29 hO hd hcm hX hs hw hp hT hj hL hce hsl k)
    | 30, _, hz => exact v_tsI (pc := 44) (off := 1697) (tgt := 1741) hX dL_law_44 (by omega) (by omega) (by rw [hz]; rfl) (by decide) (lwc_30 hO hd hcm hX hs hw hp hT hj hL hce hsl k)
    | 31, _, hz => exact v_tsI (pc := 44) (off := 1765) (tgt := 1809) hX dL_law_44 (by omega) (by omega) (by rw [hz]; rfl) (by decide) (lwc_31 hO hd hcm hX hs hw hp hT hj hL hce hsl k)
    | 32, _, hz => exact v_tsI (pc := 44) (off := 1833) (tgt := 1877) hX dL_law_44 (by omega) (by omega) (by rw [hz]; rfl) (by decide) (lwc_32 hO hd hcm hX hs hw hp hT hj hL hce hsl k)
    | 33, _, hz => exact v_tsI (pc := 44) (off := 1889) (tgt := 1933) hX dL_law_44 (by omega) (by omega) (by rw [hz]; rfl) (by decide) (lwc_33 hO hd hcm hX hs hw hp hT hj hL hce hsl k)
    | 34, _, hz => exact v_tsI (pc := 44) (off := 1902) (tgt := 1946) hX dL_law_44 (by omega) (by omega) (by rw [hz]; rfl) (by decide) (lwc_34 hO hd hcm hX hs hw hp hT hj hL hce hsl k)
    | 35, _, hz => exact v_tsI (pc := 44) (off := 1958) (tgt := 2002) hX dL_law_44 (by omega) (by omega) (by rw [hz]; rfl) (by decide) (lwc_35 hO hd hcm hX hs hw hp hT hj hL hce hsl k)
    | 36, _, hz => exact v_tsI (pc := 44) (off := 2014) (tgt := 2058) hX dL_law_44 (by omega) (by omega) (by rw [hz]; rfl) (by decide) (lwc_36 hO hd hcm hX hs hw hp hT hj hL hce hsl k)
    | 37, _, hz => exact v_tsI (pc := 44) (off := 2058) (tgt := 2102) hX dL_law_44 (by omega) (by omega) (by rw [hz]; rfl) (by decide) (lwc_37 hO hd hcm hX hs hw hp hT hj hL hce hsl k)
    | 38, _, hz => exact v_tsI (pc := 44) (off := 2071) (tgt := 2115) hX dL_law_44 (by omega) (by omega) (by rw [hz]; rfl) (by decide) (lwc_38 hO hd hcm hX hs hw hp hT hj hL hce hsl k)
    | 39, _, hz => exact v_tsI (pc := 44) (off := 2084) (tgt := 2128) hX dL_law_44 (by omega) (by omega) (by rw [hz]; rfl) (by decide) (lwc_39 hO hd hcm hX hs hw hp hT hj hL hce hsl k)
    | 40, _, hz => exact v_tsI (pc := 44) (off := 2098) (tgt := 2142) hX dL_law_44 (by omega) (by omega) (by rw [hz]; rfl) (by decide) (lwc_40 hO hd hcm hX hs hw hp hT hj hL hce hsl k)
    | 41, _, hz => exact v_tsI (pc := 44) (off := 2163) (tgt := 2207) hX dL_law_44 (by omega) (by omega) (by rw [hz]; rfl) (by decide) (lwc_41 hO hd hcm hX hs hw hp hT hj hL hce hsl k)
    | 42, _, hz => exact v_tsI (pc := 44) (off := 2229) (tgt := 2273) hX dL_law_44 (by omega) (by omega) (by rw [hz]; rfl) (by decide) (lwc_42 hO hd hcm hX hs hw hp hT hj hL hce hsl k)
    | 43, _, hz => exact v_tsI (pc := 44) (off := 2242) (tgt := 2286) hX dL_law_44 (by omega) (by omega) (by rw [hz]; rfl) (by decide) (lwc_43 hO hd hcm hX hs hw hp hT hj hL hce hsl k)
    | 44, _, hz => exact v_tsI (pc := 44) (off := 2300) (tgt := 2344) hX dL_law_44 (by omega) (by omega) (by rw [hz]; rfl) (by decide) (lwc_44 hO hd hcm hX hs hw hp hT hj hL hce hsl k)
    | 45, _, hz => exact v_tsI (pc := 44) (off := 2344) (tgt := 2388) hX dL_law_44 (by omega) (by omega) (by rw [hz]; rfl) (by decide) (lwc_45 hO hd hcm hX hs hw hp hT hj hL hce hsl k)
    | 46, _, hz => exact v_tsI (pc := 44) (off := 2388) (tgt := 2432) hX dL_law_44 (by omega) (by omega) (by rw [hz]; rfl) (by decide) (lwc_46 hO hd hcm hX hs hw hp hT hj hL hce hsl k)
    | 47, _, hz => exact v_tsI (pc := 44) (off := 2432) (tgt := 2476) hX dL_law_44 (by omega) (by omega) (by rw [hz]; rfl) (by decide) (lwc_47 hO hd hcm hX hs hw hp hT hj hL hce hsl k)
    | 48, _, hz => exact v_tsI (pc := 44) (off := 2488) (tgt := 2532) hX dL_law_44 (by omega) (by omega) (by rw [hz]; rfl) (by decide) (lwc_48 hO hd hcm hX hs hw hp hT hj hL hce hsl k)
    | 49, _, hz => exact v_tsI (pc := 44) (off := 2501) (tgt := 2545) hX dL_law_44 (by omega) (by omega) (by rw [hz]; rfl) (by decide) (lwc_49 hO hd hcm hX hs hw hp hT hj hL hce hsl k)
    | 50, _, hz => exact v_tsI (pc := 44) (off := 2557) (tgt := 2601) hX dL_law_44 (by omega) (by omega) (by rw [hz]; rfl) (by decide) (lwc_50 hO hd hcm hX hs hw hp hT hj hL hce hsl k)
    | 51, _, hz => exact v_tsI (pc := 44) (off := 2601) (tgt := 2645) hX dL_law_44 (by omega) (by omega) (by rw [hz]; rfl) (by decide) (lwc_51 hO hd hcm hX hs hw hp hT hj hL hce hsl k)
    | 52, _, hz => exact v_tsI (pc := 44) (off := 2612) (tgt := 2656) hX dL_law_44 (by omega) (by omega) (by rw [hz]; rfl) (by decide) (lwc_52 hO hd hcm hX hs hw hp hT hj hL hce hsl k)
    | n + 53, hn, _ => omega
set_option maxHeartbeats 4000000 in
theorem lwc_loop {l : Launch} {g : mG} {x : mCx} {nm : String} {sc b r o d L : Nat} {xs : Nat → Int32} (hO : mO l g) (hd : VD g) (hcm : ∀ j, j < 12 → cmI g (cmA g j) = j) (hX : mX l g x cL_law (yLw nm) room_1 9) (hs : oT g .int sc L (fun i => .int (xs i))) (hL : L ≤ 2560) (kend : ∀ (R : mM) (ce1 sl1 : Nat) (lv : List (Nat × Value)), ce1 ≤ 613022 → sl1 ≤ 7185358 → mV g x R ce1 sl1 2686 lv []) : ∀ (n j : Nat) (m : mM) (T : Nat), j + n = 512 → OBJ g m m b r T → PL m b r o d → T ≤ 12 * j → mV g x m (300 + 24 * j) (4000 + 6000 * j) 28 [(5, .int (nI (5 * j))), (4, .ref d), (3, .ref o), (2, .ref r), (1, .ref b), (0, .ref sc)] [] := by
  intro n
  induction n with
  | zero =>
    intro j m T hj hw hp hT
    refine v_iload (pc := 28) hX dL_law_28 rfl ?_
    refine v_aload_n (pc := 30) hX dL_law_30 rfl ?_
    refine v_tlO (pc := 31) hX dL_law_31 hs ?_
    refine v_iconst (v := 5) (pc := 32) hX dL_law_32 (by decide) ?_
    refine v_isub (pc := 33) hX dL_law_33 ?_
    refine v_icmp_gt (tgt := 2686) (pc := 34) hX dL_law_34 (by decide) (fun c => ?_) (fun c => ?_)
    · exact kend _ _ _ _ (by omega) (by omega)
    · exact absurd ((l5_lt (by omega) (by omega)).mpr (by omega)) c
  | succ n ih =>
    intro j m T hj hw hp hT
    refine v_iload (pc := 28) hX dL_law_28 rfl ?_
    refine v_aload_n (pc := 30) hX dL_law_30 rfl ?_
    refine v_tlO (pc := 31) hX dL_law_31 hs ?_
    refine v_iconst (v := 5) (pc := 32) hX dL_law_32 (by decide) ?_
    refine v_isub (pc := 33) hX dL_law_33 ?_
    refine v_icmp_gt (tgt := 2686) (pc := 34) hX dL_law_34 (by decide) (fun c => ?_) (fun c => ?_)
    · exact kend _ _ _ _ (by omega) (by omega)
    · have hj5 : 5 * j + 5 ≤ L := Nat.not_lt.mp (fun q => c ((l5_lt (by omega) (by omega)).mpr q))
      refine lwc_sw (l := l) (nm := nm) hO hd hcm hX hs hw hp (by omega) hj5 hL (by omega) (by omega) (fun R T1 w1 w2 w3 => ?_)
      refine v_iinc (w := nI (5 * (j + 1))) (pc := 2680) hX dL_law_2680 rfl (nI_k (i := 5 * j) (k := 5) rfl) (by decide) rfl ?_
      refine v_goto (tgt := 28) (pc := 2683) hX dL_law_2683 (by decide) ?_
      refine mV_sub (lv' := [(5, .int (nI (5 * (j + 1)))), (4, .ref d), (3, .ref o), (2, .ref r), (1, .ref b), (0, .ref sc)]) ⟨rfl, rfl, rfl, rfl, rfl, rfl, trivial⟩ ?_
      refine mV_widen (ce' := 300 + 24 * (j + 1)) (sl' := 4000 + 6000 * (j + 1)) (by omega) (by omega) ?_
      exact ih (j + 1) R T1 (by omega) w1 w2 (by omega)
set_option maxHeartbeats 4000000 in
theorem lwc_body {l : Launch} {g : mG} {x : mCx} {nm : String} {sc L : Nat} {xs : Nat → Int32} (m0 : mM) (hO : mO l g) (hd : VD g) (hcm : ∀ j, j < 12 → cmI g (cmA g j) = j) (hX : mX l g x cL_law (yLw nm) room_1 9) (hs : oT g .int sc L (fun i => .int (xs i))) (hL : L ≤ 2560) (kend : ∀ (R : mM) (ce1 sl1 : Nat) (lv : List (Nat × Value)), ce1 ≤ 613022 → sl1 ≤ 7185358 → mV g x R ce1 sl1 2686 lv []) : mV g x m0 0 0 0 [(0, .ref sc)] [] := by
  refine v_new (ci := 11) (r := vwC11) (pc := 0) hX dL_law_0 rfl wd_37 wd_38 wd_1 (Nat.le_of_ble_eq_true rfl) (Nat.le_of_ble_eq_true rfl) ?_
  obtain ⟨b, hb⟩ : ∃ b, b = gN m0 := ⟨_, rfl⟩
  have n0 := nwk (M := m0) (kd := .inl 11) hb.symm
  rw [← hb]
  generalize nw m0 (.inl 11) = m at n0 ⊢
  refine v_dup (pc := 3) hX dL_law_3 rfl ?_
  refine v_callI (z := yX10_init) (pc := 4) hX dL_law_4 (c_X10_init hO m b n0.1 n0.2) wd_39 wd_40 wd_1 wd_41 rfl ⟨by decide, by decide, (by decide +kernel : (parseMethodDescriptor yX10_init.desc).map (fun d => d.parameters.length) = some 0)⟩ rfl (Nat.le_of_ble_eq_true rfl) ⟨⟨Nat.le_of_ble_eq_true rfl, Nat.le_of_ble_eq_true rfl⟩, Nat.le_of_ble_eq_true rfl, Nat.le_of_ble_eq_true rfl⟩ (fun E9 m9 h9 => h9.elim) (fun u9 M1 h9 => ?_)
  obtain ⟨rfl, h1⟩ := h9
  show mV g x M1 _ _ _ _ [.ref b]
  refine v_astore_n (pc := 7) hX dL_law_7 (by decide) rfl ?_
  refine v_new (ci := 12) (r := vwC12) (pc := 8) hX dL_law_8 rfl wd_1500 wd_1501 wd_16 (Nat.le_of_ble_eq_true rfl) (Nat.le_of_ble_eq_true rfl) ?_
  obtain ⟨r, hr⟩ : ∃ r, r = gN M1 := ⟨_, rfl⟩
  have n1 := nwk (M := M1) (kd := .inl 12) hr.symm
  rw [← hr]
  obtain ⟨m1, hm1⟩ : ∃ q, q = nw M1 (.inl 12) := ⟨_, rfl⟩
  rw [← hm1] at n1 ⊢
  refine v_dup (pc := 11) hX dL_law_11 rfl ?_
  refine v_callI (z := yX11_init) (pc := 12) hX dL_law_12 (c_X11_init hO m1 r n1.1 n1.2) wd_1502 wd_1503 wd_16 wd_1504 rfl ⟨by decide, by decide, (by decide +kernel : (parseMethodDescriptor yX11_init.desc).map (fun d => d.parameters.length) = some 0)⟩ rfl (Nat.le_of_ble_eq_true rfl) ⟨⟨Nat.le_of_ble_eq_true rfl, Nat.le_of_ble_eq_true rfl⟩, Nat.le_of_ble_eq_true rfl, Nat.le_of_ble_eq_true rfl⟩ (fun E9 m9 h9 => h9.elim) (fun u9 M2 h9 => ?_)
  obtain ⟨rfl, h2⟩ := h9
  rw [hm1] at h2
  obtain ⟨a1, a2, a3⟩ := fst_all n0.1 n0.2 h1 hr.symm h2
  have a4 : gN (nw M2 (.inr (4, 1))) = r + 13 := by
    simp only [mm]
    omega
  show mV g x M2 _ _ _ _ [.ref r]
  refine v_astore_n (pc := 15) hX dL_law_15 (by decide) rfl ?_
  refine v_iconst (v := 1) (pc := 16) hX dL_law_16 (by decide) ?_
  refine v_newarr (t := 4) (n := 1) (pc := 17) hX dL_law_17 rfl (by decide) wd_1961 rfl (by decide) (Nat.le_of_ble_eq_true rfl) (Nat.le_of_ble_eq_true rfl) ?_
  rw [a3]
  refine v_astore_n (pc := 19) hX dL_law_19 (by decide) rfl ?_
  refine v_iconst (v := 1) (pc := 20) hX dL_law_20 (by decide) ?_
  refine v_newarr (t := 5) (n := 1) (pc := 21) hX dL_law_21 rfl (by decide) wd_1962 rfl (by decide) (Nat.le_of_ble_eq_true rfl) (Nat.le_of_ble_eq_true rfl) ?_
  rw [a4]
  generalize nw (nw M2 (.inr (4, 1))) (.inr (5, 1)) = M4 at a1 a2 ⊢
  refine v_astore (pc := 23) hX dL_law_23 (by decide) rfl ?_
  refine v_iconst (v := 0) (pc := 25) hX dL_law_25 (by decide) ?_
  refine v_istore (pc := 26) hX dL_law_26 (by decide) rfl ?_
  refine mV_sub (lv' := [(5, .int (nI (5 * 0))), (4, .ref (r + 13)), (3, .ref (r + 12)), (2, .ref r), (1, .ref b), (0, .ref sc)]) ⟨rfl, rfl, rfl, rfl, rfl, rfl, trivial⟩ ?_
  refine mV_widen (ce' := 300 + 24 * 0) (sl' := 4000 + 6000 * 0) (Nat.le_of_ble_eq_true rfl) (Nat.le_of_ble_eq_true rfl) ?_
  exact lwc_loop hO hd hcm hX hs hL kend 512 0 M4 0 rfl a1 a2 (by omega)
