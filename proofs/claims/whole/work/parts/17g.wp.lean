theorem c_apC {l : Launch} {g : mG} (hO : mO l g) (m : mM) (sb : Nat) (a : Int32) (s : SLo m sb) (hc : cnO m sb ≤ 60) (hch : ¬ 255 < a) : mT l g yJ4_append_cf468 (.code yJ4_append_cf468 cJ4_append_cf468 2 (Option.some (FieldType.object "java/lang/StringBuilder"))) 5 112 1 262 [.ref sb, .int a] m (fun r m' => r = some (.ref sb) ∧ m' = apC g m sb a) nX :=
  mT_imp (c_J4_append_cf468 hO m sb a _ _ _ s (by omega) hch) (fun r m' q => ⟨q.1, q.2⟩) (fun E m' q => q)
theorem c_apI {l : Launch} {g : mG} (hO : mO l g) (m : mM) (sb : Nat) (n : Nat) (s : SLo m sb) (hc : cnO m sb ≤ 60) (hn : n < 10000) : mT l g yJ4_append_bf812 (.code yJ4_append_bf812 cJ4_append_bf812 2 (Option.some (FieldType.object "java/lang/StringBuilder"))) 5 114 1 262 [.ref sb, .int (nI n)] m (fun r m' => r = some (.ref sb) ∧ m' = apI g m sb n) nX :=
  mT_imp (c_J4_append_bf812 hO m sb n _ _ _ s hc hn) (fun r m' q => ⟨q.1, q.2⟩) (fun E m' q => q)
def X7_writeTo_m (g : mG) (m : mM) (p : Nat) (sb : Nat) (nn : Nat) (tt : Nat) (ss : Nat) (hh : Nat) : mM := if (gI m 293 p) = 0 then (if (gI m 294 p) = 0 then (if (gR m 295 p) = (some (vdA g 1)) then (if (gR m 295 p) = (some (vdA g 2)) then ((apC g ((apC g ((apI g ((apC g ((apI g ((apC g ((apI g ((apC g ((apC g ((apI g m sb nn)) sb (gI m 289 p))) sb 58)) sb tt)) sb 47)) sb ss)) sb 47)) sb hh)) sb 43)) sb 45)) else ((apC g ((apI g ((apC g ((apI g ((apC g ((apI g ((apC g ((apC g ((apI g m sb nn)) sb (gI m 289 p))) sb 58)) sb tt)) sb 47)) sb ss)) sb 47)) sb hh)) sb 43))) else (if (gR m 295 p) = (some (vdA g 2)) then ((apC g ((apI g ((apC g ((apI g ((apC g ((apI g ((apC g ((apC g ((apI g m sb nn)) sb (gI m 289 p))) sb 58)) sb tt)) sb 47)) sb ss)) sb 47)) sb hh)) sb 45)) else ((apI g ((apC g ((apI g ((apC g ((apI g ((apC g ((apC g ((apI g m sb nn)) sb (gI m 289 p))) sb 58)) sb tt)) sb 47)) sb ss)) sb 47)) sb hh)))) else (if (gR m 295 p) = (some (vdA g 1)) then (if (gR m 295 p) = (some (vdA g 2)) then ((apC g ((apC g ((apC g ((apI g ((apC g ((apI g ((apC g ((apI g ((apC g ((apC g ((apI g m sb nn)) sb (gI m 289 p))) sb 58)) sb tt)) sb 47)) sb ss)) sb 47)) sb hh)) sb 113)) sb 43)) sb 45)) else ((apC g ((apC g ((apI g ((apC g ((apI g ((apC g ((apI g ((apC g ((apC g ((apI g m sb nn)) sb (gI m 289 p))) sb 58)) sb tt)) sb 47)) sb ss)) sb 47)) sb hh)) sb 113)) sb 43))) else (if (gR m 295 p) = (some (vdA g 2)) then ((apC g ((apC g ((apI g ((apC g ((apI g ((apC g ((apI g ((apC g ((apC g ((apI g m sb nn)) sb (gI m 289 p))) sb 58)) sb tt)) sb 47)) sb ss)) sb 47)) sb hh)) sb 113)) sb 45)) else ((apC g ((apI g ((apC g ((apI g ((apC g ((apI g ((apC g ((apC g ((apI g m sb nn)) sb (gI m 289 p))) sb 58)) sb tt)) sb 47)) sb ss)) sb 47)) sb hh)) sb 113))))) else (if (gI m 294 p) = 0 then (if (gR m 295 p) = (some (vdA g 1)) then (if (gR m 295 p) = (some (vdA g 2)) then ((apC g ((apC g ((apC g ((apI g ((apC g ((apI g ((apC g ((apI g ((apC g ((apC g ((apI g m sb nn)) sb (gI m 289 p))) sb 58)) sb tt)) sb 47)) sb ss)) sb 47)) sb hh)) sb 42)) sb 43)) sb 45)) else ((apC g ((apC g ((apI g ((apC g ((apI g ((apC g ((apI g ((apC g ((apC g ((apI g m sb nn)) sb (gI m 289 p))) sb 58)) sb tt)) sb 47)) sb ss)) sb 47)) sb hh)) sb 42)) sb 43))) else (if (gR m 295 p) = (some (vdA g 2)) then ((apC g ((apC g ((apI g ((apC g ((apI g ((apC g ((apI g ((apC g ((apC g ((apI g m sb nn)) sb (gI m 289 p))) sb 58)) sb tt)) sb 47)) sb ss)) sb 47)) sb hh)) sb 42)) sb 45)) else ((apC g ((apI g ((apC g ((apI g ((apC g ((apI g ((apC g ((apC g ((apI g m sb nn)) sb (gI m 289 p))) sb 58)) sb tt)) sb 47)) sb ss)) sb 47)) sb hh)) sb 42)))) else (if (gR m 295 p) = (some (vdA g 1)) then (if (gR m 295 p) = (some (vdA g 2)) then ((apC g ((apC g ((apC g ((apC g ((apI g ((apC g ((apI g ((apC g ((apI g ((apC g ((apC g ((apI g m sb nn)) sb (gI m 289 p))) sb 58)) sb tt)) sb 47)) sb ss)) sb 47)) sb hh)) sb 42)) sb 113)) sb 43)) sb 45)) else ((apC g ((apC g ((apC g ((apI g ((apC g ((apI g ((apC g ((apI g ((apC g ((apC g ((apI g m sb nn)) sb (gI m 289 p))) sb 58)) sb tt)) sb 47)) sb ss)) sb 47)) sb hh)) sb 42)) sb 113)) sb 43))) else (if (gR m 295 p) = (some (vdA g 2)) then ((apC g ((apC g ((apC g ((apI g ((apC g ((apI g ((apC g ((apI g ((apC g ((apC g ((apI g m sb nn)) sb (gI m 289 p))) sb 58)) sb tt)) sb 47)) sb ss)) sb 47)) sb hh)) sb 42)) sb 113)) sb 45)) else ((apC g ((apC g ((apI g ((apC g ((apI g ((apC g ((apI g ((apC g ((apC g ((apI g m sb nn)) sb (gI m 289 p))) sb 58)) sb tt)) sb 47)) sb ss)) sb 47)) sb hh)) sb 42)) sb 113)))))

set_option maxHeartbeats 4000000 in
set_option maxRecDepth 100000 in
theorem c_X7_writeTo {l : Launch} {g : mG} (hO : mO l g) (m : mM) (p : Nat) (sb : Nat) (nn : Nat) (tt : Nat) (ss : Nat) (hh : Nat) (hp : gK m p = some (.inl 9)) (s0 : SLo m sb) (n0 : cnO m sb = 0) (hkc : ¬ 255 < gI m 289 p) (hi_nn : gI m 288 p = nI nn) (hi_tt : gI m 290 p = nI tt) (hi_ss : gI m 291 p = nI ss) (hi_hh : gI m 292 p = nI hh) (h_nn : nn < 10000) (h_tt : tt < 10000) (h_ss : ss < 10000) (h_hh : hh < 10000) : mT l g yX7_writeTo (.code yX7_writeTo cX7_writeTo 2 (Option.none : Option FieldType)) 6 135 12 3144 [.ref p, .ref sb] m (fun r m' => r = none ∧ m' = X7_writeTo_m g m p sb nn tt ss hh) nX := by
  refine mT_of hO (by decide) (Nat.le_of_ble_eq_true rfl) (fun x hX hZ => ?_)
  show mV g x m 0 0 0 [(0, .ref p), (1, .ref sb)] []
  refine v_aload_n (pc := 0) hX dX7_writeTo_0 rfl ?_
  refine v_aload_n (pc := 1) hX dX7_writeTo_1 rfl ?_
  refine v_get (v := .int (nI nn)) (pc := 2) hX dX7_writeTo_2 hp (ci := 9) (r := vwC9) rfl 0 (by decide) wd_90 (congrArg Value.int hi_nn) ?_
  refine mV_fresh (fun hF1 => ?_)
  have ap1 := apI_ok (g := g) (n := nn) s0 hF1 (by omega) h_nn
  refine v_callV (z := yJ4_append_bf812) (pc := 5) hX dX7_writeTo_5 (c_apI hO m sb nn s0 (by omega) h_nn) s0.k rfl wd_1454 wd_602 wd_603 wd_13 wd_604 ⟨by decide, by decide, (by decide +kernel : (parseMethodDescriptor yJ4_append_bf812.desc).map (fun d => d.parameters.length) = some 1)⟩ rfl (Nat.le_of_ble_eq_true rfl) ⟨⟨by decide, by decide⟩, by decide, by decide⟩ (fun E m9 h9 => h9.elim) (fun r9 m9 h9 => ?_)
  obtain ⟨rfl, h8⟩ := h9
  replace h8 := h8.symm
  subst h8
  have an1 := ap1.2.1
  have ad1 := digs_le nn
  have ak1 : KF m (apI g m sb nn) := (KF.rf).tr ap1.2.2.1
  show mV g x _ _ _ _ _ [.ref sb]
  refine v_aload_n (pc := 8) hX dX7_writeTo_8 rfl ?_
  refine v_get (v := .int (gI m 289 p)) (pc := 9) hX dX7_writeTo_9 (ak1.k hp (by decide)) (ci := 9) (r := vwC9) rfl 1 (by decide) wd_94 (congrArg Value.int (ak1.I hp (by decide))) ?_
  refine mV_fresh (fun hF2 => ?_)
  have ap2 := apC_ok (g := g) (a := gI m 289 p) ap1.1 hF2 (by omega)
  refine v_callV (z := yJ4_append_cf468) (pc := 12) hX dX7_writeTo_12 (c_apC hO ((apI g m sb nn)) sb (gI m 289 p) ap1.1 (by omega) hkc) ap1.1.k rfl wd_1455 wd_819 wd_820 wd_13 wd_821 ⟨by decide, by decide, (by decide +kernel : (parseMethodDescriptor yJ4_append_cf468.desc).map (fun d => d.parameters.length) = some 1)⟩ rfl (Nat.le_of_ble_eq_true rfl) ⟨⟨by decide, by decide⟩, by decide, by decide⟩ (fun E m9 h9 => h9.elim) (fun r9 m9 h9 => ?_)
  obtain ⟨rfl, h8⟩ := h9
  replace h8 := h8.symm
  subst h8
  have an2 := ap2.2.1
  have ak2 : KF m (apC g ((apI g m sb nn)) sb (gI m 289 p)) := (ak1).tr ap2.2.2.1
  show mV g x _ _ _ _ _ [.ref sb]
  refine v_bipush (v := 58) (pc := 15) hX dX7_writeTo_15 (by decide) ?_
  refine mV_fresh (fun hF3 => ?_)
  have ap3 := apC_ok (g := g) (a := 58) ap2.1 hF3 (by omega)
  refine v_callV (z := yJ4_append_cf468) (pc := 17) hX dX7_writeTo_17 (c_apC hO ((apC g ((apI g m sb nn)) sb (gI m 289 p))) sb 58 ap2.1 (by omega) (by decide)) ap2.1.k rfl wd_1455 wd_819 wd_820 wd_13 wd_821 ⟨by decide, by decide, (by decide +kernel : (parseMethodDescriptor yJ4_append_cf468.desc).map (fun d => d.parameters.length) = some 1)⟩ rfl (Nat.le_of_ble_eq_true rfl) ⟨⟨by decide, by decide⟩, by decide, by decide⟩ (fun E m9 h9 => h9.elim) (fun r9 m9 h9 => ?_)
  obtain ⟨rfl, h8⟩ := h9
  replace h8 := h8.symm
  subst h8
  have an3 := ap3.2.1
  have ak3 : KF m (apC g ((apC g ((apI g m sb nn)) sb (gI m 289 p))) sb 58) := (ak2).tr ap3.2.2.1
  show mV g x _ _ _ _ _ [.ref sb]
  refine v_aload_n (pc := 20) hX dX7_writeTo_20 rfl ?_
  refine v_get (v := .int (nI tt)) (pc := 21) hX dX7_writeTo_21 (ak3.k hp (by decide)) (ci := 9) (r := vwC9) rfl 2 (by decide) wd_97 (congrArg Value.int ((ak3.I hp (by decide)).trans hi_tt)) ?_
  refine mV_fresh (fun hF4 => ?_)
  have ap4 := apI_ok (g := g) (n := tt) ap3.1 hF4 (by omega) h_tt
  refine v_callV (z := yJ4_append_bf812) (pc := 24) hX dX7_writeTo_24 (c_apI hO ((apC g ((apC g ((apI g m sb nn)) sb (gI m 289 p))) sb 58)) sb tt ap3.1 (by omega) h_tt) ap3.1.k rfl wd_1454 wd_602 wd_603 wd_13 wd_604 ⟨by decide, by decide, (by decide +kernel : (parseMethodDescriptor yJ4_append_bf812.desc).map (fun d => d.parameters.length) = some 1)⟩ rfl (Nat.le_of_ble_eq_true rfl) ⟨⟨by decide, by decide⟩, by decide, by decide⟩ (fun E m9 h9 => h9.elim) (fun r9 m9 h9 => ?_)
  obtain ⟨rfl, h8⟩ := h9
  replace h8 := h8.symm
  subst h8
  have an4 := ap4.2.1
  have ad4 := digs_le tt
  have ak4 : KF m (apI g ((apC g ((apC g ((apI g m sb nn)) sb (gI m 289 p))) sb 58)) sb tt) := (ak3).tr ap4.2.2.1
  show mV g x _ _ _ _ _ [.ref sb]
  refine v_pop (pc := 27) hX dX7_writeTo_27 rfl ?_
  refine v_aload_n (pc := 28) hX dX7_writeTo_28 rfl ?_
  refine v_bipush (v := 47) (pc := 29) hX dX7_writeTo_29 (by decide) ?_
  refine mV_fresh (fun hF5 => ?_)
  have ap5 := apC_ok (g := g) (a := 47) ap4.1 hF5 (by omega)
  refine v_callV (z := yJ4_append_cf468) (pc := 31) hX dX7_writeTo_31 (c_apC hO ((apI g ((apC g ((apC g ((apI g m sb nn)) sb (gI m 289 p))) sb 58)) sb tt)) sb 47 ap4.1 (by omega) (by decide)) ap4.1.k rfl wd_1455 wd_819 wd_820 wd_13 wd_821 ⟨by decide, by decide, (by decide +kernel : (parseMethodDescriptor yJ4_append_cf468.desc).map (fun d => d.parameters.length) = some 1)⟩ rfl (Nat.le_of_ble_eq_true rfl) ⟨⟨by decide, by decide⟩, by decide, by decide⟩ (fun E m9 h9 => h9.elim) (fun r9 m9 h9 => ?_)
  obtain ⟨rfl, h8⟩ := h9
  replace h8 := h8.symm
  subst h8
  have an5 := ap5.2.1
  have ak5 : KF m (apC g ((apI g ((apC g ((apC g ((apI g m sb nn)) sb (gI m 289 p))) sb 58)) sb tt)) sb 47) := (ak4).tr ap5.2.2.1
  show mV g x _ _ _ _ _ [.ref sb]
  refine v_aload_n (pc := 34) hX dX7_writeTo_34 rfl ?_
  refine v_get (v := .int (nI ss)) (pc := 35) hX dX7_writeTo_35 (ak5.k hp (by decide)) (ci := 9) (r := vwC9) rfl 3 (by decide) wd_101 (congrArg Value.int ((ak5.I hp (by decide)).trans hi_ss)) ?_
  refine mV_fresh (fun hF6 => ?_)
  have ap6 := apI_ok (g := g) (n := ss) ap5.1 hF6 (by omega) h_ss
  refine v_callV (z := yJ4_append_bf812) (pc := 38) hX dX7_writeTo_38 (c_apI hO ((apC g ((apI g ((apC g ((apC g ((apI g m sb nn)) sb (gI m 289 p))) sb 58)) sb tt)) sb 47)) sb ss ap5.1 (by omega) h_ss) ap5.1.k rfl wd_1454 wd_602 wd_603 wd_13 wd_604 ⟨by decide, by decide, (by decide +kernel : (parseMethodDescriptor yJ4_append_bf812.desc).map (fun d => d.parameters.length) = some 1)⟩ rfl (Nat.le_of_ble_eq_true rfl) ⟨⟨by decide, by decide⟩, by decide, by decide⟩ (fun E m9 h9 => h9.elim) (fun r9 m9 h9 => ?_)
  obtain ⟨rfl, h8⟩ := h9
  replace h8 := h8.symm
  subst h8
  have an6 := ap6.2.1
  have ad6 := digs_le ss
  have ak6 : KF m (apI g ((apC g ((apI g ((apC g ((apC g ((apI g m sb nn)) sb (gI m 289 p))) sb 58)) sb tt)) sb 47)) sb ss) := (ak5).tr ap6.2.2.1
  show mV g x _ _ _ _ _ [.ref sb]
  refine v_bipush (v := 47) (pc := 41) hX dX7_writeTo_41 (by decide) ?_
  refine mV_fresh (fun hF7 => ?_)
  have ap7 := apC_ok (g := g) (a := 47) ap6.1 hF7 (by omega)
  refine v_callV (z := yJ4_append_cf468) (pc := 43) hX dX7_writeTo_43 (c_apC hO ((apI g ((apC g ((apI g ((apC g ((apC g ((apI g m sb nn)) sb (gI m 289 p))) sb 58)) sb tt)) sb 47)) sb ss)) sb 47 ap6.1 (by omega) (by decide)) ap6.1.k rfl wd_1455 wd_819 wd_820 wd_13 wd_821 ⟨by decide, by decide, (by decide +kernel : (parseMethodDescriptor yJ4_append_cf468.desc).map (fun d => d.parameters.length) = some 1)⟩ rfl (Nat.le_of_ble_eq_true rfl) ⟨⟨by decide, by decide⟩, by decide, by decide⟩ (fun E m9 h9 => h9.elim) (fun r9 m9 h9 => ?_)
  obtain ⟨rfl, h8⟩ := h9
  replace h8 := h8.symm
  subst h8
  have an7 := ap7.2.1
  have ak7 : KF m (apC g ((apI g ((apC g ((apI g ((apC g ((apC g ((apI g m sb nn)) sb (gI m 289 p))) sb 58)) sb tt)) sb 47)) sb ss)) sb 47) := (ak6).tr ap7.2.2.1
  show mV g x _ _ _ _ _ [.ref sb]
  refine v_aload_n (pc := 46) hX dX7_writeTo_46 rfl ?_
  refine v_get (v := .int (nI hh)) (pc := 47) hX dX7_writeTo_47 (ak7.k hp (by decide)) (ci := 9) (r := vwC9) rfl 4 (by decide) wd_104 (congrArg Value.int ((ak7.I hp (by decide)).trans hi_hh)) ?_
  refine mV_fresh (fun hF8 => ?_)
  have ap8 := apI_ok (g := g) (n := hh) ap7.1 hF8 (by omega) h_hh
  refine v_callV (z := yJ4_append_bf812) (pc := 50) hX dX7_writeTo_50 (c_apI hO ((apC g ((apI g ((apC g ((apI g ((apC g ((apC g ((apI g m sb nn)) sb (gI m 289 p))) sb 58)) sb tt)) sb 47)) sb ss)) sb 47)) sb hh ap7.1 (by omega) h_hh) ap7.1.k rfl wd_1454 wd_602 wd_603 wd_13 wd_604 ⟨by decide, by decide, (by decide +kernel : (parseMethodDescriptor yJ4_append_bf812.desc).map (fun d => d.parameters.length) = some 1)⟩ rfl (Nat.le_of_ble_eq_true rfl) ⟨⟨by decide, by decide⟩, by decide, by decide⟩ (fun E m9 h9 => h9.elim) (fun r9 m9 h9 => ?_)
  obtain ⟨rfl, h8⟩ := h9
  replace h8 := h8.symm
  subst h8
  have an8 := ap8.2.1
  have ad8 := digs_le hh
  have ak8 : KF m (apI g ((apC g ((apI g ((apC g ((apI g ((apC g ((apC g ((apI g m sb nn)) sb (gI m 289 p))) sb 58)) sb tt)) sb 47)) sb ss)) sb 47)) sb hh) := (ak7).tr ap8.2.2.1
  show mV g x _ _ _ _ _ [.ref sb]
  refine v_pop (pc := 53) hX dX7_writeTo_53 rfl ?_
  refine v_aload_n (pc := 54) hX dX7_writeTo_54 rfl ?_
  refine v_get (v := .int (gI m 293 p)) (pc := 55) hX dX7_writeTo_55 (ak8.k hp (by decide)) (ci := 9) (r := vwC9) rfl 5 (by decide) wd_107 (congrArg Value.int (ak8.I hp (by decide))) ?_
  refine v_if_eq (tgt := 68) (pc := 58) hX dX7_writeTo_58 (by decide) (fun c1 => ?_) (fun c1 => ?_)
  ·
    refine v_aload_n (pc := 68) hX dX7_writeTo_68 rfl ?_
    refine v_get (v := .int (gI m 294 p)) (pc := 69) hX dX7_writeTo_69 (ak8.k hp (by decide)) (ci := 9) (r := vwC9) rfl 6 (by decide) wd_110 (congrArg Value.int (ak8.I hp (by decide))) ?_
    refine v_if_eq (tgt := 82) (pc := 72) hX dX7_writeTo_72 (by decide) (fun c2 => ?_) (fun c2 => ?_)
    ·
      refine v_aload_n (pc := 82) hX dX7_writeTo_82 rfl ?_
      refine v_get (v := va_rf (gR m 295 p)) (pc := 83) hX dX7_writeTo_83 (ak8.k hp (by decide)) (ci := 9) (r := vwC9) rfl 7 (by decide) wd_113 (congrArg va_rf (ak8.R hp (by decide))) ?_
      refine v_gets (pc := 86) hX dX7_writeTo_86 (vd_Z1 hO) wd_1092 ?_
      refine v_acmp_ne (a := gR m 295 p) (b := some (vdA g 1)) (tgt := 99) (pc := 89) hX dX7_writeTo_89 (by decide) (fun c3 => ?_) (fun c3 => ?_)
      ·
        refine v_aload_n (pc := 99) hX dX7_writeTo_99 rfl ?_
        refine v_get (v := va_rf (gR m 295 p)) (pc := 100) hX dX7_writeTo_100 (ak8.k hp (by decide)) (ci := 9) (r := vwC9) rfl 7 (by decide) wd_113 (congrArg va_rf (ak8.R hp (by decide))) ?_
        refine v_gets (pc := 103) hX dX7_writeTo_103 (vd_Z2 hO) wd_1456 ?_
        refine v_acmp_ne (a := gR m 295 p) (b := some (vdA g 2)) (tgt := 116) (pc := 106) hX dX7_writeTo_106 (by decide) (fun c4 => ?_) (fun c4 => ?_)
        ·
          exact v_vret (pc := 116) hX hZ dX7_writeTo_116 (by decide) (by decide) ⟨rfl, (by rw [X7_writeTo_m, if_pos c1, if_pos c2, if_neg c3, if_neg c4])⟩
        ·
          refine v_aload_n (pc := 109) hX dX7_writeTo_109 rfl ?_
          refine v_bipush (v := 45) (pc := 110) hX dX7_writeTo_110 (by decide) ?_
          refine mV_fresh (fun hF9 => ?_)
          have ap9 := apC_ok (g := g) (a := 45) ap8.1 hF9 (by omega)
          refine v_callV (z := yJ4_append_cf468) (pc := 112) hX dX7_writeTo_112 (c_apC hO ((apI g ((apC g ((apI g ((apC g ((apI g ((apC g ((apC g ((apI g m sb nn)) sb (gI m 289 p))) sb 58)) sb tt)) sb 47)) sb ss)) sb 47)) sb hh)) sb 45 ap8.1 (by omega) (by decide)) ap8.1.k rfl wd_1455 wd_819 wd_820 wd_13 wd_821 ⟨by decide, by decide, (by decide +kernel : (parseMethodDescriptor yJ4_append_cf468.desc).map (fun d => d.parameters.length) = some 1)⟩ rfl (Nat.le_of_ble_eq_true rfl) ⟨⟨by decide, by decide⟩, by decide, by decide⟩ (fun E m9 h9 => h9.elim) (fun r9 m9 h9 => ?_)
          obtain ⟨rfl, h8⟩ := h9
          replace h8 := h8.symm
          subst h8
          have an9 := ap9.2.1
          have ak9 : KF m (apC g ((apI g ((apC g ((apI g ((apC g ((apI g ((apC g ((apC g ((apI g m sb nn)) sb (gI m 289 p))) sb 58)) sb tt)) sb 47)) sb ss)) sb 47)) sb hh)) sb 45) := (ak8).tr ap9.2.2.1
          show mV g x _ _ _ _ _ [.ref sb]
          refine v_pop (pc := 115) hX dX7_writeTo_115 rfl ?_
          exact v_vret (pc := 116) hX hZ dX7_writeTo_116 (by decide) (by decide) ⟨rfl, (by rw [X7_writeTo_m, if_pos c1, if_pos c2, if_neg c3, if_pos c4])⟩
      ·
        refine v_aload_n (pc := 92) hX dX7_writeTo_92 rfl ?_
        refine v_bipush (v := 43) (pc := 93) hX dX7_writeTo_93 (by decide) ?_
        refine mV_fresh (fun hF10 => ?_)
        have ap10 := apC_ok (g := g) (a := 43) ap8.1 hF10 (by omega)
        refine v_callV (z := yJ4_append_cf468) (pc := 95) hX dX7_writeTo_95 (c_apC hO ((apI g ((apC g ((apI g ((apC g ((apI g ((apC g ((apC g ((apI g m sb nn)) sb (gI m 289 p))) sb 58)) sb tt)) sb 47)) sb ss)) sb 47)) sb hh)) sb 43 ap8.1 (by omega) (by decide)) ap8.1.k rfl wd_1455 wd_819 wd_820 wd_13 wd_821 ⟨by decide, by decide, (by decide +kernel : (parseMethodDescriptor yJ4_append_cf468.desc).map (fun d => d.parameters.length) = some 1)⟩ rfl (Nat.le_of_ble_eq_true rfl) ⟨⟨by decide, by decide⟩, by decide, by decide⟩ (fun E m9 h9 => h9.elim) (fun r9 m9 h9 => ?_)
        obtain ⟨rfl, h8⟩ := h9
        replace h8 := h8.symm
        subst h8
        have an10 := ap10.2.1
        have ak10 : KF m (apC g ((apI g ((apC g ((apI g ((apC g ((apI g ((apC g ((apC g ((apI g m sb nn)) sb (gI m 289 p))) sb 58)) sb tt)) sb 47)) sb ss)) sb 47)) sb hh)) sb 43) := (ak8).tr ap10.2.2.1
        show mV g x _ _ _ _ _ [.ref sb]
        refine v_pop (pc := 98) hX dX7_writeTo_98 rfl ?_
        refine v_aload_n (pc := 99) hX dX7_writeTo_99 rfl ?_
        refine v_get (v := va_rf (gR m 295 p)) (pc := 100) hX dX7_writeTo_100 (ak10.k hp (by decide)) (ci := 9) (r := vwC9) rfl 7 (by decide) wd_113 (congrArg va_rf (ak10.R hp (by decide))) ?_
        refine v_gets (pc := 103) hX dX7_writeTo_103 (vd_Z2 hO) wd_1456 ?_
        refine v_acmp_ne (a := gR m 295 p) (b := some (vdA g 2)) (tgt := 116) (pc := 106) hX dX7_writeTo_106 (by decide) (fun c5 => ?_) (fun c5 => ?_)
        ·
          exact v_vret (pc := 116) hX hZ dX7_writeTo_116 (by decide) (by decide) ⟨rfl, (by rw [X7_writeTo_m, if_pos c1, if_pos c2, if_pos c3, if_neg c5])⟩
        ·
          refine v_aload_n (pc := 109) hX dX7_writeTo_109 rfl ?_
          refine v_bipush (v := 45) (pc := 110) hX dX7_writeTo_110 (by decide) ?_
          refine mV_fresh (fun hF11 => ?_)
          have ap11 := apC_ok (g := g) (a := 45) ap10.1 hF11 (by omega)
          refine v_callV (z := yJ4_append_cf468) (pc := 112) hX dX7_writeTo_112 (c_apC hO ((apC g ((apI g ((apC g ((apI g ((apC g ((apI g ((apC g ((apC g ((apI g m sb nn)) sb (gI m 289 p))) sb 58)) sb tt)) sb 47)) sb ss)) sb 47)) sb hh)) sb 43)) sb 45 ap10.1 (by omega) (by decide)) ap10.1.k rfl wd_1455 wd_819 wd_820 wd_13 wd_821 ⟨by decide, by decide, (by decide +kernel : (parseMethodDescriptor yJ4_append_cf468.desc).map (fun d => d.parameters.length) = some 1)⟩ rfl (Nat.le_of_ble_eq_true rfl) ⟨⟨by decide, by decide⟩, by decide, by decide⟩ (fun E m9 h9 => h9.elim) (fun r9 m9 h9 => ?_)
          obtain ⟨rfl, h8⟩ := h9
          replace h8 := h8.symm
          subst h8
          have an11 := ap11.2.1
          have ak11 : KF m (apC g ((apC g ((apI g ((apC g ((apI g ((apC g ((apI g ((apC g ((apC g ((apI g m sb nn)) sb (gI m 289 p))) sb 58)) sb tt)) sb 47)) sb ss)) sb 47)) sb hh)) sb 43)) sb 45) := (ak10).tr ap11.2.2.1
          show mV g x _ _ _ _ _ [.ref sb]
          refine v_pop (pc := 115) hX dX7_writeTo_115 rfl ?_
          exact v_vret (pc := 116) hX hZ dX7_writeTo_116 (by decide) (by decide) ⟨rfl, (by rw [X7_writeTo_m, if_pos c1, if_pos c2, if_pos c3, if_pos c5])⟩
    ·
      refine v_aload_n (pc := 75) hX dX7_writeTo_75 rfl ?_
      refine v_bipush (v := 113) (pc := 76) hX dX7_writeTo_76 (by decide) ?_
      refine mV_fresh (fun hF12 => ?_)
      have ap12 := apC_ok (g := g) (a := 113) ap8.1 hF12 (by omega)
      refine v_callV (z := yJ4_append_cf468) (pc := 78) hX dX7_writeTo_78 (c_apC hO ((apI g ((apC g ((apI g ((apC g ((apI g ((apC g ((apC g ((apI g m sb nn)) sb (gI m 289 p))) sb 58)) sb tt)) sb 47)) sb ss)) sb 47)) sb hh)) sb 113 ap8.1 (by omega) (by decide)) ap8.1.k rfl wd_1455 wd_819 wd_820 wd_13 wd_821 ⟨by decide, by decide, (by decide +kernel : (parseMethodDescriptor yJ4_append_cf468.desc).map (fun d => d.parameters.length) = some 1)⟩ rfl (Nat.le_of_ble_eq_true rfl) ⟨⟨by decide, by decide⟩, by decide, by decide⟩ (fun E m9 h9 => h9.elim) (fun r9 m9 h9 => ?_)
      obtain ⟨rfl, h8⟩ := h9
      replace h8 := h8.symm
      subst h8
      have an12 := ap12.2.1
      have ak12 : KF m (apC g ((apI g ((apC g ((apI g ((apC g ((apI g ((apC g ((apC g ((apI g m sb nn)) sb (gI m 289 p))) sb 58)) sb tt)) sb 47)) sb ss)) sb 47)) sb hh)) sb 113) := (ak8).tr ap12.2.2.1
      show mV g x _ _ _ _ _ [.ref sb]
      refine v_pop (pc := 81) hX dX7_writeTo_81 rfl ?_
      refine v_aload_n (pc := 82) hX dX7_writeTo_82 rfl ?_
      refine v_get (v := va_rf (gR m 295 p)) (pc := 83) hX dX7_writeTo_83 (ak12.k hp (by decide)) (ci := 9) (r := vwC9) rfl 7 (by decide) wd_113 (congrArg va_rf (ak12.R hp (by decide))) ?_
      refine v_gets (pc := 86) hX dX7_writeTo_86 (vd_Z1 hO) wd_1092 ?_
      refine v_acmp_ne (a := gR m 295 p) (b := some (vdA g 1)) (tgt := 99) (pc := 89) hX dX7_writeTo_89 (by decide) (fun c6 => ?_) (fun c6 => ?_)
      ·
        refine v_aload_n (pc := 99) hX dX7_writeTo_99 rfl ?_
        refine v_get (v := va_rf (gR m 295 p)) (pc := 100) hX dX7_writeTo_100 (ak12.k hp (by decide)) (ci := 9) (r := vwC9) rfl 7 (by decide) wd_113 (congrArg va_rf (ak12.R hp (by decide))) ?_
        refine v_gets (pc := 103) hX dX7_writeTo_103 (vd_Z2 hO) wd_1456 ?_
        refine v_acmp_ne (a := gR m 295 p) (b := some (vdA g 2)) (tgt := 116) (pc := 106) hX dX7_writeTo_106 (by decide) (fun c7 => ?_) (fun c7 => ?_)
        ·
          exact v_vret (pc := 116) hX hZ dX7_writeTo_116 (by decide) (by decide) ⟨rfl, (by rw [X7_writeTo_m, if_pos c1, if_neg c2, if_neg c6, if_neg c7])⟩
        ·
          refine v_aload_n (pc := 109) hX dX7_writeTo_109 rfl ?_
          refine v_bipush (v := 45) (pc := 110) hX dX7_writeTo_110 (by decide) ?_
          refine mV_fresh (fun hF13 => ?_)
          have ap13 := apC_ok (g := g) (a := 45) ap12.1 hF13 (by omega)
          refine v_callV (z := yJ4_append_cf468) (pc := 112) hX dX7_writeTo_112 (c_apC hO ((apC g ((apI g ((apC g ((apI g ((apC g ((apI g ((apC g ((apC g ((apI g m sb nn)) sb (gI m 289 p))) sb 58)) sb tt)) sb 47)) sb ss)) sb 47)) sb hh)) sb 113)) sb 45 ap12.1 (by omega) (by decide)) ap12.1.k rfl wd_1455 wd_819 wd_820 wd_13 wd_821 ⟨by decide, by decide, (by decide +kernel : (parseMethodDescriptor yJ4_append_cf468.desc).map (fun d => d.parameters.length) = some 1)⟩ rfl (Nat.le_of_ble_eq_true rfl) ⟨⟨by decide, by decide⟩, by decide, by decide⟩ (fun E m9 h9 => h9.elim) (fun r9 m9 h9 => ?_)
          obtain ⟨rfl, h8⟩ := h9
          replace h8 := h8.symm
          subst h8
          have an13 := ap13.2.1
          have ak13 : KF m (apC g ((apC g ((apI g ((apC g ((apI g ((apC g ((apI g ((apC g ((apC g ((apI g m sb nn)) sb (gI m 289 p))) sb 58)) sb tt)) sb 47)) sb ss)) sb 47)) sb hh)) sb 113)) sb 45) := (ak12).tr ap13.2.2.1
          show mV g x _ _ _ _ _ [.ref sb]
          refine v_pop (pc := 115) hX dX7_writeTo_115 rfl ?_
          exact v_vret (pc := 116) hX hZ dX7_writeTo_116 (by decide) (by decide) ⟨rfl, (by rw [X7_writeTo_m, if_pos c1, if_neg c2, if_neg c6, if_pos c7])⟩
      ·
        refine v_aload_n (pc := 92) hX dX7_writeTo_92 rfl ?_
        refine v_bipush (v := 43) (pc := 93) hX dX7_writeTo_93 (by decide) ?_
        refine mV_fresh (fun hF14 => ?_)
        have ap14 := apC_ok (g := g) (a := 43) ap12.1 hF14 (by omega)
        refine v_callV (z := yJ4_append_cf468) (pc := 95) hX dX7_writeTo_95 (c_apC hO ((apC g ((apI g ((apC g ((apI g ((apC g ((apI g ((apC g ((apC g ((apI g m sb nn)) sb (gI m 289 p))) sb 58)) sb tt)) sb 47)) sb ss)) sb 47)) sb hh)) sb 113)) sb 43 ap12.1 (by omega) (by decide)) ap12.1.k rfl wd_1455 wd_819 wd_820 wd_13 wd_821 ⟨by decide, by decide, (by decide +kernel : (parseMethodDescriptor yJ4_append_cf468.desc).map (fun d => d.parameters.length) = some 1)⟩ rfl (Nat.le_of_ble_eq_true rfl) ⟨⟨by decide, by decide⟩, by decide, by decide⟩ (fun E m9 h9 => h9.elim) (fun r9 m9 h9 => ?_)
        obtain ⟨rfl, h8⟩ := h9
        replace h8 := h8.symm
        subst h8
        have an14 := ap14.2.1
        have ak14 : KF m (apC g ((apC g ((apI g ((apC g ((apI g ((apC g ((apI g ((apC g ((apC g ((apI g m sb nn)) sb (gI m 289 p))) sb 58)) sb tt)) sb 47)) sb ss)) sb 47)) sb hh)) sb 113)) sb 43) := (ak12).tr ap14.2.2.1
        show mV g x _ _ _ _ _ [.ref sb]
        refine v_pop (pc := 98) hX dX7_writeTo_98 rfl ?_
        refine v_aload_n (pc := 99) hX dX7_writeTo_99 rfl ?_
        refine v_get (v := va_rf (gR m 295 p)) (pc := 100) hX dX7_writeTo_100 (ak14.k hp (by decide)) (ci := 9) (r := vwC9) rfl 7 (by decide) wd_113 (congrArg va_rf (ak14.R hp (by decide))) ?_
        refine v_gets (pc := 103) hX dX7_writeTo_103 (vd_Z2 hO) wd_1456 ?_
        refine v_acmp_ne (a := gR m 295 p) (b := some (vdA g 2)) (tgt := 116) (pc := 106) hX dX7_writeTo_106 (by decide) (fun c8 => ?_) (fun c8 => ?_)
        ·
          exact v_vret (pc := 116) hX hZ dX7_writeTo_116 (by decide) (by decide) ⟨rfl, (by rw [X7_writeTo_m, if_pos c1, if_neg c2, if_pos c6, if_neg c8])⟩
        ·
          refine v_aload_n (pc := 109) hX dX7_writeTo_109 rfl ?_
          refine v_bipush (v := 45) (pc := 110) hX dX7_writeTo_110 (by decide) ?_
          refine mV_fresh (fun hF15 => ?_)
          have ap15 := apC_ok (g := g) (a := 45) ap14.1 hF15 (by omega)
          refine v_callV (z := yJ4_append_cf468) (pc := 112) hX dX7_writeTo_112 (c_apC hO ((apC g ((apC g ((apI g ((apC g ((apI g ((apC g ((apI g ((apC g ((apC g ((apI g m sb nn)) sb (gI m 289 p))) sb 58)) sb tt)) sb 47)) sb ss)) sb 47)) sb hh)) sb 113)) sb 43)) sb 45 ap14.1 (by omega) (by decide)) ap14.1.k rfl wd_1455 wd_819 wd_820 wd_13 wd_821 ⟨by decide, by decide, (by decide +kernel : (parseMethodDescriptor yJ4_append_cf468.desc).map (fun d => d.parameters.length) = some 1)⟩ rfl (Nat.le_of_ble_eq_true rfl) ⟨⟨by decide, by decide⟩, by decide, by decide⟩ (fun E m9 h9 => h9.elim) (fun r9 m9 h9 => ?_)
          obtain ⟨rfl, h8⟩ := h9
          replace h8 := h8.symm
          subst h8
          have an15 := ap15.2.1
          have ak15 : KF m (apC g ((apC g ((apC g ((apI g ((apC g ((apI g ((apC g ((apI g ((apC g ((apC g ((apI g m sb nn)) sb (gI m 289 p))) sb 58)) sb tt)) sb 47)) sb ss)) sb 47)) sb hh)) sb 113)) sb 43)) sb 45) := (ak14).tr ap15.2.2.1
          show mV g x _ _ _ _ _ [.ref sb]
          refine v_pop (pc := 115) hX dX7_writeTo_115 rfl ?_
          exact v_vret (pc := 116) hX hZ dX7_writeTo_116 (by decide) (by decide) ⟨rfl, (by rw [X7_writeTo_m, if_pos c1, if_neg c2, if_pos c6, if_pos c8])⟩
  ·
    refine v_aload_n (pc := 61) hX dX7_writeTo_61 rfl ?_
    refine v_bipush (v := 42) (pc := 62) hX dX7_writeTo_62 (by decide) ?_
    refine mV_fresh (fun hF16 => ?_)
    have ap16 := apC_ok (g := g) (a := 42) ap8.1 hF16 (by omega)
    refine v_callV (z := yJ4_append_cf468) (pc := 64) hX dX7_writeTo_64 (c_apC hO ((apI g ((apC g ((apI g ((apC g ((apI g ((apC g ((apC g ((apI g m sb nn)) sb (gI m 289 p))) sb 58)) sb tt)) sb 47)) sb ss)) sb 47)) sb hh)) sb 42 ap8.1 (by omega) (by decide)) ap8.1.k rfl wd_1455 wd_819 wd_820 wd_13 wd_821 ⟨by decide, by decide, (by decide +kernel : (parseMethodDescriptor yJ4_append_cf468.desc).map (fun d => d.parameters.length) = some 1)⟩ rfl (Nat.le_of_ble_eq_true rfl) ⟨⟨by decide, by decide⟩, by decide, by decide⟩ (fun E m9 h9 => h9.elim) (fun r9 m9 h9 => ?_)
    obtain ⟨rfl, h8⟩ := h9
    replace h8 := h8.symm
    subst h8
    have an16 := ap16.2.1
    have ak16 : KF m (apC g ((apI g ((apC g ((apI g ((apC g ((apI g ((apC g ((apC g ((apI g m sb nn)) sb (gI m 289 p))) sb 58)) sb tt)) sb 47)) sb ss)) sb 47)) sb hh)) sb 42) := (ak8).tr ap16.2.2.1
    show mV g x _ _ _ _ _ [.ref sb]
    refine v_pop (pc := 67) hX dX7_writeTo_67 rfl ?_
    refine v_aload_n (pc := 68) hX dX7_writeTo_68 rfl ?_
    refine v_get (v := .int (gI m 294 p)) (pc := 69) hX dX7_writeTo_69 (ak16.k hp (by decide)) (ci := 9) (r := vwC9) rfl 6 (by decide) wd_110 (congrArg Value.int (ak16.I hp (by decide))) ?_
    refine v_if_eq (tgt := 82) (pc := 72) hX dX7_writeTo_72 (by decide) (fun c9 => ?_) (fun c9 => ?_)
    ·
      refine v_aload_n (pc := 82) hX dX7_writeTo_82 rfl ?_
      refine v_get (v := va_rf (gR m 295 p)) (pc := 83) hX dX7_writeTo_83 (ak16.k hp (by decide)) (ci := 9) (r := vwC9) rfl 7 (by decide) wd_113 (congrArg va_rf (ak16.R hp (by decide))) ?_
      refine v_gets (pc := 86) hX dX7_writeTo_86 (vd_Z1 hO) wd_1092 ?_
      refine v_acmp_ne (a := gR m 295 p) (b := some (vdA g 1)) (tgt := 99) (pc := 89) hX dX7_writeTo_89 (by decide) (fun c10 => ?_) (fun c10 => ?_)
      ·
        refine v_aload_n (pc := 99) hX dX7_writeTo_99 rfl ?_
        refine v_get (v := va_rf (gR m 295 p)) (pc := 100) hX dX7_writeTo_100 (ak16.k hp (by decide)) (ci := 9) (r := vwC9) rfl 7 (by decide) wd_113 (congrArg va_rf (ak16.R hp (by decide))) ?_
        refine v_gets (pc := 103) hX dX7_writeTo_103 (vd_Z2 hO) wd_1456 ?_
        refine v_acmp_ne (a := gR m 295 p) (b := some (vdA g 2)) (tgt := 116) (pc := 106) hX dX7_writeTo_106 (by decide) (fun c11 => ?_) (fun c11 => ?_)
        ·
          exact v_vret (pc := 116) hX hZ dX7_writeTo_116 (by decide) (by decide) ⟨rfl, (by rw [X7_writeTo_m, if_neg c1, if_pos c9, if_neg c10, if_neg c11])⟩
        ·
          refine v_aload_n (pc := 109) hX dX7_writeTo_109 rfl ?_
          refine v_bipush (v := 45) (pc := 110) hX dX7_writeTo_110 (by decide) ?_
          refine mV_fresh (fun hF17 => ?_)
          have ap17 := apC_ok (g := g) (a := 45) ap16.1 hF17 (by omega)
          refine v_callV (z := yJ4_append_cf468) (pc := 112) hX dX7_writeTo_112 (c_apC hO ((apC g ((apI g ((apC g ((apI g ((apC g ((apI g ((apC g ((apC g ((apI g m sb nn)) sb (gI m 289 p))) sb 58)) sb tt)) sb 47)) sb ss)) sb 47)) sb hh)) sb 42)) sb 45 ap16.1 (by omega) (by decide)) ap16.1.k rfl wd_1455 wd_819 wd_820 wd_13 wd_821 ⟨by decide, by decide, (by decide +kernel : (parseMethodDescriptor yJ4_append_cf468.desc).map (fun d => d.parameters.length) = some 1)⟩ rfl (Nat.le_of_ble_eq_true rfl) ⟨⟨by decide, by decide⟩, by decide, by decide⟩ (fun E m9 h9 => h9.elim) (fun r9 m9 h9 => ?_)
          obtain ⟨rfl, h8⟩ := h9
          replace h8 := h8.symm
          subst h8
          have an17 := ap17.2.1
          have ak17 : KF m (apC g ((apC g ((apI g ((apC g ((apI g ((apC g ((apI g ((apC g ((apC g ((apI g m sb nn)) sb (gI m 289 p))) sb 58)) sb tt)) sb 47)) sb ss)) sb 47)) sb hh)) sb 42)) sb 45) := (ak16).tr ap17.2.2.1
          show mV g x _ _ _ _ _ [.ref sb]
          refine v_pop (pc := 115) hX dX7_writeTo_115 rfl ?_
          exact v_vret (pc := 116) hX hZ dX7_writeTo_116 (by decide) (by decide) ⟨rfl, (by rw [X7_writeTo_m, if_neg c1, if_pos c9, if_neg c10, if_pos c11])⟩
      ·
        refine v_aload_n (pc := 92) hX dX7_writeTo_92 rfl ?_
        refine v_bipush (v := 43) (pc := 93) hX dX7_writeTo_93 (by decide) ?_
        refine mV_fresh (fun hF18 => ?_)
        have ap18 := apC_ok (g := g) (a := 43) ap16.1 hF18 (by omega)
        refine v_callV (z := yJ4_append_cf468) (pc := 95) hX dX7_writeTo_95 (c_apC hO ((apC g ((apI g ((apC g ((apI g ((apC g ((apI g ((apC g ((apC g ((apI g m sb nn)) sb (gI m 289 p))) sb 58)) sb tt)) sb 47)) sb ss)) sb 47)) sb hh)) sb 42)) sb 43 ap16.1 (by omega) (by decide)) ap16.1.k rfl wd_1455 wd_819 wd_820 wd_13 wd_821 ⟨by decide, by decide, (by decide +kernel : (parseMethodDescriptor yJ4_append_cf468.desc).map (fun d => d.parameters.length) = some 1)⟩ rfl (Nat.le_of_ble_eq_true rfl) ⟨⟨by decide, by decide⟩, by decide, by decide⟩ (fun E m9 h9 => h9.elim) (fun r9 m9 h9 => ?_)
        obtain ⟨rfl, h8⟩ := h9
        replace h8 := h8.symm
        subst h8
        have an18 := ap18.2.1
        have ak18 : KF m (apC g ((apC g ((apI g ((apC g ((apI g ((apC g ((apI g ((apC g ((apC g ((apI g m sb nn)) sb (gI m 289 p))) sb 58)) sb tt)) sb 47)) sb ss)) sb 47)) sb hh)) sb 42)) sb 43) := (ak16).tr ap18.2.2.1
        show mV g x _ _ _ _ _ [.ref sb]
        refine v_pop (pc := 98) hX dX7_writeTo_98 rfl ?_
        refine v_aload_n (pc := 99) hX dX7_writeTo_99 rfl ?_
        refine v_get (v := va_rf (gR m 295 p)) (pc := 100) hX dX7_writeTo_100 (ak18.k hp (by decide)) (ci := 9) (r := vwC9) rfl 7 (by decide) wd_113 (congrArg va_rf (ak18.R hp (by decide))) ?_
        refine v_gets (pc := 103) hX dX7_writeTo_103 (vd_Z2 hO) wd_1456 ?_
        refine v_acmp_ne (a := gR m 295 p) (b := some (vdA g 2)) (tgt := 116) (pc := 106) hX dX7_writeTo_106 (by decide) (fun c12 => ?_) (fun c12 => ?_)
        ·
          exact v_vret (pc := 116) hX hZ dX7_writeTo_116 (by decide) (by decide) ⟨rfl, (by rw [X7_writeTo_m, if_neg c1, if_pos c9, if_pos c10, if_neg c12])⟩
        ·
          refine v_aload_n (pc := 109) hX dX7_writeTo_109 rfl ?_
          refine v_bipush (v := 45) (pc := 110) hX dX7_writeTo_110 (by decide) ?_
          refine mV_fresh (fun hF19 => ?_)
          have ap19 := apC_ok (g := g) (a := 45) ap18.1 hF19 (by omega)
          refine v_callV (z := yJ4_append_cf468) (pc := 112) hX dX7_writeTo_112 (c_apC hO ((apC g ((apC g ((apI g ((apC g ((apI g ((apC g ((apI g ((apC g ((apC g ((apI g m sb nn)) sb (gI m 289 p))) sb 58)) sb tt)) sb 47)) sb ss)) sb 47)) sb hh)) sb 42)) sb 43)) sb 45 ap18.1 (by omega) (by decide)) ap18.1.k rfl wd_1455 wd_819 wd_820 wd_13 wd_821 ⟨by decide, by decide, (by decide +kernel : (parseMethodDescriptor yJ4_append_cf468.desc).map (fun d => d.parameters.length) = some 1)⟩ rfl (Nat.le_of_ble_eq_true rfl) ⟨⟨by decide, by decide⟩, by decide, by decide⟩ (fun E m9 h9 => h9.elim) (fun r9 m9 h9 => ?_)
          obtain ⟨rfl, h8⟩ := h9
          replace h8 := h8.symm
          subst h8
          have an19 := ap19.2.1
          have ak19 : KF m (apC g ((apC g ((apC g ((apI g ((apC g ((apI g ((apC g ((apI g ((apC g ((apC g ((apI g m sb nn)) sb (gI m 289 p))) sb 58)) sb tt)) sb 47)) sb ss)) sb 47)) sb hh)) sb 42)) sb 43)) sb 45) := (ak18).tr ap19.2.2.1
          show mV g x _ _ _ _ _ [.ref sb]
          refine v_pop (pc := 115) hX dX7_writeTo_115 rfl ?_
          exact v_vret (pc := 116) hX hZ dX7_writeTo_116 (by decide) (by decide) ⟨rfl, (by rw [X7_writeTo_m, if_neg c1, if_pos c9, if_pos c10, if_pos c12])⟩
    ·
      refine v_aload_n (pc := 75) hX dX7_writeTo_75 rfl ?_
      refine v_bipush (v := 113) (pc := 76) hX dX7_writeTo_76 (by decide) ?_
      refine mV_fresh (fun hF20 => ?_)
      have ap20 := apC_ok (g := g) (a := 113) ap16.1 hF20 (by omega)
      refine v_callV (z := yJ4_append_cf468) (pc := 78) hX dX7_writeTo_78 (c_apC hO ((apC g ((apI g ((apC g ((apI g ((apC g ((apI g ((apC g ((apC g ((apI g m sb nn)) sb (gI m 289 p))) sb 58)) sb tt)) sb 47)) sb ss)) sb 47)) sb hh)) sb 42)) sb 113 ap16.1 (by omega) (by decide)) ap16.1.k rfl wd_1455 wd_819 wd_820 wd_13 wd_821 ⟨by decide, by decide, (by decide +kernel : (parseMethodDescriptor yJ4_append_cf468.desc).map (fun d => d.parameters.length) = some 1)⟩ rfl (Nat.le_of_ble_eq_true rfl) ⟨⟨by decide, by decide⟩, by decide, by decide⟩ (fun E m9 h9 => h9.elim) (fun r9 m9 h9 => ?_)
      obtain ⟨rfl, h8⟩ := h9
      replace h8 := h8.symm
      subst h8
      have an20 := ap20.2.1
      have ak20 : KF m (apC g ((apC g ((apI g ((apC g ((apI g ((apC g ((apI g ((apC g ((apC g ((apI g m sb nn)) sb (gI m 289 p))) sb 58)) sb tt)) sb 47)) sb ss)) sb 47)) sb hh)) sb 42)) sb 113) := (ak16).tr ap20.2.2.1
      show mV g x _ _ _ _ _ [.ref sb]
      refine v_pop (pc := 81) hX dX7_writeTo_81 rfl ?_
      refine v_aload_n (pc := 82) hX dX7_writeTo_82 rfl ?_
      refine v_get (v := va_rf (gR m 295 p)) (pc := 83) hX dX7_writeTo_83 (ak20.k hp (by decide)) (ci := 9) (r := vwC9) rfl 7 (by decide) wd_113 (congrArg va_rf (ak20.R hp (by decide))) ?_
      refine v_gets (pc := 86) hX dX7_writeTo_86 (vd_Z1 hO) wd_1092 ?_
      refine v_acmp_ne (a := gR m 295 p) (b := some (vdA g 1)) (tgt := 99) (pc := 89) hX dX7_writeTo_89 (by decide) (fun c13 => ?_) (fun c13 => ?_)
      ·
        refine v_aload_n (pc := 99) hX dX7_writeTo_99 rfl ?_
        refine v_get (v := va_rf (gR m 295 p)) (pc := 100) hX dX7_writeTo_100 (ak20.k hp (by decide)) (ci := 9) (r := vwC9) rfl 7 (by decide) wd_113 (congrArg va_rf (ak20.R hp (by decide))) ?_
        refine v_gets (pc := 103) hX dX7_writeTo_103 (vd_Z2 hO) wd_1456 ?_
        refine v_acmp_ne (a := gR m 295 p) (b := some (vdA g 2)) (tgt := 116) (pc := 106) hX dX7_writeTo_106 (by decide) (fun c14 => ?_) (fun c14 => ?_)
        ·
          exact v_vret (pc := 116) hX hZ dX7_writeTo_116 (by decide) (by decide) ⟨rfl, (by rw [X7_writeTo_m, if_neg c1, if_neg c9, if_neg c13, if_neg c14])⟩
        ·
          refine v_aload_n (pc := 109) hX dX7_writeTo_109 rfl ?_
          refine v_bipush (v := 45) (pc := 110) hX dX7_writeTo_110 (by decide) ?_
          refine mV_fresh (fun hF21 => ?_)
          have ap21 := apC_ok (g := g) (a := 45) ap20.1 hF21 (by omega)
          refine v_callV (z := yJ4_append_cf468) (pc := 112) hX dX7_writeTo_112 (c_apC hO ((apC g ((apC g ((apI g ((apC g ((apI g ((apC g ((apI g ((apC g ((apC g ((apI g m sb nn)) sb (gI m 289 p))) sb 58)) sb tt)) sb 47)) sb ss)) sb 47)) sb hh)) sb 42)) sb 113)) sb 45 ap20.1 (by omega) (by decide)) ap20.1.k rfl wd_1455 wd_819 wd_820 wd_13 wd_821 ⟨by decide, by decide, (by decide +kernel : (parseMethodDescriptor yJ4_append_cf468.desc).map (fun d => d.parameters.length) = some 1)⟩ rfl (Nat.le_of_ble_eq_true rfl) ⟨⟨by decide, by decide⟩, by decide, by decide⟩ (fun E m9 h9 => h9.elim) (fun r9 m9 h9 => ?_)
          obtain ⟨rfl, h8⟩ := h9
          replace h8 := h8.symm
          subst h8
          have an21 := ap21.2.1
          have ak21 : KF m (apC g ((apC g ((apC g ((apI g ((apC g ((apI g ((apC g ((apI g ((apC g ((apC g ((apI g m sb nn)) sb (gI m 289 p))) sb 58)) sb tt)) sb 47)) sb ss)) sb 47)) sb hh)) sb 42)) sb 113)) sb 45) := (ak20).tr ap21.2.2.1
          show mV g x _ _ _ _ _ [.ref sb]
          refine v_pop (pc := 115) hX dX7_writeTo_115 rfl ?_
          exact v_vret (pc := 116) hX hZ dX7_writeTo_116 (by decide) (by decide) ⟨rfl, (by rw [X7_writeTo_m, if_neg c1, if_neg c9, if_neg c13, if_pos c14])⟩
      ·
        refine v_aload_n (pc := 92) hX dX7_writeTo_92 rfl ?_
        refine v_bipush (v := 43) (pc := 93) hX dX7_writeTo_93 (by decide) ?_
        refine mV_fresh (fun hF22 => ?_)
        have ap22 := apC_ok (g := g) (a := 43) ap20.1 hF22 (by omega)
        refine v_callV (z := yJ4_append_cf468) (pc := 95) hX dX7_writeTo_95 (c_apC hO ((apC g ((apC g ((apI g ((apC g ((apI g ((apC g ((apI g ((apC g ((apC g ((apI g m sb nn)) sb (gI m 289 p))) sb 58)) sb tt)) sb 47)) sb ss)) sb 47)) sb hh)) sb 42)) sb 113)) sb 43 ap20.1 (by omega) (by decide)) ap20.1.k rfl wd_1455 wd_819 wd_820 wd_13 wd_821 ⟨by decide, by decide, (by decide +kernel : (parseMethodDescriptor yJ4_append_cf468.desc).map (fun d => d.parameters.length) = some 1)⟩ rfl (Nat.le_of_ble_eq_true rfl) ⟨⟨by decide, by decide⟩, by decide, by decide⟩ (fun E m9 h9 => h9.elim) (fun r9 m9 h9 => ?_)
        obtain ⟨rfl, h8⟩ := h9
        replace h8 := h8.symm
        subst h8
        have an22 := ap22.2.1
        have ak22 : KF m (apC g ((apC g ((apC g ((apI g ((apC g ((apI g ((apC g ((apI g ((apC g ((apC g ((apI g m sb nn)) sb (gI m 289 p))) sb 58)) sb tt)) sb 47)) sb ss)) sb 47)) sb hh)) sb 42)) sb 113)) sb 43) := (ak20).tr ap22.2.2.1
        show mV g x _ _ _ _ _ [.ref sb]
        refine v_pop (pc := 98) hX dX7_writeTo_98 rfl ?_
        refine v_aload_n (pc := 99) hX dX7_writeTo_99 rfl ?_
        refine v_get (v := va_rf (gR m 295 p)) (pc := 100) hX dX7_writeTo_100 (ak22.k hp (by decide)) (ci := 9) (r := vwC9) rfl 7 (by decide) wd_113 (congrArg va_rf (ak22.R hp (by decide))) ?_
        refine v_gets (pc := 103) hX dX7_writeTo_103 (vd_Z2 hO) wd_1456 ?_
        refine v_acmp_ne (a := gR m 295 p) (b := some (vdA g 2)) (tgt := 116) (pc := 106) hX dX7_writeTo_106 (by decide) (fun c15 => ?_) (fun c15 => ?_)
        ·
          exact v_vret (pc := 116) hX hZ dX7_writeTo_116 (by decide) (by decide) ⟨rfl, (by rw [X7_writeTo_m, if_neg c1, if_neg c9, if_pos c13, if_neg c15])⟩
        ·
          refine v_aload_n (pc := 109) hX dX7_writeTo_109 rfl ?_
          refine v_bipush (v := 45) (pc := 110) hX dX7_writeTo_110 (by decide) ?_
          refine mV_fresh (fun hF23 => ?_)
          have ap23 := apC_ok (g := g) (a := 45) ap22.1 hF23 (by omega)
          refine v_callV (z := yJ4_append_cf468) (pc := 112) hX dX7_writeTo_112 (c_apC hO ((apC g ((apC g ((apC g ((apI g ((apC g ((apI g ((apC g ((apI g ((apC g ((apC g ((apI g m sb nn)) sb (gI m 289 p))) sb 58)) sb tt)) sb 47)) sb ss)) sb 47)) sb hh)) sb 42)) sb 113)) sb 43)) sb 45 ap22.1 (by omega) (by decide)) ap22.1.k rfl wd_1455 wd_819 wd_820 wd_13 wd_821 ⟨by decide, by decide, (by decide +kernel : (parseMethodDescriptor yJ4_append_cf468.desc).map (fun d => d.parameters.length) = some 1)⟩ rfl (Nat.le_of_ble_eq_true rfl) ⟨⟨by decide, by decide⟩, by decide, by decide⟩ (fun E m9 h9 => h9.elim) (fun r9 m9 h9 => ?_)
          obtain ⟨rfl, h8⟩ := h9
          replace h8 := h8.symm
          subst h8
          have an23 := ap23.2.1
          have ak23 : KF m (apC g ((apC g ((apC g ((apC g ((apI g ((apC g ((apI g ((apC g ((apI g ((apC g ((apC g ((apI g m sb nn)) sb (gI m 289 p))) sb 58)) sb tt)) sb 47)) sb ss)) sb 47)) sb hh)) sb 42)) sb 113)) sb 43)) sb 45) := (ak22).tr ap23.2.2.1
          show mV g x _ _ _ _ _ [.ref sb]
          refine v_pop (pc := 115) hX dX7_writeTo_115 rfl ?_
          exact v_vret (pc := 116) hX hZ dX7_writeTo_116 (by decide) (by decide) ⟨rfl, (by rw [X7_writeTo_m, if_neg c1, if_neg c9, if_pos c13, if_pos c15])⟩
