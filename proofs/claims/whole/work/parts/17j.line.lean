theorem c_lnO {l : Launch} {g : mG} (hO : mO l g) (m : mM) (sb : Nat) (s : SLo m sb) : mT l g yJ4_length_8abf5 (.code yJ4_length_8abf5 cJ4_length_8abf5 1 (Option.some FieldType.int)) 2 40 0 0 [.ref sb] m (fun r m' => r = some (.int (nI (cnO m sb))) ∧ m' = m) nX :=
  mT_imp (c_J4_length_8abf5 hO m sb _ _ _ s) (fun r m' q => ⟨q.1, q.2⟩) (fun E m' q => q)
def X10_outputAt_r (g : mG) (m : mM) (b : Nat) (a : Int32)  : Int32 := if a < 0 then 0 else (if a < (nI (cnO m (b + 230))) then (chO m (b + 230) a.toNatClampNeg) else 0)
def X10_outputAt_x (g : mG) (m : mM) (b : Nat) (a : Int32)  : Option String := if a < 0 then (some "java/lang/IndexOutOfBoundsException") else (if a < (nI (cnO m (b + 230))) then none else (some "java/lang/IndexOutOfBoundsException"))

set_option maxHeartbeats 4000000 in
set_option maxRecDepth 100000 in
theorem c_X10_outputAt {l : Launch} {g : mG} (hO : mO l g) (m : mM) (b : Nat) (a : Int32)  (hb : SB m b) (s0 : SLo m (b + 230)) : mT l g yX10_outputAt (.code yX10_outputAt cX10_outputAt 2 (Option.some FieldType.char)) 6 108 1 6 [.ref b, .int a] m (fun r m' => X10_outputAt_x g m b a  = none ∧ r = some (.int (X10_outputAt_r g m b a )) ∧ m' = m) (fun E9 m9 => X10_outputAt_x g m b a  = some E9 ∧ ∃ n9, gN (m) ≤ n9 ∧ m9 = sN (m) n9) := by
  refine mT_of hO (by decide) (Nat.le_of_ble_eq_true rfl) (fun x hX hZ => ?_)
  show mV g x m 0 0 0 [(0, .ref b), (1, .int a)] []
  refine v_iload_n (pc := 0) hX dX10_outputAt_0 rfl ?_
  refine v_if_lt (tgt := 15) (pc := 1) hX dX10_outputAt_1 (by decide) (fun c1 => ?_) (fun c1 => ?_)
  ·
    exact v_throw (E := "java/lang/IndexOutOfBoundsException") (text := "the line has no such index") (names := exN) (ix := 7) (rx := ex_IndexOut_c) (wd := 3) (pc := 15) hX hZ dX10_outputAt_15 dX10_outputAt_18 (.inr ⟨rfl, dX10_outputAt_19⟩) dX10_outputAt_22 dX10_outputAt_25 ex_IndexOut_0 ex_IndexOut_1 ex_IndexOut_2 ex_IndexOut_5 ex_IndexOut_f exN_f wd_884 wd_21 (ex_IndexOut wd_894) wd_1464 (Nat.le_of_ble_eq_true rfl) ⟨by decide, by decide⟩ ⟨by decide, by decide⟩ (by decide) (by decide) (fun n9 hn9 => ⟨by rw [X10_outputAt_x, if_pos c1], n9, hn9, rfl⟩)
  ·
    refine v_iload_n (pc := 4) hX dX10_outputAt_4 rfl ?_
    refine v_aload_n (pc := 5) hX dX10_outputAt_5 rfl ?_
    refine v_get (v := .ref (b + 230)) (pc := 6) hX dX10_outputAt_6 hb.k (ci := 11) (r := vwC11) rfl 6 (by decide) wd_312 (fvR hb.r6) ?_
    refine v_callV (z := yJ4_length_8abf5) (pc := 9) hX dX10_outputAt_9 (c_lnO hO m (b + 230) s0) s0.k rfl wd_840 wd_648 wd_1974 wd_13 wd_649 ⟨by decide, by decide, (by decide +kernel : (parseMethodDescriptor yJ4_length_8abf5.desc).map (fun d => d.parameters.length) = some 0)⟩ rfl (Nat.le_of_ble_eq_true rfl) ⟨⟨by decide, by decide⟩, by decide, by decide⟩ (fun E m9 h9 => h9.elim) (fun r9 m9 h9 => ?_)
    obtain ⟨rfl, h8⟩ := h9
    replace h8 := h8.symm
    subst h8
    show mV g x _ _ _ _ _ [.int (nI (cnO m (b + 230))), .int a]
    refine v_icmp_lt (tgt := 26) (pc := 12) hX dX10_outputAt_12 (by decide) (fun c2 => ?_) (fun c2 => ?_)
    ·
      refine v_aload_n (pc := 26) hX dX10_outputAt_26 rfl ?_
      refine v_get (v := .ref (b + 230)) (pc := 27) hX dX10_outputAt_27 hb.k (ci := 11) (r := vwC11) rfl 6 (by decide) wd_312 (fvR hb.r6) ?_
      refine v_iload_n (pc := 30) hX dX10_outputAt_30 rfl ?_
      refine v_callV (z := yJ4_charAt_5068e) (pc := 31) hX dX10_outputAt_31 (c_chO hO m (b + 230) a a.toNatClampNeg (ix_cl (a := a) (by assumption) (by assumption) (by have := s0.le; have := s0.hi; omega)).2 s0 (ix_cl (a := a) (by assumption) (by assumption) (by have := s0.le; have := s0.hi; omega)).1) s0.k rfl wd_1465 wd_1466 wd_1467 wd_13 wd_1468 ⟨by decide, by decide, (by decide +kernel : (parseMethodDescriptor yJ4_charAt_5068e.desc).map (fun d => d.parameters.length) = some 1)⟩ rfl (Nat.le_of_ble_eq_true rfl) ⟨⟨by decide, by decide⟩, by decide, by decide⟩ (fun E m9 h9 => h9.elim) (fun r9 m9 h9 => ?_)
      obtain ⟨rfl, h8⟩ := h9
      replace h8 := h8.symm
      subst h8
      show mV g x _ _ _ _ _ [.int (chO m (b + 230) a.toNatClampNeg)]
      exact v_zret (pc := 34) hX hZ dX10_outputAt_34 (nar_c _) (by decide) (by decide) ⟨(by rw [X10_outputAt_x, if_neg c1, if_pos c2]), (by rw [X10_outputAt_r, if_neg c1, if_pos c2]), rfl⟩
    ·
      exact v_throw (E := "java/lang/IndexOutOfBoundsException") (text := "the line has no such index") (names := exN) (ix := 7) (rx := ex_IndexOut_c) (wd := 3) (pc := 15) hX hZ dX10_outputAt_15 dX10_outputAt_18 (.inr ⟨rfl, dX10_outputAt_19⟩) dX10_outputAt_22 dX10_outputAt_25 ex_IndexOut_0 ex_IndexOut_1 ex_IndexOut_2 ex_IndexOut_5 ex_IndexOut_f exN_f wd_884 wd_21 (ex_IndexOut wd_894) wd_1464 (Nat.le_of_ble_eq_true rfl) ⟨by decide, by decide⟩ ⟨by decide, by decide⟩ (by decide) (by decide) (fun n9 hn9 => ⟨by rw [X10_outputAt_x, if_neg c1, if_neg c2], n9, hn9, rfl⟩)
/-- what the writing of a piece asks of it -/
def wpR (m : mM) (p : Nat) : Prop := okI (gI m 288 p) 9999 ∧ okI (gI m 290 p) 9999 ∧ okI (gI m 291 p) 9999 ∧ okI (gI m 292 p) 9999 ∧ ¬ 255 < gI m 289 p
def X10_writePiece_r (g : mG) (m : mM) (b : Nat) (a : Int32) (N : Nat) : Int32 := (match X3_find_r g m (b + 1) a N with | none => 0 | some p1 => nI (cnO ((X7_writeTo_m g ((slO g m (b + 230))) p1 (b + 230) ((gI m 288 p1).toNatClampNeg) ((gI m 290 p1).toNatClampNeg) ((gI m 291 p1).toNatClampNeg) ((gI m 292 p1).toNatClampNeg))) (b + 230)))
def X10_writePiece_m (g : mG) (m : mM) (b : Nat) (a : Int32) (N : Nat) : mM := (match X3_find_r g m (b + 1) a N with | none => m | some p1 => (X7_writeTo_m g ((slO g m (b + 230))) p1 (b + 230) ((gI m 288 p1).toNatClampNeg) ((gI m 290 p1).toNatClampNeg) ((gI m 291 p1).toNatClampNeg) ((gI m 292 p1).toNatClampNeg)))
def X10_writePiece_x (g : mG) (m : mM) (b : Nat) (a : Int32) (N : Nat) : Option String := (match X3_find_r g m (b + 1) a N with | none => some "java/util/NoSuchElementException" | some p1 => none)

set_option maxHeartbeats 4000000 in
set_option maxRecDepth 100000 in
theorem c_X10_writePiece {l : Launch} {g : mG} (hO : mO l g) (m : mM) (b : Nat) (a : Int32) (N : Nat) (hb : SB m b) (hN : gI m 163 (b + 1) = nI N) (hN8 : N ≤ 8) (s0 : SLo m (b + 230)) (hwp : ∀ p, X3_find_r g m (b + 1) a N = some p → wpR m p) : mT l g yX10_writePiece (.code yX10_writePiece cX10_writePiece 3 (Option.some FieldType.int)) 7 156 14 3412 [.ref b, .int a] m (fun r m' => X10_writePiece_x g m b a N = none ∧ r = some (.int (X10_writePiece_r g m b a N)) ∧ m' = X10_writePiece_m g m b a N) (fun E9 m9 => X10_writePiece_x g m b a N = some E9 ∧ ∃ n9, gN (X10_writePiece_m g m b a N) ≤ n9 ∧ m9 = sN (X10_writePiece_m g m b a N) n9) := by
  refine mT_of hO (by decide) (Nat.le_of_ble_eq_true rfl) (fun x hX hZ => ?_)
  show mV g x m 0 0 0 [(0, .ref b), (1, .int a)] []
  refine v_aload_n (pc := 0) hX dX10_writePiece_0 rfl ?_
  refine v_iload_n (pc := 1) hX dX10_writePiece_1 rfl ?_
  refine v_callV (z := yX10_required) (pc := 2) hX dX10_writePiece_2 (c_X10_required hO m b a N hb hN hN8) hb.k rfl wd_1163 wd_1165 wp_4 wd_1 wd_1166 ⟨by decide, by decide, (by decide +kernel : (parseMethodDescriptor yX10_required.desc).map (fun d => d.parameters.length) = some 1)⟩ rfl (Nat.le_of_ble_eq_true rfl) ⟨⟨by decide, by decide⟩, by decide, by decide⟩ (fun E9 m9 h9 => by obtain ⟨hx9, n9, hn9, rfl⟩ := h9; obtain ⟨hq9, rfl⟩ := req_x hx9; exact v_out hX hZ (by decide) (by decide) ⟨by simp only [X10_writePiece_x, hq9], n9, (by simp only [X10_writePiece_m, hq9]; exact hn9), (by simp only [X10_writePiece_m, hq9])⟩) (fun r9 m9 h9 => ?_)
  obtain ⟨hx1, rfl, h8⟩ := h9
  replace h8 := h8.symm
  subst h8
  obtain ⟨p1, hq1, hr9⟩ := req_p hx1
  rw [hr9]
  show mV g x _ _ _ _ _ [.ref p1]
  refine v_astore_n (pc := 5) hX dX10_writePiece_5 (by decide) rfl ?_
  refine mV_fresh (fun hF0 => ?_)
  refine v_aload_n (pc := 6) hX dX10_writePiece_6 rfl ?_
  refine v_get (v := .ref (b + 230)) (pc := 7) hX dX10_writePiece_7 hb.k (ci := 11) (r := vwC11) rfl 6 (by decide) wd_312 (fvR hb.r6) ?_
  refine v_iconst (v := 0) (pc := 10) hX dX10_writePiece_10 (by decide) ?_
  refine v_callV (z := yJ4_setLength_d00df) (pc := 11) hX dX10_writePiece_11 (c_slO hO m (b + 230) s0) s0.k rfl wd_470 wd_471 wd_472 wd_13 wd_473 ⟨by decide, by decide, (by decide +kernel : (parseMethodDescriptor yJ4_setLength_d00df.desc).map (fun d => d.parameters.length) = some 1)⟩ rfl (Nat.le_of_ble_eq_true rfl) ⟨⟨by decide, by decide⟩, by decide, by decide⟩ (fun E m9 h9 => h9.elim) (fun r9 m9 h9 => ?_)
  obtain ⟨rfl, h8⟩ := h9
  replace h8 := h8.symm
  subst h8
  show mV g x _ _ _ _ _ []
  have LS := slO_LN (g := g) s0 hF0
  have kS := LS.2.2.1
  have hp1 := find_k hb.f1 hN8 (by assumption)
  have hw := hwp p1 (by assumption)
  refine v_aload_n (pc := 14) hX dX10_writePiece_14 rfl ?_
  refine v_aload_n (pc := 15) hX dX10_writePiece_15 rfl ?_
  refine v_get (v := .ref (b + 230)) (pc := 16) hX dX10_writePiece_16 (kS.k hb.k (by decide)) (ci := 11) (r := vwC11) rfl 6 (by decide) wd_312 (fvR (((kS.R hb.k (by decide)).trans hb.r6))) ?_
  refine v_callV (z := yX7_writeTo) (pc := 19) hX dX10_writePiece_19 (c_X7_writeTo hO ((slO g m (b + 230))) p1 (b + 230) ((gI m 288 p1).toNatClampNeg) ((gI m 290 p1).toNatClampNeg) ((gI m 291 p1).toNatClampNeg) ((gI m 292 p1).toNatClampNeg) (kS.k (find_k hb.f1 hN8 hq1) (by decide)) LS.1 LS.2.2.2.1 (by rw [kS.I hp1 (by decide)]; exact hw.2.2.2.2) ((kS.I hp1 (by decide)).trans hw.1.1) ((kS.I hp1 (by decide)).trans hw.2.1.1) ((kS.I hp1 (by decide)).trans hw.2.2.1.1) ((kS.I hp1 (by decide)).trans hw.2.2.2.1.1) (by have := hw.1.2; omega) (by have := hw.2.1.2; omega) (by have := hw.2.2.1.2; omega) (by have := hw.2.2.2.1.2; omega)) (kS.k (find_k hb.f1 hN8 hq1) (by decide)) rfl wd_1450 wd_1451 wd_1452 wd_4 wd_1453 ⟨by decide, by decide, (by decide +kernel : (parseMethodDescriptor yX7_writeTo.desc).map (fun d => d.parameters.length) = some 1)⟩ rfl (Nat.le_of_ble_eq_true rfl) ⟨⟨by decide, by decide⟩, by decide, by decide⟩ (fun E m9 h9 => h9.elim) (fun r9 m9 h9 => ?_)
  obtain ⟨rfl, h8⟩ := h9
  replace h8 := h8.symm
  subst h8
  show mV g x _ _ _ _ _ []
  have LW := wp_LN (g := g) (p := p1) (nn := (gI m 288 p1).toNatClampNeg) (tt := (gI m 290 p1).toNatClampNeg) (ss := (gI m 291 p1).toNatClampNeg) (hh := (gI m 292 p1).toNatClampNeg) LS (by have := hw.1.2; omega) (by have := hw.2.1.2; omega) (by have := hw.2.2.1.2; omega) (by have := hw.2.2.2.1.2; omega)
  have kW := LW.2.2.1
  refine v_aload_n (pc := 22) hX dX10_writePiece_22 rfl ?_
  refine v_get (v := .ref (b + 230)) (pc := 23) hX dX10_writePiece_23 (kW.k hb.k (by decide)) (ci := 11) (r := vwC11) rfl 6 (by decide) wd_312 (fvR (((kW.R hb.k (by decide)).trans hb.r6))) ?_
  refine v_callV (z := yJ4_length_8abf5) (pc := 26) hX dX10_writePiece_26 (c_lnO hO ((X7_writeTo_m g ((slO g m (b + 230))) p1 (b + 230) ((gI m 288 p1).toNatClampNeg) ((gI m 290 p1).toNatClampNeg) ((gI m 291 p1).toNatClampNeg) ((gI m 292 p1).toNatClampNeg))) (b + 230) LW.1) LW.1.k rfl wd_840 wd_648 wd_1974 wd_13 wd_649 ⟨by decide, by decide, (by decide +kernel : (parseMethodDescriptor yJ4_length_8abf5.desc).map (fun d => d.parameters.length) = some 0)⟩ rfl (Nat.le_of_ble_eq_true rfl) ⟨⟨by decide, by decide⟩, by decide, by decide⟩ (fun E m9 h9 => h9.elim) (fun r9 m9 h9 => ?_)
  obtain ⟨rfl, h8⟩ := h9
  replace h8 := h8.symm
  subst h8
  show mV g x _ _ _ _ _ [.int (nI (cnO ((X7_writeTo_m g ((slO g m (b + 230))) p1 (b + 230) ((gI m 288 p1).toNatClampNeg) ((gI m 290 p1).toNatClampNeg) ((gI m 291 p1).toNatClampNeg) ((gI m 292 p1).toNatClampNeg))) (b + 230)))]
  exact v_iret (pc := 29) hX hZ dX10_writePiece_29 (by decide) (by decide) ⟨(by simp only [X10_writePiece_x, hq1]), (by simp only [X10_writePiece_r, hq1]), (by simp only [X10_writePiece_m, hq1])⟩
def X10_writeFurnace_r (g : mG) (m : mM) (b : Nat) (N : Nat) : Int32 := nI (cnO ((X3_writeFurnaceTo_m g ((slO g m (b + 230))) (b + 1) (b + 230) N ((gI m 192 (b + 1 + 1)).toNatClampNeg) ((gI m 193 (b + 1 + 1)).toNatClampNeg) ((gI m 194 (b + 1 + 1)).toNatClampNeg))) (b + 230))
def X10_writeFurnace_m (g : mG) (m : mM) (b : Nat) (N : Nat) : mM := (X3_writeFurnaceTo_m g ((slO g m (b + 230))) (b + 1) (b + 230) N ((gI m 192 (b + 1 + 1)).toNatClampNeg) ((gI m 193 (b + 1 + 1)).toNatClampNeg) ((gI m 194 (b + 1 + 1)).toNatClampNeg))

set_option maxHeartbeats 4000000 in
set_option maxRecDepth 100000 in
theorem c_X10_writeFurnace {l : Launch} {g : mG} (hO : mO l g) (m : mM) (b : Nat) (N : Nat) (hb : SB m b) (hN : gI m 163 (b + 1) = nI N) (hN8 : N ≤ 8) (s0 : SLo m (b + 230)) (hnum : ∀ i, i < N → okI (gI m 288 (pa m (b + 1) i)) 9999) (hft : okI (gI m 192 (b + 1 + 1)) 9999) (hfv : okI (gI m 193 (b + 1 + 1)) 9999) (hfo : okI (gI m 194 (b + 1 + 1)) 9999) : mT l g yX10_writeFurnace (.code yX10_writeFurnace cX10_writeFurnace 1 (Option.some FieldType.int)) 7 157 22 5764 [.ref b] m (fun r m' => r = some (.int (X10_writeFurnace_r g m b N)) ∧ m' = X10_writeFurnace_m g m b N) nX := by
  refine mT_of hO (by decide) (Nat.le_of_ble_eq_true rfl) (fun x hX hZ => ?_)
  show mV g x m 0 0 0 [(0, .ref b)] []
  refine mV_fresh (fun hF0 => ?_)
  refine v_aload_n (pc := 0) hX dX10_writeFurnace_0 rfl ?_
  refine v_get (v := .ref (b + 230)) (pc := 1) hX dX10_writeFurnace_1 hb.k (ci := 11) (r := vwC11) rfl 6 (by decide) wd_312 (fvR hb.r6) ?_
  refine v_iconst (v := 0) (pc := 4) hX dX10_writeFurnace_4 (by decide) ?_
  refine v_callV (z := yJ4_setLength_d00df) (pc := 5) hX dX10_writeFurnace_5 (c_slO hO m (b + 230) s0) s0.k rfl wd_470 wd_471 wd_472 wd_13 wd_473 ⟨by decide, by decide, (by decide +kernel : (parseMethodDescriptor yJ4_setLength_d00df.desc).map (fun d => d.parameters.length) = some 1)⟩ rfl (Nat.le_of_ble_eq_true rfl) ⟨⟨by decide, by decide⟩, by decide, by decide⟩ (fun E m9 h9 => h9.elim) (fun r9 m9 h9 => ?_)
  obtain ⟨rfl, h8⟩ := h9
  replace h8 := h8.symm
  subst h8
  show mV g x _ _ _ _ _ []
  have LS := slO_LN (g := g) s0 hF0
  have kS := LS.2.2.1
  refine v_aload_n (pc := 8) hX dX10_writeFurnace_8 rfl ?_
  refine v_get (v := .ref (b + 1)) (pc := 9) hX dX10_writeFurnace_9 (kS.k hb.k (by decide)) (ci := 11) (r := vwC11) rfl 0 (by decide) wd_306 (fvR (((kS.R hb.k (by decide)).trans hb.r0))) ?_
  refine v_aload_n (pc := 12) hX dX10_writeFurnace_12 rfl ?_
  refine v_get (v := .ref (b + 230)) (pc := 13) hX dX10_writeFurnace_13 (kS.k hb.k (by decide)) (ci := 11) (r := vwC11) rfl 6 (by decide) wd_312 (fvR (((kS.R hb.k (by decide)).trans hb.r6))) ?_
  refine v_callV (z := yX3_writeFurnaceTo) (pc := 16) hX dX10_writeFurnace_16 (c_X3_writeFurnaceTo hO ((slO g m (b + 230))) (b + 1) (b + 230) N ((gI m 192 (b + 1 + 1)).toNatClampNeg) ((gI m 193 (b + 1 + 1)).toNatClampNeg) ((gI m 194 (b + 1 + 1)).toNatClampNeg) (hb.f1.kf kS) ((kS.I hb.f1.k (by decide)).trans hN) hN8 (num_kf hb.f1 hN8 kS hnum) LS.1 LS.2.2.2.1 ((kS.I hb.f1.k1 (by decide)).trans hft.1) ((kS.I hb.f1.k1 (by decide)).trans hfv.1) ((kS.I hb.f1.k1 (by decide)).trans hfo.1) (by have := hft.2; omega) (by have := hfv.2; omega) (by have := hfo.2; omega)) (kS.k hb.f1.k (by decide)) rfl wd_813 wd_814 wd_815 wd_2 wd_816 ⟨by decide, by decide, (by decide +kernel : (parseMethodDescriptor yX3_writeFurnaceTo.desc).map (fun d => d.parameters.length) = some 1)⟩ rfl (Nat.le_of_ble_eq_true rfl) ⟨⟨by decide, by decide⟩, by decide, by decide⟩ (fun E m9 h9 => h9.elim) (fun r9 m9 h9 => ?_)
  obtain ⟨rfl, h8⟩ := h9
  replace h8 := h8.symm
  subst h8
  show mV g x _ _ _ _ _ []
  have LW := wf_LN (g := g) (f := b + 1) (N := N) (tt := (gI m 192 (b + 1 + 1)).toNatClampNeg) (vv := (gI m 193 (b + 1 + 1)).toNatClampNeg) (oo := (gI m 194 (b + 1 + 1)).toNatClampNeg) hb.f1 hN8 LS (by have := hft.2; omega) (by have := hfv.2; omega) (by have := hfo.2; omega) hnum
  have kW := LW.2.2.1
  refine v_aload_n (pc := 19) hX dX10_writeFurnace_19 rfl ?_
  refine v_get (v := .ref (b + 230)) (pc := 20) hX dX10_writeFurnace_20 (kW.k hb.k (by decide)) (ci := 11) (r := vwC11) rfl 6 (by decide) wd_312 (fvR (((kW.R hb.k (by decide)).trans hb.r6))) ?_
  refine v_callV (z := yJ4_length_8abf5) (pc := 23) hX dX10_writeFurnace_23 (c_lnO hO ((X3_writeFurnaceTo_m g ((slO g m (b + 230))) (b + 1) (b + 230) N ((gI m 192 (b + 1 + 1)).toNatClampNeg) ((gI m 193 (b + 1 + 1)).toNatClampNeg) ((gI m 194 (b + 1 + 1)).toNatClampNeg))) (b + 230) LW.1) LW.1.k rfl wd_840 wd_648 wd_1974 wd_13 wd_649 ⟨by decide, by decide, (by decide +kernel : (parseMethodDescriptor yJ4_length_8abf5.desc).map (fun d => d.parameters.length) = some 0)⟩ rfl (Nat.le_of_ble_eq_true rfl) ⟨⟨by decide, by decide⟩, by decide, by decide⟩ (fun E m9 h9 => h9.elim) (fun r9 m9 h9 => ?_)
  obtain ⟨rfl, h8⟩ := h9
  replace h8 := h8.symm
  subst h8
  show mV g x _ _ _ _ _ [.int (nI (cnO ((X3_writeFurnaceTo_m g ((slO g m (b + 230))) (b + 1) (b + 230) N ((gI m 192 (b + 1 + 1)).toNatClampNeg) ((gI m 193 (b + 1 + 1)).toNatClampNeg) ((gI m 194 (b + 1 + 1)).toNatClampNeg))) (b + 230)))]
  exact v_iret (pc := 26) hX hZ dX10_writeFurnace_26 (by decide) (by decide) ⟨(by rw [X10_writeFurnace_r]), (by rw [X10_writeFurnace_m])⟩
