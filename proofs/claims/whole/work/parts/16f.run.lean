def X10_firstFailure_l1 (g : mG) (b : Nat) (C : Nat) : Nat → Nat → mM → Int32 × mM
  | 0, j, m => ((-1), m)
  | n + 1, j, m => if 0 ≤ (X8_carryOut_r g m (b + 214) (nI j) (b + 33) j ((cmI g ((gQ m (b + 214 + 2) j).getD 0))) ((gI m 163 (b + 33)).toNatClampNeg) ((gI m 164 (b + 33)).toNatClampNeg)) then (X10_firstFailure_l1 g b C n (j + 1)  ((X8_carryOut_m g m (b + 214) (nI j) (b + 33) j ((cmI g ((gQ m (b + 214 + 2) j).getD 0))) ((gI m 163 (b + 33)).toNatClampNeg) ((gI m 164 (b + 33)).toNatClampNeg)))) else ((nI j, (X8_carryOut_m g m (b + 214) (nI j) (b + 33) j ((cmI g ((gQ m (b + 214 + 2) j).getD 0))) ((gI m 163 (b + 33)).toNatClampNeg) ((gI m 164 (b + 33)).toNatClampNeg))))
set_option maxHeartbeats 4000000 in
set_option maxRecDepth 100000 in
theorem lp_X10_firstFailure_l1 {l : Launch} {g : mG} {x : mCx} (hO : mO l g) (b : Nat) (C : Nat) (hC12 : C ≤ 12) {pst : Option Value → mM → Prop} {XX : String → mM → Prop} (hX : mX l g x cX10_firstFailure yX10_firstFailure { frames := 6, cells := 0, slots := 0, locals := 127 } 2) (hZ : mZ g x (Option.some FieldType.int) [] pst XX 0 0) : ∀ (n j : Nat)  (m : mM) (hb : SB m b) (hs : SP m (b + 214)) (hcq : CQ g m (b + 214)) (hC : gI m 324 (b + 214) = nI C) (hN3 : okI (gI m 163 (b + 33)) 8) (hH3 : okI (gI m 164 (b + 33)) 4) (hj : j + n = C) (hp : pst (some (.int ((X10_firstFailure_l1 g b C n j  m).1))) ((X10_firstFailure_l1 g b C n j  m).2)), mV g x m 0 0 13 [(0, .ref b), (1, .int (nI j))] [] := by
  intro n
  induction n with
  | zero =>
    intro j  m hb hs hcq hC hN3 hH3 hj hp
    refine v_iload_n (pc := 13) hX dX10_firstFailure_13 rfl ?_
    refine v_aload_n (pc := 14) hX dX10_firstFailure_14 rfl ?_
    refine v_get (v := .ref (b + 214)) (pc := 15) hX dX10_firstFailure_15 hb.k (ci := 11) (r := vwC11) rfl 5 (by decide) wd_311 (fvR hb.r5) ?_
    refine v_getN (v := .int (nI C)) (pc := 18) hX dX10_firstFailure_18 hs.k (ci := 10) (r := vwC10) rfl 4 (by decide) wd_256 (congrArg Value.int hC) ?_
    refine v_icmp_ge (tgt := 47) (pc := 21) hX dX10_firstFailure_21 (by decide) (fun c1 => ?_) (fun c1 => ?_)
    ·
      refine v_iconst (v := (-1)) (pc := 47) hX dX10_firstFailure_47 (by decide) ?_
      exact v_iret (pc := 48) hX hZ dX10_firstFailure_48 (by decide) (by decide) (by rw [X10_firstFailure_l1] at hp; exact hp)
    · exact absurd (nI_le (by omega) (by omega)) c1
  | succ n ih =>
    intro j  m hb hs hcq hC hN3 hH3 hj hp
    refine v_iload_n (pc := 13) hX dX10_firstFailure_13 rfl ?_
    refine v_aload_n (pc := 14) hX dX10_firstFailure_14 rfl ?_
    refine v_get (v := .ref (b + 214)) (pc := 15) hX dX10_firstFailure_15 hb.k (ci := 11) (r := vwC11) rfl 5 (by decide) wd_311 (fvR hb.r5) ?_
    refine v_getN (v := .int (nI C)) (pc := 18) hX dX10_firstFailure_18 hs.k (ci := 10) (r := vwC10) rfl 4 (by decide) wd_256 (congrArg Value.int hC) ?_
    refine v_icmp_ge (tgt := 47) (pc := 21) hX dX10_firstFailure_21 (by decide) (fun c1 => ?_) (fun c1 => ?_)
    · exact absurd c1 (nI_ge (by omega) (by omega))
    ·
      refine v_aload_n (pc := 24) hX dX10_firstFailure_24 rfl ?_
      refine v_get (v := .ref (b + 214)) (pc := 25) hX dX10_firstFailure_25 hb.k (ci := 11) (r := vwC11) rfl 5 (by decide) wd_311 (fvR hb.r5) ?_
      refine v_iload_n (pc := 28) hX dX10_firstFailure_28 rfl ?_
      refine v_aload_n (pc := 29) hX dX10_firstFailure_29 rfl ?_
      refine v_get (v := .ref (b + 33)) (pc := 30) hX dX10_firstFailure_30 hb.k (ci := 11) (r := vwC11) rfl 2 (by decide) wd_308 (fvR hb.r2) ?_
      refine v_callV (z := yX8_carryOut) (pc := 33) hX dX10_firstFailure_33 (c_X8_carryOut hO m (b + 214) (nI j) (b + 33) j ((cmI g ((gQ m (b + 214 + 2) j).getD 0))) ((gI m 163 (b + 33)).toNatClampNeg) ((gI m 164 (b + 33)).toNatClampNeg) hs hb.f3 rfl (by omega) (hcq.at (by omega)).1 (hcq.at (by omega)).2 hN3.1 hN3.2 hH3.1 hH3.2) hs.k rfl wd_1402 wd_1403 wd_1404 wd_10 wd_1405 ⟨by decide, by decide, (by decide +kernel : (parseMethodDescriptor yX8_carryOut.desc).map (fun d => d.parameters.length) = some 2)⟩ rfl (Nat.le_of_ble_eq_true rfl) ⟨⟨by decide, by decide⟩, by decide, by decide⟩ (fun E m9 h9 => h9.elim) (fun r9 m9 h9 => ?_)
      obtain ⟨rfl, h8⟩ := h9
      replace h8 := h8.symm
      subst h8
      show mV g x _ _ _ _ _ [.int (X8_carryOut_r g m (b + 214) (nI j) (b + 33) j ((cmI g ((gQ m (b + 214 + 2) j).getD 0))) ((gI m 163 (b + 33)).toNatClampNeg) ((gI m 164 (b + 33)).toNatClampNeg))]
      refine v_if_ge (tgt := 41) (pc := 36) hX dX10_firstFailure_36 (by decide) (fun c2 => ?_) (fun c2 => ?_)
      ·
        refine v_iinc (w := nI (j + 1)) (pc := 41) hX dX10_firstFailure_41 rfl (nI_1 _) (by decide) rfl ?_
        refine v_goto (tgt := 13) (pc := 44) hX dX10_firstFailure_44 (by decide) ?_
        refine mV_sub (lv' := [(0, .ref b), (1, .int (nI (j + 1)))]) ⟨rfl, rfl, trivial⟩ ?_
        exact ih (j + 1)  ((X8_carryOut_m g m (b + 214) (nI j) (b + 33) j ((cmI g ((gQ m (b + 214 + 2) j).getD 0))) ((gI m 163 (b + 33)).toNatClampNeg) ((gI m 164 (b + 33)).toNatClampNeg))) (hb.f3r (fr_X8_carryOut hb.f3 hN3.2 hH3.2) (SF_carryOut hb.f3 hN3.2)) (hs.fr (fr_X8_carryOut hb.f3 hN3.2 hH3.2) (by omega)) (hcq.fr (fr_X8_carryOut hb.f3 hN3.2 hH3.2) (by omega)) (((fr_X8_carryOut hb.f3 hN3.2 hH3.2).gI (k := 324) (a := b + 214) (by omega)).trans hC) (N_carryOut hb.f3 hN3.1 hN3.2) (H_carryOut hb.f3 hH3.1 hH3.2) (by omega) (by rw [X10_firstFailure_l1, if_pos c2] at hp; exact hp)
      ·
        refine v_iload_n (pc := 39) hX dX10_firstFailure_39 rfl ?_
        exact v_iret (pc := 40) hX hZ dX10_firstFailure_40 (by decide) (by decide) (by rw [X10_firstFailure_l1, if_neg c2] at hp; exact hp)
theorem kK_X10_firstFailure_l1 (g : mG) (b : Nat) (C : Nat) : ∀ (n j : Nat)  (m : mM), gK ((X10_firstFailure_l1 g b C n j  m).2) = gK m := by
  intro n
  induction n with
  | zero =>
    intro j  m
    rw [X10_firstFailure_l1]
    repeat' split
    all_goals simp only [mm, kK_X8_carryOut]
  | succ n ih =>
    intro j  m
    rw [X10_firstFailure_l1]
    repeat' split
    all_goals simp only [mm, ih, kK_X8_carryOut]
theorem kN_X10_firstFailure_l1 (g : mG) (b : Nat) (C : Nat) : ∀ (n j : Nat)  (m : mM), gN ((X10_firstFailure_l1 g b C n j  m).2) = gN m := by
  intro n
  induction n with
  | zero =>
    intro j  m
    rw [X10_firstFailure_l1]
    repeat' split
    all_goals simp only [mm, kN_X8_carryOut]
  | succ n ih =>
    intro j  m
    rw [X10_firstFailure_l1]
    repeat' split
    all_goals simp only [mm, ih, kN_X8_carryOut]
theorem kI_X10_firstFailure_l1 (g : mG) (b : Nat) (C : Nat) (k a9 : Nat) (h0 : k ≠ 163) (h1 : k ≠ 164) (h2 : k ≠ 165) (h3 : k ≠ 166) (h4 : k ≠ 167) (h5 : k ≠ 168) (h6 : k ≠ 169) (h7 : k ≠ 170) (h8 : k ≠ 192) (h9 : k ≠ 193) (h10 : k ≠ 194) (h11 : k ≠ 224) (h12 : k ≠ 225) (h13 : k ≠ 288) (h14 : k ≠ 289) (h15 : k ≠ 290) (h16 : k ≠ 291) (h17 : k ≠ 292) (h18 : k ≠ 293) (h19 : k ≠ 294) : ∀ (n j : Nat)  (m : mM), gI ((X10_firstFailure_l1 g b C n j  m).2) k a9 = gI m k a9 := by
  intro n
  induction n with
  | zero =>
    intro j  m
    rw [X10_firstFailure_l1]
    repeat' split
    all_goals simp [mm, kI_X8_carryOut, h0, h1, h2, h3, h4, h5, h6, h7, h8, h9, h10, h11, h12, h13, h14, h15, h16, h17, h18, h19]
  | succ n ih =>
    intro j  m
    rw [X10_firstFailure_l1]
    repeat' split
    all_goals simp [mm, ih, kI_X8_carryOut, h0, h1, h2, h3, h4, h5, h6, h7, h8, h9, h10, h11, h12, h13, h14, h15, h16, h17, h18, h19]
theorem kJ_X10_firstFailure_l1 (g : mG) (b : Nat) (C : Nat) (k a9 : Nat) (h0 : k ≠ 171) (h1 : k ≠ 195) : ∀ (n j : Nat)  (m : mM), gJ ((X10_firstFailure_l1 g b C n j  m).2) k a9 = gJ m k a9 := by
  intro n
  induction n with
  | zero =>
    intro j  m
    rw [X10_firstFailure_l1]
    repeat' split
    all_goals simp [mm, kJ_X8_carryOut, h0, h1]
  | succ n ih =>
    intro j  m
    rw [X10_firstFailure_l1]
    repeat' split
    all_goals simp [mm, ih, kJ_X8_carryOut, h0, h1]
theorem kR_X10_firstFailure_l1 (g : mG) (b : Nat) (C : Nat) (k a9 : Nat) (h0 : k ≠ 295) : ∀ (n j : Nat)  (m : mM), gR ((X10_firstFailure_l1 g b C n j  m).2) k a9 = gR m k a9 := by
  intro n
  induction n with
  | zero =>
    intro j  m
    rw [X10_firstFailure_l1]
    repeat' split
    all_goals simp [mm, kR_X8_carryOut, h0]
  | succ n ih =>
    intro j  m
    rw [X10_firstFailure_l1]
    repeat' split
    all_goals simp [mm, ih, kR_X8_carryOut, h0]
theorem kA_X10_firstFailure_l1 (g : mG) (b : Nat) (C : Nat) : ∀ (n j : Nat)  (m : mM), gA ((X10_firstFailure_l1 g b C n j  m).2) = gA m := by
  intro n
  induction n with
  | zero =>
    intro j  m
    rw [X10_firstFailure_l1]
    repeat' split
    all_goals simp only [mm, kA_X8_carryOut]
  | succ n ih =>
    intro j  m
    rw [X10_firstFailure_l1]
    repeat' split
    all_goals simp only [mm, ih, kA_X8_carryOut]
theorem kL_X10_firstFailure_l1 (g : mG) (b : Nat) (C : Nat) : ∀ (n j : Nat)  (m : mM), gL ((X10_firstFailure_l1 g b C n j  m).2) = gL m := by
  intro n
  induction n with
  | zero =>
    intro j  m
    rw [X10_firstFailure_l1]
    repeat' split
    all_goals simp only [mm, kL_X8_carryOut]
  | succ n ih =>
    intro j  m
    rw [X10_firstFailure_l1]
    repeat' split
    all_goals simp only [mm, ih, kL_X8_carryOut]
theorem kD_X10_firstFailure_l1 (g : mG) (b : Nat) (C : Nat) : ∀ (n j : Nat)  (m : mM), gD ((X10_firstFailure_l1 g b C n j  m).2) = gD m := by
  intro n
  induction n with
  | zero =>
    intro j  m
    rw [X10_firstFailure_l1]
    repeat' split
    all_goals simp only [mm, kD_X8_carryOut]
  | succ n ih =>
    intro j  m
    rw [X10_firstFailure_l1]
    repeat' split
    all_goals simp only [mm, ih, kD_X8_carryOut]
def X10_firstFailure_r (g : mG) (m : mM) (b : Nat) (C : Nat) : Int32 := (X10_firstFailure_l1 g b C C 0  ((X3_copyFrom_m g m (b + 33) (b + 1) ))).1
def X10_firstFailure_m (g : mG) (m : mM) (b : Nat) (C : Nat) : mM := (X10_firstFailure_l1 g b C C 0  ((X3_copyFrom_m g m (b + 33) (b + 1) ))).2
theorem kK_X10_firstFailure (g : mG) (m : mM) (b : Nat) (C : Nat) : gK (X10_firstFailure_m g m b C) = gK m := by
  unfold X10_firstFailure_m
  repeat' split
  all_goals simp only [mm, kK_X10_firstFailure_l1, kK_X3_copyFrom]
theorem kN_X10_firstFailure (g : mG) (m : mM) (b : Nat) (C : Nat) : gN (X10_firstFailure_m g m b C) = gN m := by
  unfold X10_firstFailure_m
  repeat' split
  all_goals simp only [mm, kN_X10_firstFailure_l1, kN_X3_copyFrom]
theorem kI_X10_firstFailure (g : mG) (m : mM) (b : Nat) (C : Nat) (k a9 : Nat) (h0 : k ≠ 163) (h1 : k ≠ 164) (h2 : k ≠ 165) (h3 : k ≠ 166) (h4 : k ≠ 167) (h5 : k ≠ 168) (h6 : k ≠ 169) (h7 : k ≠ 170) (h8 : k ≠ 192) (h9 : k ≠ 193) (h10 : k ≠ 194) (h11 : k ≠ 224) (h12 : k ≠ 225) (h13 : k ≠ 288) (h14 : k ≠ 289) (h15 : k ≠ 290) (h16 : k ≠ 291) (h17 : k ≠ 292) (h18 : k ≠ 293) (h19 : k ≠ 294) : gI (X10_firstFailure_m g m b C) k a9 = gI m k a9 := by
  unfold X10_firstFailure_m
  repeat' split
  all_goals simp [mm, kI_X10_firstFailure_l1, kI_X3_copyFrom, h0, h1, h2, h3, h4, h5, h6, h7, h8, h9, h10, h11, h12, h13, h14, h15, h16, h17, h18, h19]
theorem kJ_X10_firstFailure (g : mG) (m : mM) (b : Nat) (C : Nat) (k a9 : Nat) (h0 : k ≠ 171) (h1 : k ≠ 195) : gJ (X10_firstFailure_m g m b C) k a9 = gJ m k a9 := by
  unfold X10_firstFailure_m
  repeat' split
  all_goals simp [mm, kJ_X10_firstFailure_l1, kJ_X3_copyFrom, h0, h1]
theorem kR_X10_firstFailure (g : mG) (m : mM) (b : Nat) (C : Nat) (k a9 : Nat) (h0 : k ≠ 295) : gR (X10_firstFailure_m g m b C) k a9 = gR m k a9 := by
  unfold X10_firstFailure_m
  repeat' split
  all_goals simp [mm, kR_X10_firstFailure_l1, kR_X3_copyFrom, h0]
theorem kA_X10_firstFailure (g : mG) (m : mM) (b : Nat) (C : Nat) : gA (X10_firstFailure_m g m b C) = gA m := by
  unfold X10_firstFailure_m
  repeat' split
  all_goals simp only [mm, kA_X10_firstFailure_l1, kA_X3_copyFrom]
theorem kL_X10_firstFailure (g : mG) (m : mM) (b : Nat) (C : Nat) : gL (X10_firstFailure_m g m b C) = gL m := by
  unfold X10_firstFailure_m
  repeat' split
  all_goals simp only [mm, kL_X10_firstFailure_l1, kL_X3_copyFrom]
theorem kD_X10_firstFailure (g : mG) (m : mM) (b : Nat) (C : Nat) : gD (X10_firstFailure_m g m b C) = gD m := by
  unfold X10_firstFailure_m
  repeat' split
  all_goals simp only [mm, kD_X10_firstFailure_l1, kD_X3_copyFrom]
set_option maxHeartbeats 4000000 in
set_option maxRecDepth 100000 in
theorem c_X10_firstFailure {l : Launch} {g : mG} (hO : mO l g) (m : mM) (b : Nat) (C : Nat) (hb : SB m b) (hs : SP m (b + 214)) (hcq : CQ g m (b + 214)) (hC : gI m 324 (b + 214) = nI C) (hC12 : C ≤ 12) (hNo : okI (gI m 163 (b + 1)) 8) (hHo : okI (gI m 164 (b + 1)) 4) : mT l g yX10_firstFailure (.code yX10_firstFailure cX10_firstFailure 2 (Option.some FieldType.int)) 6 127 0 0 [.ref b] m (fun r m' => r = some (.int (X10_firstFailure_r g m b C)) ∧ m' = X10_firstFailure_m g m b C) nX := by
  refine mT_of hO (by decide) (Nat.le_of_ble_eq_true rfl) (fun x hX hZ => ?_)
  show mV g x m 0 0 0 [(0, .ref b)] []
  refine v_aload_n (pc := 0) hX dX10_firstFailure_0 rfl ?_
  refine v_get (v := .ref (b + 33)) (pc := 1) hX dX10_firstFailure_1 hb.k (ci := 11) (r := vwC11) rfl 2 (by decide) wd_308 (fvR hb.r2) ?_
  refine v_aload_n (pc := 4) hX dX10_firstFailure_4 rfl ?_
  refine v_get (v := .ref (b + 1)) (pc := 5) hX dX10_firstFailure_5 hb.k (ci := 11) (r := vwC11) rfl 0 (by decide) wd_306 (fvR hb.r0) ?_
  refine v_callV (z := yX3_copyFrom) (pc := 8) hX dX10_firstFailure_8 (c_X3_copyFrom hO m (b + 33) (b + 1) hb.f3 hb.f1) hb.f3.k rfl wd_845 wd_416 wd_417 wd_2 wd_418 ⟨by decide, by decide, (by decide +kernel : (parseMethodDescriptor yX3_copyFrom.desc).map (fun d => d.parameters.length) = some 1)⟩ rfl (Nat.le_of_ble_eq_true rfl) ⟨⟨by decide, by decide⟩, by decide, by decide⟩ (fun E m9 h9 => h9.elim) (fun r9 m9 h9 => ?_)
  obtain ⟨rfl, h8⟩ := h9
  replace h8 := h8.symm
  subst h8
  show mV g x _ _ _ _ _ []
  refine v_iconst (v := 0) (pc := 11) hX dX10_firstFailure_11 (by decide) ?_
  refine v_istore_n (pc := 12) hX dX10_firstFailure_12 (by decide) rfl ?_
  refine mV_sub (lv' := [(0, .ref b), (1, .int (nI 0))]) ⟨rfl, rfl, trivial⟩ ?_
  exact lp_X10_firstFailure_l1 hO b C hC12 hX hZ C 0  ((X3_copyFrom_m g m (b + 33) (b + 1) )) (hb.f3r (fr_X3_copyFrom g m (b + 33) (b + 1) hb.f3 hb.f1) (SF_cp hb.f3 hb.f1)) (hs.fr (fr_X3_copyFrom g m (b + 33) (b + 1) hb.f3 hb.f1) (by omega)) (hcq.fr (fr_X3_copyFrom g m (b + 33) (b + 1) hb.f3 hb.f1) (by omega)) (((fr_X3_copyFrom g m (b + 33) (b + 1) hb.f3 hb.f1).gI (k := 324) (a := b + 214) (by omega)).trans hC) (by rw [cp_N]; exact hNo) (by rw [cp_H]; exact hHo) (by omega) ⟨(by rw [X10_firstFailure_r]), (by rw [X10_firstFailure_m])⟩
theorem ff_l {g : mG} {b C : Nat} : ∀ (n j : Nat) (m : mM), j + n = C → C ≤ 12 → SB m b → SP m (b + 214) → CQ g m (b + 214) → okI (gI m 163 (b + 33)) 8 → okI (gI m 164 (b + 33)) 4 → Fr (b + 33) (b + 33 + 16) m (X10_firstFailure_l1 g b C n j m).2 ∧ SF (X10_firstFailure_l1 g b C n j m).2 (b + 33) := by
  intro n
  induction n with
  | zero =>
    intro j m hj hC12 hb hs hcq hN3 hH3
    rw [X10_firstFailure_l1]
    exact ⟨Fr.rf, hb.f3⟩
  | succ n ih =>
    intro j m hj hC12 hb hs hcq hN3 hH3
    have F : Fr (b + 33) (b + 33 + 16) m _ := fr_X8_carryOut (g := g) (p := b + 214) (i := j) (k := (cmI g ((gQ m (b + 214 + 2) j).getD 0))) (a := nI j) hb.f3 hN3.2 hH3.2
    have S : SF _ (b + 33) := SF_carryOut (g := g) (m := m) (p := b + 214) (i := j) (k := (cmI g ((gQ m (b + 214 + 2) j).getD 0))) (H := (gI m 164 (b + 33)).toNatClampNeg) (a := nI j) hb.f3 hN3.2
    rw [X10_firstFailure_l1]
    split
    · obtain ⟨e1, e2⟩ := ih (j + 1) _ (by omega) hC12 (hb.f3r F S) (hs.fr F (by omega)) (hcq.fr F (by omega)) (N_carryOut hb.f3 hN3.1 hN3.2) (H_carryOut hb.f3 hH3.1 hH3.2)
      exact ⟨F.tr e1 (Nat.le_refl _) (Nat.le_refl _), e2⟩
    · exact ⟨F, S⟩
theorem ff_fr {g : mG} {m : mM} {b C : Nat} (hb : SB m b) (hs : SP m (b + 214)) (hcq : CQ g m (b + 214)) (hC12 : C ≤ 12) (hNo : okI (gI m 163 (b + 1)) 8) (hHo : okI (gI m 164 (b + 1)) 4) : Fr (b + 33) (b + 33 + 16) m (X10_firstFailure_m g m b C) ∧ SF (X10_firstFailure_m g m b C) (b + 33) := by
  have F := (fr_X3_copyFrom g m (b + 33) (b + 1) hb.f3 hb.f1)
  obtain ⟨e1, e2⟩ := ff_l (g := g) C 0 (X3_copyFrom_m g m (b + 33) (b + 1)) (by omega) hC12 (hb.f3r F (SF_cp hb.f3 hb.f1)) (hs.fr F (by omega)) (hcq.fr F (by omega)) (by rw [cp_N]; exact hNo) (by rw [cp_H]; exact hHo)
  exact ⟨F.tr e1 (Nat.le_refl _) (Nat.le_refl _), e2⟩
theorem fvO {m : mM} {ci k a q : Nat} {C : String} (ht : tyOf ci k = .object C) (h : gR m (32 * ci + k) a = some q) : fv (tyOf ci k) m (32 * ci + k) a = .ref q := by
  rw [ht]
  exact fvR h
def rn2_m (g : mG) (m : mM) (b : Nat) : mM := X8_empty_m g (X8_read_m g m (b + 214)) (b + 214)
def rn3_m (g : mG) (m : mM) (b : Nat) : mM := X10_firstFailure_m g (rn2_m g m b) b (gI (rn2_m g m b) 324 (b + 214)).toNatClampNeg
theorem kK_rn2 (g : mG) (m : mM) (b : Nat) : gK (rn2_m g m b) = gK m := by unfold rn2_m; rw [kK_X8_empty, kK_X8_read]
theorem kR_rn2 (g : mG) (m : mM) (b : Nat) : gR (rn2_m g m b) = gR m := by unfold rn2_m; rw [kR_X8_empty, kR_X8_read]
theorem kI_rn2 (g : mG) (m : mM) (b k a : Nat) (h : k ≠ 323 ∧ k ≠ 324 ∧ k ≠ 325) : gI (rn2_m g m b) k a = gI m k a := by
  obtain ⟨h1, h2, h3⟩ := h
  unfold rn2_m
  rw [kI_X8_empty _ _ _ _ _ h1, kI_X8_read _ _ _ _ _ h2 h3]
theorem kK_rn3 (g : mG) (m : mM) (b : Nat) : gK (rn3_m g m b) = gK m := by unfold rn3_m; rw [kK_X10_firstFailure, kK_rn2]
theorem kR_rn3 (g : mG) (m : mM) (b k a : Nat) (h : k ≠ 295) : gR (rn3_m g m b) k a = gR m k a := by unfold rn3_m; rw [kR_X10_firstFailure _ _ _ _ _ _ h, kR_rn2]
/-- the line of commands, read and tried -/
theorem rn2_ok {g : mG} {m : mM} {b : Nat} (hb : SB m b) (hs : SP m (b + 214)) (hL : okI (gI m 323 (b + 214)) 60) (hcq : CQ g m (b + 214)) : SB (rn2_m g m b) b ∧ SP (rn2_m g m b) (b + 214) ∧ CQ g (rn2_m g m b) (b + 214) ∧ okI (gI (rn2_m g m b) 324 (b + 214)) 12 := by
  have rd1 := rd_out (g := g) hs hL hcq
  have hb1 := hb.frp rd1.1 (by omega)
  unfold rn2_m
  generalize X8_read_m g m (b + 214) = M1 at *
  exact ⟨hb1.to (kK_X8_empty _ _ _) (fun k hk a => by rw [kR_X8_empty]) (kQ_X8_empty _ _ _), rd1.2.1.to (kK_X8_empty _ _ _) (fun k hk a => by rw [kR_X8_empty]) (fun i => by rw [kQ_X8_empty]), rd1.2.2.1.to (fun i => by rw [kQ_X8_empty]), by rw [kI_X8_empty _ _ _ _ _ (by decide)]; exact rd1.2.2.2⟩
theorem rn3_ok {g : mG} {m : mM} {b nx : Nat} (hb : SB m b) (hs : SP m (b + 214)) (hL : okI (gI m 323 (b + 214)) 60) (hcq : CQ g m (b + 214)) (hNo : okI (gI m 163 (b + 1)) 8) (hHo : okI (gI m 164 (b + 1)) 4) (hn : gI m 257 (b + 49) = nI nx) : SB (rn3_m g m b) b ∧ gI (rn3_m g m b) 257 (b + 49) = nI nx ∧ Fr (b + 33) (b + 33 + 16) (rn2_m g m b) (rn3_m g m b) := by
  obtain ⟨hb2, hs2, hcq2, hC2⟩ := rn2_ok (g := g) hb hs hL hcq
  have ff3 := ff_fr (g := g) hb2 hs2 hcq2 hC2.2 (by rw [kI_rn2 _ _ _ _ _ (by decide)]; exact hNo) (by rw [kI_rn2 _ _ _ _ _ (by decide)]; exact hHo)
  exact ⟨hb2.f3r ff3.1 ff3.2, (ff3.1.gI (by omega)).trans ((kI_rn2 _ _ _ _ _ (by decide)).trans hn), ff3.1⟩
def X10_run_r (g : mG) (m : mM) (b : Nat) (nx : Nat) : Int32 := if (X8_read_r g m (b + 214) ) = ((-1)) then (if (X10_firstFailure_r g ((rn2_m g m b)) b ((gI (rn2_m g m b) 324 (b + 214)).toNatClampNeg)) = ((-1)) then (gI (X6_commit_m g ((X3_copyFrom_m g ((X6_prepare_m g ((rn3_m g m b)) (b + 49) (b + 1) nx)) (b + 1) (b + 33) )) (b + 49) ) 324 (b + 214)) else 0) else 0
def X10_run_m (g : mG) (m : mM) (b : Nat) (nx : Nat) : mM := if (X8_read_r g m (b + 214) ) = ((-1)) then (if (X10_firstFailure_r g ((rn2_m g m b)) b ((gI (rn2_m g m b) 324 (b + 214)).toNatClampNeg)) = ((-1)) then ((X6_commit_m g ((X3_copyFrom_m g ((X6_prepare_m g ((rn3_m g m b)) (b + 49) (b + 1) nx)) (b + 1) (b + 33) )) (b + 49) )) else ((sI (rn3_m g m b) 361 b (X10_firstFailure_r g ((rn2_m g m b)) b ((gI (rn2_m g m b) 324 (b + 214)).toNatClampNeg))))) else ((sI (rn2_m g m b) 360 b (X8_read_r g m (b + 214) )))
def X10_run_x (g : mG) (m : mM) (b : Nat) (nx : Nat) : Option String := if (X8_read_r g m (b + 214) ) = ((-1)) then (if (X10_firstFailure_r g ((rn2_m g m b)) b ((gI (rn2_m g m b) 324 (b + 214)).toNatClampNeg)) = ((-1)) then none else (some "java/lang/UnsupportedOperationException")) else (some "java/lang/IllegalArgumentException")

set_option maxHeartbeats 4000000 in
set_option maxRecDepth 100000 in
theorem c_X10_run {l : Launch} {g : mG} (hO : mO l g) (m : mM) (b : Nat) (nx : Nat) (hb : SB m b) (hs : SP m (b + 214)) (hL : okI (gI m 323 (b + 214)) 60) (hcq : CQ g m (b + 214)) (hNo : okI (gI m 163 (b + 1)) 8) (hHo : okI (gI m 164 (b + 1)) 4) (hn : gI m 257 (b + 49) = nI nx) (hn9 : nx < 9) : mT l g yX10_run (.code yX10_run cX10_run 3 (Option.some FieldType.int)) 9 194 1 6 [.ref b] m (fun r m' => X10_run_x g m b nx = none ∧ r = some (.int (X10_run_r g m b nx)) ∧ m' = X10_run_m g m b nx) (fun E9 m9 => X10_run_x g m b nx = some E9 ∧ ∃ n9, gN (X10_run_m g m b nx) ≤ n9 ∧ m9 = sN (X10_run_m g m b nx) n9) := by
  refine mT_of hO (by decide) (Nat.le_of_ble_eq_true rfl) (fun x hX hZ => ?_)
  show mV g x m 0 0 0 [(0, .ref b)] []
  refine v_aload_n (pc := 0) hX dX10_run_0 rfl ?_
  refine v_get (v := .ref (b + 214)) (pc := 1) hX dX10_run_1 hb.k (ci := 11) (r := vwC11) rfl 5 (by decide) wd_311 (fvR hb.r5) ?_
  refine v_callV (z := yX8_read) (pc := 4) hX dX10_run_4 (c_X8_read hO m (b + 214)  hs hL) hs.k rfl wd_1342 wd_1343 wd_1344 wd_10 wd_1345 ⟨by decide, by decide, (by decide +kernel : (parseMethodDescriptor yX8_read.desc).map (fun d => d.parameters.length) = some 0)⟩ rfl (Nat.le_of_ble_eq_true rfl) ⟨⟨by decide, by decide⟩, by decide, by decide⟩ (fun E m9 h9 => h9.elim) (fun r9 m9 h9 => ?_)
  obtain ⟨rfl, h8⟩ := h9
  replace h8 := h8.symm
  subst h8
  show mV g x _ _ _ _ _ [.int (X8_read_r g m (b + 214) )]
  refine v_istore_n (pc := 7) hX dX10_run_7 (by decide) rfl ?_
  have rd1 := rd_out (g := g) hs hL hcq
  have hb1 : SB (X8_read_m g m (b + 214)) b := hb.frp rd1.1 (by omega)
  refine v_aload_n (pc := 8) hX dX10_run_8 rfl ?_
  refine v_get (v := .ref (b + 214)) (pc := 9) hX dX10_run_9 hb1.k (ci := 11) (r := vwC11) rfl 5 (by decide) wd_311 (fvO rfl hb1.r5) ?_
  refine v_callV (z := yX8_empty) (pc := 12) hX dX10_run_12 (c_X8_empty hO ((X8_read_m g m (b + 214) )) (b + 214)  rd1.2.1) rd1.2.1.k rfl wd_1393 wd_1394 wd_1395 wd_10 wd_1396 ⟨by decide, by decide, (by decide +kernel : (parseMethodDescriptor yX8_empty.desc).map (fun d => d.parameters.length) = some 0)⟩ rfl (Nat.le_of_ble_eq_true rfl) ⟨⟨by decide, by decide⟩, by decide, by decide⟩ (fun E m9 h9 => h9.elim) (fun r9 m9 h9 => ?_)
  obtain ⟨rfl, h8⟩ := h9
  replace h8 := h8.symm
  subst h8
  show mV g x (rn2_m g m b) _ _ _ _ _
  show mV g x _ _ _ _ _ []
  obtain ⟨hb2, hs2, hcq2, hC2⟩ := rn2_ok (g := g) hb hs hL hcq
  have hN2 : okI (gI (rn2_m g m b) 163 (b + 1)) 8 := by rw [kI_rn2 _ _ _ _ _ (by decide)]; exact hNo
  have hH2 : okI (gI (rn2_m g m b) 164 (b + 1)) 4 := by rw [kI_rn2 _ _ _ _ _ (by decide)]; exact hHo
  refine v_iload_n (pc := 15) hX dX10_run_15 rfl ?_
  refine v_iconst (v := (-1)) (pc := 16) hX dX10_run_16 (by decide) ?_
  refine v_icmp_eq (tgt := 36) (pc := 17) hX dX10_run_17 (by decide) (fun c1 => ?_) (fun c1 => ?_)
  ·
    refine v_aload_n (pc := 36) hX dX10_run_36 rfl ?_
    refine v_callV (z := yX10_firstFailure) (pc := 37) hX dX10_run_37 (c_X10_firstFailure hO ((rn2_m g m b)) b ((gI (rn2_m g m b) 324 (b + 214)).toNatClampNeg) hb2 hs2 hcq2 hC2.1 hC2.2 hN2 hH2) hb2.k rfl wd_1398 wd_1400 wp_16 wd_1 wd_1401 ⟨by decide, by decide, (by decide +kernel : (parseMethodDescriptor yX10_firstFailure.desc).map (fun d => d.parameters.length) = some 0)⟩ rfl (Nat.le_of_ble_eq_true rfl) ⟨⟨by decide, by decide⟩, by decide, by decide⟩ (fun E m9 h9 => h9.elim) (fun r9 m9 h9 => ?_)
    obtain ⟨rfl, h8⟩ := h9
    replace h8 := h8.symm
    subst h8
    show mV g x (rn3_m g m b) _ _ _ _ _
    show mV g x _ _ _ _ _ [.int (X10_firstFailure_r g ((rn2_m g m b)) b ((gI (rn2_m g m b) 324 (b + 214)).toNatClampNeg))]
    refine v_istore_n (pc := 40) hX dX10_run_40 (by decide) rfl ?_
    obtain ⟨hb3, hn3, -⟩ := rn3_ok (g := g) hb hs hL hcq hNo hHo hn
    refine v_iload_n (pc := 41) hX dX10_run_41 rfl ?_
    refine v_iconst (v := (-1)) (pc := 42) hX dX10_run_42 (by decide) ?_
    refine v_icmp_eq (tgt := 62) (pc := 43) hX dX10_run_43 (by decide) (fun c2 => ?_) (fun c2 => ?_)
    ·
      refine v_aload_n (pc := 62) hX dX10_run_62 rfl ?_
      refine v_get (v := .ref (b + 49)) (pc := 63) hX dX10_run_63 hb3.k (ci := 11) (r := vwC11) rfl 3 (by decide) wd_309 (fvO rfl hb3.r3) ?_
      refine v_aload_n (pc := 66) hX dX10_run_66 rfl ?_
      refine v_get (v := .ref (b + 1)) (pc := 67) hX dX10_run_67 hb3.k (ci := 11) (r := vwC11) rfl 0 (by decide) wd_306 (fvO rfl hb3.r0) ?_
      refine v_callV (z := yX6_prepare) (pc := 70) hX dX10_run_70 (c_X6_prepare hO ((rn3_m g m b)) (b + 49) (b + 1) nx hb3.h hn3 hn9 hb3.f1) hb3.h.k rfl wd_855 wd_856 wd_857 wd_8 wd_858 ⟨by decide, by decide, (by decide +kernel : (parseMethodDescriptor yX6_prepare.desc).map (fun d => d.parameters.length) = some 1)⟩ rfl (Nat.le_of_ble_eq_true rfl) ⟨⟨by decide, by decide⟩, by decide, by decide⟩ (fun E m9 h9 => h9.elim) (fun r9 m9 h9 => ?_)
      obtain ⟨rfl, h8⟩ := h9
      replace h8 := h8.symm
      subst h8
      show mV g x _ _ _ _ _ []
      have hb4 : SB (X6_prepare_m g (rn3_m g m b) (b + 49) (b + 1) nx) b := hb3.to (by simp only [kK_X6_prepare]) (fun k hk a => by simp [kR_X6_prepare, hk]) (by simp only [kQ_X6_prepare])
      refine v_aload_n (pc := 73) hX dX10_run_73 rfl ?_
      refine v_get (v := .ref (b + 1)) (pc := 74) hX dX10_run_74 hb4.k (ci := 11) (r := vwC11) rfl 0 (by decide) wd_306 (fvO rfl hb4.r0) ?_
      refine v_aload_n (pc := 77) hX dX10_run_77 rfl ?_
      refine v_get (v := .ref (b + 33)) (pc := 78) hX dX10_run_78 hb4.k (ci := 11) (r := vwC11) rfl 2 (by decide) wd_308 (fvO rfl hb4.r2) ?_
      refine v_callV (z := yX3_copyFrom) (pc := 81) hX dX10_run_81 (c_X3_copyFrom hO ((X6_prepare_m g ((rn3_m g m b)) (b + 49) (b + 1) nx)) (b + 1) (b + 33) hb4.f1 hb4.f3) hb4.f1.k rfl wd_845 wd_416 wd_417 wd_2 wd_418 ⟨by decide, by decide, (by decide +kernel : (parseMethodDescriptor yX3_copyFrom.desc).map (fun d => d.parameters.length) = some 1)⟩ rfl (Nat.le_of_ble_eq_true rfl) ⟨⟨by decide, by decide⟩, by decide, by decide⟩ (fun E m9 h9 => h9.elim) (fun r9 m9 h9 => ?_)
      obtain ⟨rfl, h8⟩ := h9
      replace h8 := h8.symm
      subst h8
      show mV g x _ _ _ _ _ []
      have hb5 : SB (X3_copyFrom_m g (X6_prepare_m g (rn3_m g m b) (b + 49) (b + 1) nx) (b + 1) (b + 33)) b := hb4.to (by simp only [kK_X3_copyFrom]) (fun k hk a => by simp [kR_X3_copyFrom, hk]) (by simp only [kQ_X3_copyFrom])
      refine v_aload_n (pc := 84) hX dX10_run_84 rfl ?_
      refine v_get (v := .ref (b + 49)) (pc := 85) hX dX10_run_85 hb5.k (ci := 11) (r := vwC11) rfl 3 (by decide) wd_309 (fvO rfl hb5.r3) ?_
      refine v_callV (z := yX6_commit) (pc := 88) hX dX10_run_88 (c_X6_commit hO ((X3_copyFrom_m g ((X6_prepare_m g ((rn3_m g m b)) (b + 49) (b + 1) nx)) (b + 1) (b + 33) )) (b + 49)  hb5.h) hb5.h.k rfl wd_932 wd_933 wd_934 wd_8 wd_935 ⟨by decide, by decide, (by decide +kernel : (parseMethodDescriptor yX6_commit.desc).map (fun d => d.parameters.length) = some 0)⟩ rfl (Nat.le_of_ble_eq_true rfl) ⟨⟨by decide, by decide⟩, by decide, by decide⟩ (fun E m9 h9 => h9.elim) (fun r9 m9 h9 => ?_)
      obtain ⟨rfl, h8⟩ := h9
      replace h8 := h8.symm
      subst h8
      show mV g x _ _ _ _ _ []
      have hb6 : SB (X6_commit_m g (X3_copyFrom_m g (X6_prepare_m g (rn3_m g m b) (b + 49) (b + 1) nx) (b + 1) (b + 33)) (b + 49)) b := hb5.to (by simp only [kK_X6_commit]) (fun k hk a => by rw [kR_X6_commit]) (by simp only [kQ_X6_commit])
      refine v_aload_n (pc := 91) hX dX10_run_91 rfl ?_
      refine v_get (v := .ref (b + 214)) (pc := 92) hX dX10_run_92 hb6.k (ci := 11) (r := vwC11) rfl 5 (by decide) wd_311 (fvO rfl hb6.r5) ?_
      refine v_getN (v := .int (gI (X6_commit_m g ((X3_copyFrom_m g ((X6_prepare_m g ((rn3_m g m b)) (b + 49) (b + 1) nx)) (b + 1) (b + 33) )) (b + 49) ) 324 (b + 214))) (pc := 95) hX dX10_run_95 (by simp only [mm, kK_X3_copyFrom, kK_X6_commit, kK_X6_prepare, kK_rn3]; exact hs.k) (ci := 10) (r := vwC10) rfl 4 (by decide) wd_256 rfl ?_
      exact v_iret (pc := 98) hX hZ dX10_run_98 (by decide) (by decide) ⟨(by rw [X10_run_x, if_pos c1, if_pos c2]), (by rw [X10_run_r, if_pos c1, if_pos c2]), (by rw [X10_run_m, if_pos c1, if_pos c2])⟩
    ·
      refine v_aload_n (pc := 46) hX dX10_run_46 rfl ?_
      refine v_iload_n (pc := 47) hX dX10_run_47 rfl ?_
      refine v_put (m1 := (sI (rn3_m g m b) 361 b (X10_firstFailure_r g ((rn2_m g m b)) b ((gI (rn2_m g m b) 324 (b + 214)).toNatClampNeg)))) (pc := 48) hX dX10_run_48 hb3.k (ci := 11) (r := vwC11) rfl 9 (by decide) wd_315 rfl rfl rfl rfl ?_
      exact v_throw (E := "java/lang/UnsupportedOperationException") (text := "a command fails") (names := exN) (ix := 7) (rx := ex_Unsupp_c) (wd := 3) (pc := 51) hX hZ dX10_run_51 dX10_run_54 (.inr ⟨rfl, dX10_run_55⟩) dX10_run_58 dX10_run_61 ex_Unsupp_0 ex_Unsupp_1 ex_Unsupp_2 ex_Unsupp_5 ex_Unsupp_f exN_f wd_916 wd_24 (ex_Unsupp wd_926) wd_1426 (Nat.le_of_ble_eq_true rfl) ⟨by decide, by decide⟩ ⟨by decide, by decide⟩ (by decide) (by decide) (fun n9 hn9 => ⟨by rw [X10_run_x, if_pos c1, if_neg c2], n9, (by rw [X10_run_m, if_pos c1, if_neg c2]; exact hn9), (by rw [X10_run_m, if_pos c1, if_neg c2])⟩)
  ·
    refine v_aload_n (pc := 20) hX dX10_run_20 rfl ?_
    refine v_iload_n (pc := 21) hX dX10_run_21 rfl ?_
    refine v_put (m1 := (sI (rn2_m g m b) 360 b (X8_read_r g m (b + 214) ))) (pc := 22) hX dX10_run_22 hb2.k (ci := 11) (r := vwC11) rfl 8 (by decide) wd_314 rfl rfl rfl rfl ?_
    exact v_throw (E := "java/lang/IllegalArgumentException") (text := "the text is not a program") (names := exN) (ix := 7) (rx := ex_IllArg_c) (wd := 3) (pc := 25) hX hZ dX10_run_25 dX10_run_28 (.inr ⟨rfl, dX10_run_29⟩) dX10_run_32 dX10_run_35 ex_IllArg_0 ex_IllArg_1 ex_IllArg_2 ex_IllArg_5 ex_IllArg_f exN_f wd_897 wd_22 (ex_IllArg wd_899) wd_1397 (Nat.le_of_ble_eq_true rfl) ⟨by decide, by decide⟩ ⟨by decide, by decide⟩ (by decide) (by decide) (fun n9 hn9 => ⟨by rw [X10_run_x, if_neg c1], n9, (by rw [X10_run_m, if_neg c1]; exact hn9), (by rw [X10_run_m, if_neg c1])⟩)
