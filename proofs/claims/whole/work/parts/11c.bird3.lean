theorem rng_T {a : Int32} (h0 : ¬ a < 0) (h2 : a ≤ 200) : a = nI a.toNatClampNeg ∧ a.toNatClampNeg ≤ 200 := by
  obtain ⟨j, hj, rfl⟩ := nI_of2 (M := 200) (n := 200) (by decide) h0 h2
  rw [nI_clamp (by omega)]
  exact ⟨rfl, hj⟩
def X10_furnaceAfter_r (g : mG) (m : mM) (b : Nat) (a : Int32)  : Int32 := if a < 0 then 0 else (if a ≤ 200 then (X2_furnaceIn_r g m (b + 195) (b + 1) a a.toNatClampNeg) else 0)
def X10_furnaceAfter_m (g : mG) (m : mM) (b : Nat) (a : Int32)  : mM := if a < 0 then m else (if a ≤ 200 then ((X2_furnaceIn_m g m (b + 195) (b + 1) a a.toNatClampNeg)) else m)
def X10_furnaceAfter_x (g : mG) (m : mM) (b : Nat) (a : Int32)  : Option String := if a < 0 then (some "java/lang/IllegalArgumentException") else (if a ≤ 200 then none else (some "java/lang/IllegalArgumentException"))
theorem kK_X10_furnaceAfter (g : mG) (m : mM) (b : Nat) (a : Int32)  : gK (X10_furnaceAfter_m g m b a ) = gK m := by
  unfold X10_furnaceAfter_m
  repeat' split
  all_goals simp only [mm, kK_X2_furnaceIn]
theorem kN_X10_furnaceAfter (g : mG) (m : mM) (b : Nat) (a : Int32)  : gN (X10_furnaceAfter_m g m b a ) = gN m := by
  unfold X10_furnaceAfter_m
  repeat' split
  all_goals simp only [mm, kN_X2_furnaceIn]
theorem kI_X10_furnaceAfter (g : mG) (m : mM) (b : Nat) (a : Int32)  (k a9 : Nat) (h0 : k ≠ 192) (h1 : k ≠ 193) (h2 : k ≠ 194) : gI (X10_furnaceAfter_m g m b a ) k a9 = gI m k a9 := by
  unfold X10_furnaceAfter_m
  repeat' split
  all_goals simp [mm, kI_X2_furnaceIn, h0, h1, h2]
theorem kJ_X10_furnaceAfter (g : mG) (m : mM) (b : Nat) (a : Int32)  (k a9 : Nat) (h0 : k ≠ 195) : gJ (X10_furnaceAfter_m g m b a ) k a9 = gJ m k a9 := by
  unfold X10_furnaceAfter_m
  repeat' split
  all_goals simp [mm, kJ_X2_furnaceIn, h0]
theorem kR_X10_furnaceAfter (g : mG) (m : mM) (b : Nat) (a : Int32)  : gR (X10_furnaceAfter_m g m b a ) = gR m := by
  unfold X10_furnaceAfter_m
  repeat' split
  all_goals simp only [mm, kR_X2_furnaceIn]
theorem kA_X10_furnaceAfter (g : mG) (m : mM) (b : Nat) (a : Int32)  : gA (X10_furnaceAfter_m g m b a ) = gA m := by
  unfold X10_furnaceAfter_m
  repeat' split
  all_goals simp only [mm, kA_X2_furnaceIn]
theorem kQ_X10_furnaceAfter (g : mG) (m : mM) (b : Nat) (a : Int32)  : gQ (X10_furnaceAfter_m g m b a ) = gQ m := by
  unfold X10_furnaceAfter_m
  repeat' split
  all_goals simp only [mm, kQ_X2_furnaceIn]
theorem kL_X10_furnaceAfter (g : mG) (m : mM) (b : Nat) (a : Int32)  : gL (X10_furnaceAfter_m g m b a ) = gL m := by
  unfold X10_furnaceAfter_m
  repeat' split
  all_goals simp only [mm, kL_X2_furnaceIn]
theorem kD_X10_furnaceAfter (g : mG) (m : mM) (b : Nat) (a : Int32)  : gD (X10_furnaceAfter_m g m b a ) = gD m := by
  unfold X10_furnaceAfter_m
  repeat' split
  all_goals simp only [mm, kD_X2_furnaceIn]
set_option maxHeartbeats 4000000 in
set_option maxRecDepth 100000 in
theorem c_X10_furnaceAfter {l : Launch} {g : mG} (hO : mO l g) (m : mM) (b : Nat) (a : Int32)  (hb : SB m b) : mT l g yX10_furnaceAfter (.code yX10_furnaceAfter cX10_furnaceAfter 2 (Option.some FieldType.int)) 6 90 1 6 [.ref b, .int a] m (fun r m' => X10_furnaceAfter_x g m b a  = none ∧ r = some (.int (X10_furnaceAfter_r g m b a )) ∧ m' = X10_furnaceAfter_m g m b a ) (fun E9 m9 => X10_furnaceAfter_x g m b a  = some E9 ∧ ∃ n9, gN (X10_furnaceAfter_m g m b a ) ≤ n9 ∧ m9 = sN (X10_furnaceAfter_m g m b a ) n9) := by
  refine mT_of hO (by decide) (Nat.le_of_ble_eq_true rfl) (fun x hX hZ => ?_)
  show mV g x m 0 0 0 [(0, .ref b), (1, .int a)] []
  refine v_iload_n (pc := 0) hX dX10_furnaceAfter_0 rfl ?_
  refine v_if_lt (tgt := 11) (pc := 1) hX dX10_furnaceAfter_1 (by decide) (fun c1 => ?_) (fun c1 => ?_)
  ·
    exact v_throw (E := "java/lang/IllegalArgumentException") (text := "the number of minutes is out of range") (names := exN) (ix := 7) (rx := ex_IllArg_c) (wd := 2) (pc := 11) hX hZ dX10_furnaceAfter_11 dX10_furnaceAfter_14 (.inl ⟨rfl, dX10_furnaceAfter_15⟩) dX10_furnaceAfter_17 dX10_furnaceAfter_20 ex_IllArg_0 ex_IllArg_1 ex_IllArg_2 ex_IllArg_5 ex_IllArg_f exN_f wd_897 wd_22 (ex_IllArg wd_899) wd_1139 (Nat.le_of_ble_eq_true rfl) ⟨by decide, by decide⟩ ⟨by decide, by decide⟩ (by decide) (by decide) (fun n9 hn9 => ⟨by rw [X10_furnaceAfter_x, if_pos c1], n9, (by rw [X10_furnaceAfter_m, if_pos c1]; exact hn9), (by rw [X10_furnaceAfter_m, if_pos c1])⟩)
  ·
    refine v_iload_n (pc := 4) hX dX10_furnaceAfter_4 rfl ?_
    refine v_sipush (v := 200) (pc := 5) hX dX10_furnaceAfter_5 (by decide) ?_
    refine v_icmp_le (tgt := 21) (pc := 8) hX dX10_furnaceAfter_8 (by decide) (fun c2 => ?_) (fun c2 => ?_)
    ·
      have hT := rng_T (a := a) (by assumption) (by assumption)
      refine v_aload_n (pc := 21) hX dX10_furnaceAfter_21 rfl ?_
      refine v_get (v := .ref (b + 195)) (pc := 22) hX dX10_furnaceAfter_22 hb.k (ci := 11) (r := vwC11) rfl 4 (by decide) wd_310 (fvR hb.r4) ?_
      refine v_aload_n (pc := 25) hX dX10_furnaceAfter_25 rfl ?_
      refine v_get (v := .ref (b + 1)) (pc := 26) hX dX10_furnaceAfter_26 hb.k (ci := 11) (r := vwC11) rfl 0 (by decide) wd_306 (fvR hb.r0) ?_
      refine v_iload_n (pc := 29) hX dX10_furnaceAfter_29 rfl ?_
      refine v_callV (z := yX2_furnaceIn) (pc := 30) hX dX10_furnaceAfter_30 (c_X2_furnaceIn hO m (b + 195) (b + 1) a a.toNatClampNeg hb.c hb.f1 hT.1 hT.2) hb.c.k rfl wd_1140 wd_1141 wd_1142 wd_9 wd_1143 ⟨by decide, by decide, (by decide +kernel : (parseMethodDescriptor yX2_furnaceIn.desc).map (fun d => d.parameters.length) = some 2)⟩ rfl (Nat.le_of_ble_eq_true rfl) ⟨⟨by decide, by decide⟩, by decide, by decide⟩ (fun E m9 h9 => h9.elim) (fun r9 m9 h9 => ?_)
      obtain ⟨rfl, h8⟩ := h9
      replace h8 := h8.symm
      subst h8
      show mV g x _ _ _ _ _ [.int (X2_furnaceIn_r g m (b + 195) (b + 1) a a.toNatClampNeg)]
      exact v_iret (pc := 33) hX hZ dX10_furnaceAfter_33 (by decide) (by decide) ⟨(by rw [X10_furnaceAfter_x, if_neg c1, if_pos c2]), (by rw [X10_furnaceAfter_r, if_neg c1, if_pos c2]), (by rw [X10_furnaceAfter_m, if_neg c1, if_pos c2])⟩
    ·
      exact v_throw (E := "java/lang/IllegalArgumentException") (text := "the number of minutes is out of range") (names := exN) (ix := 7) (rx := ex_IllArg_c) (wd := 2) (pc := 11) hX hZ dX10_furnaceAfter_11 dX10_furnaceAfter_14 (.inl ⟨rfl, dX10_furnaceAfter_15⟩) dX10_furnaceAfter_17 dX10_furnaceAfter_20 ex_IllArg_0 ex_IllArg_1 ex_IllArg_2 ex_IllArg_5 ex_IllArg_f exN_f wd_897 wd_22 (ex_IllArg wd_899) wd_1139 (Nat.le_of_ble_eq_true rfl) ⟨by decide, by decide⟩ ⟨by decide, by decide⟩ (by decide) (by decide) (fun n9 hn9 => ⟨by rw [X10_furnaceAfter_x, if_neg c1, if_neg c2], n9, (by rw [X10_furnaceAfter_m, if_neg c1, if_neg c2]; exact hn9), (by rw [X10_furnaceAfter_m, if_neg c1, if_neg c2])⟩)
def X10_meanHardness_r (g : mG) (m : mM) (b : Nat) (N : Nat) : UInt64 := if (nI N) = 0 then 0 else (FP.ddiv (FP.i2d (X3_sumOfHardnesses_r g m (b + 1) N)) (FP.i2d (nI N)))
def X10_meanHardness_x (g : mG) (m : mM) (b : Nat) (N : Nat) : Option String := if (nI N) = 0 then (some "java/lang/ArithmeticException") else none

set_option maxHeartbeats 4000000 in
set_option maxRecDepth 100000 in
theorem c_X10_meanHardness {l : Launch} {g : mG} (hO : mO l g) (m : mM) (b : Nat) (N : Nat) (hb : SB m b) (hN : gI m 163 (b + 1) = nI N) (hN8 : N ≤ 8) : mT l g yX10_meanHardness (.code yX10_meanHardness cX10_meanHardness 1 (Option.some FieldType.double)) 6 90 1 6 [.ref b] m (fun r m' => X10_meanHardness_x g m b N = none ∧ r = some (.double (X10_meanHardness_r g m b N)) ∧ m' = m) (fun E9 m9 => X10_meanHardness_x g m b N = some E9 ∧ ∃ n9, gN (m) ≤ n9 ∧ m9 = sN (m) n9) := by
  refine mT_of hO (by decide) (Nat.le_of_ble_eq_true rfl) (fun x hX hZ => ?_)
  show mV g x m 0 0 0 [(0, .ref b)] []
  refine v_aload_n (pc := 0) hX dX10_meanHardness_0 rfl ?_
  refine v_get (v := .ref (b + 1)) (pc := 1) hX dX10_meanHardness_1 hb.k (ci := 11) (r := vwC11) rfl 0 (by decide) wd_306 (fvR hb.r0) ?_
  refine v_getN (v := .int (nI N)) (pc := 4) hX dX10_meanHardness_4 hb.f1.k (ci := 5) (r := vwC5) rfl 3 (by decide) wd_157 (congrArg Value.int hN) ?_
  refine v_if_ne (tgt := 21) (pc := 7) hX dX10_meanHardness_7 (by decide) (fun c1 => ?_) (fun c1 => ?_)
  ·
    refine v_aload_n (pc := 21) hX dX10_meanHardness_21 rfl ?_
    refine v_get (v := .ref (b + 1)) (pc := 22) hX dX10_meanHardness_22 hb.k (ci := 11) (r := vwC11) rfl 0 (by decide) wd_306 (fvR hb.r0) ?_
    refine v_callV (z := yX3_sumOfHardnesses) (pc := 25) hX dX10_meanHardness_25 (c_X3_sumOfHardnesses hO m (b + 1) N hb.f1 hN hN8) hb.f1.k rfl wd_1307 wd_1308 wd_1309 wd_2 wd_1310 ⟨by decide, by decide, (by decide +kernel : (parseMethodDescriptor yX3_sumOfHardnesses.desc).map (fun d => d.parameters.length) = some 0)⟩ rfl (Nat.le_of_ble_eq_true rfl) ⟨⟨by decide, by decide⟩, by decide, by decide⟩ (fun E m9 h9 => h9.elim) (fun r9 m9 h9 => ?_)
    obtain ⟨rfl, h8⟩ := h9
    replace h8 := h8.symm
    subst h8
    show mV g x _ _ _ _ _ [.int (X3_sumOfHardnesses_r g m (b + 1) N)]
    refine v_i2d (pc := 28) hX dX10_meanHardness_28 ?_
    refine v_aload_n (pc := 29) hX dX10_meanHardness_29 rfl ?_
    refine v_get (v := .ref (b + 1)) (pc := 30) hX dX10_meanHardness_30 hb.k (ci := 11) (r := vwC11) rfl 0 (by decide) wd_306 (fvR hb.r0) ?_
    refine v_getN (v := .int (nI N)) (pc := 33) hX dX10_meanHardness_33 hb.f1.k (ci := 5) (r := vwC5) rfl 3 (by decide) wd_157 (congrArg Value.int hN) ?_
    refine v_i2d (pc := 36) hX dX10_meanHardness_36 ?_
    refine v_ddiv (pc := 37) hX dX10_meanHardness_37 (n64_div (by assumption)) ?_
    exact v_dret (pc := 38) hX hZ dX10_meanHardness_38 (by decide) (by decide) ⟨(by rw [X10_meanHardness_x, if_neg c1]), (by rw [X10_meanHardness_r, if_neg c1]), rfl⟩
  ·
    exact v_throw (E := "java/lang/ArithmeticException") (text := "there are no pieces") (names := exN) (ix := 7) (rx := ex_Arith_c) (wd := 3) (pc := 10) hX hZ dX10_meanHardness_10 dX10_meanHardness_13 (.inr ⟨rfl, dX10_meanHardness_14⟩) dX10_meanHardness_17 dX10_meanHardness_20 ex_Arith_0 ex_Arith_1 ex_Arith_2 ex_Arith_5 ex_Arith_f exN_f wd_1129 wd_27 (ex_Arith wd_1131) wd_1306 (Nat.le_of_ble_eq_true rfl) ⟨by decide, by decide⟩ ⟨by decide, by decide⟩ (by decide) (by decide) (fun n9 hn9 => ⟨by rw [X10_meanHardness_x, if_pos c1], n9, hn9, rfl⟩)
def X10_passShare_r (g : mG) (m : mM) (b : Nat)  : UInt32 := if (gI m 169 (b + 1)) = 0 then 0 else (FP.fdiv (FP.i2f (gI m 170 (b + 1))) (FP.i2f (gI m 169 (b + 1))))
def X10_passShare_x (g : mG) (m : mM) (b : Nat)  : Option String := if (gI m 169 (b + 1)) = 0 then (some "java/lang/ArithmeticException") else none

set_option maxHeartbeats 4000000 in
set_option maxRecDepth 100000 in
theorem c_X10_passShare {l : Launch} {g : mG} (hO : mO l g) (m : mM) (b : Nat)  (hb : SB m b) : mT l g yX10_passShare (.code yX10_passShare cX10_passShare 1 (Option.some FieldType.float)) 6 90 1 6 [.ref b] m (fun r m' => X10_passShare_x g m b  = none ∧ r = some (.float (X10_passShare_r g m b )) ∧ m' = m) (fun E9 m9 => X10_passShare_x g m b  = some E9 ∧ ∃ n9, gN (m) ≤ n9 ∧ m9 = sN (m) n9) := by
  refine mT_of hO (by decide) (Nat.le_of_ble_eq_true rfl) (fun x hX hZ => ?_)
  show mV g x m 0 0 0 [(0, .ref b)] []
  refine v_aload_n (pc := 0) hX dX10_passShare_0 rfl ?_
  refine v_get (v := .ref (b + 1)) (pc := 1) hX dX10_passShare_1 hb.k (ci := 11) (r := vwC11) rfl 0 (by decide) wd_306 (fvR hb.r0) ?_
  refine v_getN (v := .int (gI m 169 (b + 1))) (pc := 4) hX dX10_passShare_4 hb.f1.k (ci := 5) (r := vwC5) rfl 9 (by decide) wd_168 rfl ?_
  refine v_if_ne (tgt := 21) (pc := 7) hX dX10_passShare_7 (by decide) (fun c1 => ?_) (fun c1 => ?_)
  ·
    refine v_aload_n (pc := 21) hX dX10_passShare_21 rfl ?_
    refine v_get (v := .ref (b + 1)) (pc := 22) hX dX10_passShare_22 hb.k (ci := 11) (r := vwC11) rfl 0 (by decide) wd_306 (fvR hb.r0) ?_
    refine v_getN (v := .int (gI m 170 (b + 1))) (pc := 25) hX dX10_passShare_25 hb.f1.k (ci := 5) (r := vwC5) rfl 10 (by decide) wd_170 rfl ?_
    refine v_i2f (pc := 28) hX dX10_passShare_28 ?_
    refine v_aload_n (pc := 29) hX dX10_passShare_29 rfl ?_
    refine v_get (v := .ref (b + 1)) (pc := 30) hX dX10_passShare_30 hb.k (ci := 11) (r := vwC11) rfl 0 (by decide) wd_306 (fvR hb.r0) ?_
    refine v_getN (v := .int (gI m 169 (b + 1))) (pc := 33) hX dX10_passShare_33 hb.f1.k (ci := 5) (r := vwC5) rfl 9 (by decide) wd_168 rfl ?_
    refine v_i2f (pc := 36) hX dX10_passShare_36 ?_
    refine v_fdiv (pc := 37) hX dX10_passShare_37 (n32_div (by assumption)) ?_
    exact v_fret (pc := 38) hX hZ dX10_passShare_38 (by decide) (by decide) ⟨(by rw [X10_passShare_x, if_neg c1]), (by rw [X10_passShare_r, if_neg c1]), rfl⟩
  ·
    exact v_throw (E := "java/lang/ArithmeticException") (text := "there were no tests") (names := exN) (ix := 7) (rx := ex_Arith_c) (wd := 3) (pc := 10) hX hZ dX10_passShare_10 dX10_passShare_13 (.inr ⟨rfl, dX10_passShare_14⟩) dX10_passShare_17 dX10_passShare_20 ex_Arith_0 ex_Arith_1 ex_Arith_2 ex_Arith_5 ex_Arith_f exN_f wd_1129 wd_27 (ex_Arith wd_1131) wd_1318 (Nat.le_of_ble_eq_true rfl) ⟨by decide, by decide⟩ ⟨by decide, by decide⟩ (by decide) (by decide) (fun n9 hn9 => ⟨by rw [X10_passShare_x, if_pos c1], n9, hn9, rfl⟩)
