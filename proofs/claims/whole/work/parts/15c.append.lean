def X10_append_r (g : mG) (m : mM) (b : Nat) (a : Int32)  : Int32 := if (X8_isFull_r g m (b + 214) ) = 0 then (X8_put_r g m (b + 214) a ) else 0
def X10_append_m (g : mG) (m : mM) (b : Nat) (a : Int32)  : mM := if (X8_isFull_r g m (b + 214) ) = 0 then ((X8_put_m g m (b + 214) a )) else m
def X10_append_x (g : mG) (m : mM) (b : Nat) (a : Int32)  : Option String := if (X8_isFull_r g m (b + 214) ) = 0 then none else (some "java/lang/IllegalStateException")
theorem kK_X10_append (g : mG) (m : mM) (b : Nat) (a : Int32)  : gK (X10_append_m g m b a ) = gK m := by
  unfold X10_append_m
  repeat' split
  all_goals simp only [mm, kK_X8_put]
theorem kN_X10_append (g : mG) (m : mM) (b : Nat) (a : Int32)  : gN (X10_append_m g m b a ) = gN m := by
  unfold X10_append_m
  repeat' split
  all_goals simp only [mm, kN_X8_put]
theorem kI_X10_append (g : mG) (m : mM) (b : Nat) (a : Int32)  (k a9 : Nat) (h0 : k ≠ 323) : gI (X10_append_m g m b a ) k a9 = gI m k a9 := by
  unfold X10_append_m
  repeat' split
  all_goals simp [mm, kI_X8_put, h0]
theorem kJ_X10_append (g : mG) (m : mM) (b : Nat) (a : Int32)  : gJ (X10_append_m g m b a ) = gJ m := by
  unfold X10_append_m
  repeat' split
  all_goals simp only [mm, kJ_X8_put]
theorem kR_X10_append (g : mG) (m : mM) (b : Nat) (a : Int32)  : gR (X10_append_m g m b a ) = gR m := by
  unfold X10_append_m
  repeat' split
  all_goals simp only [mm, kR_X8_put]
theorem kQ_X10_append (g : mG) (m : mM) (b : Nat) (a : Int32)  : gQ (X10_append_m g m b a ) = gQ m := by
  unfold X10_append_m
  repeat' split
  all_goals simp only [mm, kQ_X8_put]
theorem kL_X10_append (g : mG) (m : mM) (b : Nat) (a : Int32)  : gL (X10_append_m g m b a ) = gL m := by
  unfold X10_append_m
  repeat' split
  all_goals simp only [mm, kL_X8_put]
theorem kD_X10_append (g : mG) (m : mM) (b : Nat) (a : Int32)  : gD (X10_append_m g m b a ) = gD m := by
  unfold X10_append_m
  repeat' split
  all_goals simp only [mm, kD_X8_put]
set_option maxHeartbeats 4000000 in
set_option maxRecDepth 100000 in
theorem c_X10_append {l : Launch} {g : mG} (hO : mO l g) (m : mM) (b : Nat) (a : Int32)  (hb : SB m b) (hs : SP m (b + 214)) (hL : okI (gI m 323 (b + 214)) 60) (hch : narrow .char (.int a) = .int a) : mT l g yX10_append (.code yX10_append cX10_append 2 (Option.some FieldType.int)) 6 90 1 6 [.ref b, .int a] m (fun r m' => X10_append_x g m b a  = none ∧ r = some (.int (X10_append_r g m b a )) ∧ m' = X10_append_m g m b a ) (fun E9 m9 => X10_append_x g m b a  = some E9 ∧ ∃ n9, gN (X10_append_m g m b a ) ≤ n9 ∧ m9 = sN (X10_append_m g m b a ) n9) := by
  refine mT_of hO (by decide) (Nat.le_of_ble_eq_true rfl) (fun x hX hZ => ?_)
  show mV g x m 0 0 0 [(0, .ref b), (1, .int a)] []
  refine v_aload_n (pc := 0) hX dX10_append_0 rfl ?_
  refine v_get (v := .ref (b + 214)) (pc := 1) hX dX10_append_1 hb.k (ci := 11) (r := vwC11) rfl 5 (by decide) wd_311 (fvR hb.r5) ?_
  refine v_callV (z := yX8_isFull) (pc := 4) hX dX10_append_4 (c_X8_isFull hO m (b + 214)  hs) hs.k rfl wd_1326 wd_1327 wd_1328 wd_10 wd_1329 ⟨by decide, by decide, (by decide +kernel : (parseMethodDescriptor yX8_isFull.desc).map (fun d => d.parameters.length) = some 0)⟩ rfl (Nat.le_of_ble_eq_true rfl) ⟨⟨by decide, by decide⟩, by decide, by decide⟩ (fun E m9 h9 => h9.elim) (fun r9 m9 h9 => ?_)
  obtain ⟨rfl, h8⟩ := h9
  replace h8 := h8.symm
  subst h8
  show mV g x _ _ _ _ _ [.int (X8_isFull_r g m (b + 214) )]
  refine v_if_eq (tgt := 21) (pc := 7) hX dX10_append_7 (by decide) (fun c1 => ?_) (fun c1 => ?_)
  ·
    refine v_aload_n (pc := 21) hX dX10_append_21 rfl ?_
    refine v_get (v := .ref (b + 214)) (pc := 22) hX dX10_append_22 hb.k (ci := 11) (r := vwC11) rfl 5 (by decide) wd_311 (fvR hb.r5) ?_
    refine v_iload_n (pc := 25) hX dX10_append_25 rfl ?_
    refine v_callV (z := yX8_put) (pc := 26) hX dX10_append_26 (c_X8_put hO m (b + 214) a  hs hL hch) hs.k rfl wd_1331 wd_1332 wd_1333 wd_10 wd_1334 ⟨by decide, by decide, (by decide +kernel : (parseMethodDescriptor yX8_put.desc).map (fun d => d.parameters.length) = some 1)⟩ rfl (Nat.le_of_ble_eq_true rfl) ⟨⟨by decide, by decide⟩, by decide, by decide⟩ (fun E m9 h9 => h9.elim) (fun r9 m9 h9 => ?_)
    obtain ⟨rfl, h8⟩ := h9
    replace h8 := h8.symm
    subst h8
    show mV g x _ _ _ _ _ [.int (X8_put_r g m (b + 214) a )]
    exact v_iret (pc := 29) hX hZ dX10_append_29 (by decide) (by decide) ⟨(by rw [X10_append_x, if_pos c1]), (by rw [X10_append_r, if_pos c1]), (by rw [X10_append_m, if_pos c1])⟩
  ·
    exact v_throw (E := "java/lang/IllegalStateException") (text := "the text buffer is full") (names := exN) (ix := 7) (rx := ex_IllState_c) (wd := 3) (pc := 10) hX hZ dX10_append_10 dX10_append_13 (.inr ⟨rfl, dX10_append_14⟩) dX10_append_17 dX10_append_20 ex_IllState_0 ex_IllState_1 ex_IllState_2 ex_IllState_5 ex_IllState_f exN_f wd_900 wd_23 (ex_IllState wd_910) wd_1330 (Nat.le_of_ble_eq_true rfl) ⟨by decide, by decide⟩ ⟨by decide, by decide⟩ (by decide) (by decide) (fun n9 hn9 => ⟨by rw [X10_append_x, if_neg c1], n9, (by rw [X10_append_m, if_neg c1]; exact hn9), (by rw [X10_append_m, if_neg c1])⟩)
