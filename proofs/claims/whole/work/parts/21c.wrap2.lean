/-! THE LAW'S OWN METHODS (2) -/
set_option maxHeartbeats 4000000 in
theorem c_L_isInFurnace {l : Launch} {g : mG} (hO : mO l g) (m : mM) (b : Nat) (a : Int32) (o : Nat) (N : Nat) (hb : SB m b) (hN : gI m 163 (b + 1) = nI N) (hN8 : N ≤ 8) (hko : gK m o = some (.inr (4, 1))) (hE : ∀ E, X10_isInFurnace_x g m b a N = some E → E = "java/util/NoSuchElementException") : mT l g yL_isInFurnace (.codeWith yL_isInFurnace cL_isInFurnace 4 (Option.some FieldType.int) [(0, 16, 19, 33)]) 8 133 1 6 [.ref b, .int a, .ref o] m (fun u m' => (X10_isInFurnace_x g m b a N = none ∧ u = some (.int 0) ∧ m' = (sL m o 0 (if (X10_isInFurnace_r g m b a N) = 0 then 0 else 1))) ∨ ∃ (E : String) (k : Int32) (n9 : Nat), X10_isInFurnace_x g m b a N = some E ∧ u = some (.int k) ∧ ([("java/util/NoSuchElementException", 1)] : List (String × Int32)).lookup E = some k ∧ gN m ≤ n9 ∧ m' = sN m n9) nX := by
  refine mT_ofH hO (by decide) (Nat.le_of_ble_eq_true rfl) (fun x hX hZ => ?_)
  show mV g x m 0 0 0 [(0, .ref b), (1, .int a), (2, .ref o)] []
  refine v_aload_n (pc := 0) hX dL_isInFurnace_0 rfl ?_
  refine v_iconst (v := 0) (pc := 1) hX dL_isInFurnace_1 (by decide) ?_
  refine v_aload_n (pc := 2) hX dL_isInFurnace_2 rfl ?_
  refine v_iload_n (pc := 3) hX dL_isInFurnace_3 rfl ?_
  refine v_callV (z := yX10_isInFurnace) (pc := 4) hX dL_isInFurnace_4 (c_X10_isInFurnace hO m b a N hb hN hN8) hb.1 rfl wd_1191 wd_1192 wd_1193 wd_1 wd_1194 ⟨by decide, by decide, (by decide +kernel : (parseMethodDescriptor yX10_isInFurnace.desc).map (fun d => d.parameters.length) = some 1)⟩ rfl (Nat.le_of_ble_eq_true rfl) ⟨⟨by decide, by decide⟩, by decide, by decide⟩ (fun E9 m9 h9 => ?_) (fun r9 m9 h9 => ?_)
  · obtain ⟨hx9, n9, hn9, rfl⟩ := h9
    rcases hE E9 hx9 with rfl
    · refine v_catch 0 hX hZ rfl (fun z hz => nomatch hz) (by decide) (by decide) wd_993 wd_870 (fun q => ?_)
      refine v_astore_n (pc := 19) hX dL_isInFurnace_19 (by decide) rfl ?_
      refine v_iconst (v := 1) (pc := 20) hX dL_isInFurnace_20 (by decide) ?_
      exact v_iret (pc := 21) hX hZ dL_isInFurnace_21 (by decide) (by decide) (Or.inr ⟨_, _, n9, hx9, rfl, (by decide), hn9, rfl⟩)
  · obtain ⟨hx9, rfl, h8⟩ := h9
    replace h8 := h8.symm
    subst h8
    show mV g x m _ _ _ [(0, .ref b), (1, .int a), (2, .ref o)] [.int (X10_isInFurnace_r g m b a N), .int 0, .ref o]
    refine v_if_eq (tgt := 14) (pc := 7) hX dL_isInFurnace_7 (by decide) (fun c1 => ?_) (fun c1 => ?_)
    ·
      refine v_lconst (v := 0) (pc := 14) hX dL_isInFurnace_14 (by decide) ?_
      refine v_last (pc := 15) hX dL_isInFurnace_15 hko (j := 0) rfl (by decide) (by decide) ?_
      refine v_goto (tgt := 22) (pc := 16) hX dL_isInFurnace_16 (by decide) ?_
      refine v_iconst (v := 0) (pc := 22) hX dL_isInFurnace_22 (by decide) ?_
      exact v_iret (pc := 23) hX hZ dL_isInFurnace_23 (by decide) (by decide) (Or.inl ⟨hx9, rfl, (by rw [if_pos c1])⟩)
    ·
      refine v_lconst (v := 1) (pc := 10) hX dL_isInFurnace_10 (by decide) ?_
      refine v_goto (tgt := 15) (pc := 11) hX dL_isInFurnace_11 (by decide) ?_
      refine v_last (pc := 15) hX dL_isInFurnace_15 hko (j := 0) rfl (by decide) (by decide) ?_
      refine v_goto (tgt := 22) (pc := 16) hX dL_isInFurnace_16 (by decide) ?_
      refine v_iconst (v := 0) (pc := 22) hX dL_isInFurnace_22 (by decide) ?_
      exact v_iret (pc := 23) hX hZ dL_isInFurnace_23 (by decide) (by decide) (Or.inl ⟨hx9, rfl, (by rw [if_neg c1])⟩)
set_option maxHeartbeats 4000000 in
theorem c_L_isQuenched {l : Launch} {g : mG} (hO : mO l g) (m : mM) (b : Nat) (a : Int32) (o : Nat) (N : Nat) (hb : SB m b) (hN : gI m 163 (b + 1) = nI N) (hN8 : N ≤ 8) (hko : gK m o = some (.inr (4, 1))) (hE : ∀ E, X10_isQuenched_x g m b a N = some E → E = "java/util/NoSuchElementException") : mT l g yL_isQuenched (.codeWith yL_isQuenched cL_isQuenched 4 (Option.some FieldType.int) [(0, 16, 19, 33)]) 8 133 1 6 [.ref b, .int a, .ref o] m (fun u m' => (X10_isQuenched_x g m b a N = none ∧ u = some (.int 0) ∧ m' = (sL m o 0 (if (X10_isQuenched_r g m b a N) = 0 then 0 else 1))) ∨ ∃ (E : String) (k : Int32) (n9 : Nat), X10_isQuenched_x g m b a N = some E ∧ u = some (.int k) ∧ ([("java/util/NoSuchElementException", 1)] : List (String × Int32)).lookup E = some k ∧ gN m ≤ n9 ∧ m' = sN m n9) nX := by
  refine mT_ofH hO (by decide) (Nat.le_of_ble_eq_true rfl) (fun x hX hZ => ?_)
  show mV g x m 0 0 0 [(0, .ref b), (1, .int a), (2, .ref o)] []
  refine v_aload_n (pc := 0) hX dL_isQuenched_0 rfl ?_
  refine v_iconst (v := 0) (pc := 1) hX dL_isQuenched_1 (by decide) ?_
  refine v_aload_n (pc := 2) hX dL_isQuenched_2 rfl ?_
  refine v_iload_n (pc := 3) hX dL_isQuenched_3 rfl ?_
  refine v_callV (z := yX10_isQuenched) (pc := 4) hX dL_isQuenched_4 (c_X10_isQuenched hO m b a N hb hN hN8) hb.1 rfl wd_1198 wd_1199 wd_1200 wd_1 wd_1201 ⟨by decide, by decide, (by decide +kernel : (parseMethodDescriptor yX10_isQuenched.desc).map (fun d => d.parameters.length) = some 1)⟩ rfl (Nat.le_of_ble_eq_true rfl) ⟨⟨by decide, by decide⟩, by decide, by decide⟩ (fun E9 m9 h9 => ?_) (fun r9 m9 h9 => ?_)
  · obtain ⟨hx9, n9, hn9, rfl⟩ := h9
    rcases hE E9 hx9 with rfl
    · refine v_catch 0 hX hZ rfl (fun z hz => nomatch hz) (by decide) (by decide) wd_993 wd_870 (fun q => ?_)
      refine v_astore_n (pc := 19) hX dL_isQuenched_19 (by decide) rfl ?_
      refine v_iconst (v := 1) (pc := 20) hX dL_isQuenched_20 (by decide) ?_
      exact v_iret (pc := 21) hX hZ dL_isQuenched_21 (by decide) (by decide) (Or.inr ⟨_, _, n9, hx9, rfl, (by decide), hn9, rfl⟩)
  · obtain ⟨hx9, rfl, h8⟩ := h9
    replace h8 := h8.symm
    subst h8
    show mV g x m _ _ _ [(0, .ref b), (1, .int a), (2, .ref o)] [.int (X10_isQuenched_r g m b a N), .int 0, .ref o]
    refine v_if_eq (tgt := 14) (pc := 7) hX dL_isQuenched_7 (by decide) (fun c1 => ?_) (fun c1 => ?_)
    ·
      refine v_lconst (v := 0) (pc := 14) hX dL_isQuenched_14 (by decide) ?_
      refine v_last (pc := 15) hX dL_isQuenched_15 hko (j := 0) rfl (by decide) (by decide) ?_
      refine v_goto (tgt := 22) (pc := 16) hX dL_isQuenched_16 (by decide) ?_
      refine v_iconst (v := 0) (pc := 22) hX dL_isQuenched_22 (by decide) ?_
      exact v_iret (pc := 23) hX hZ dL_isQuenched_23 (by decide) (by decide) (Or.inl ⟨hx9, rfl, (by rw [if_pos c1])⟩)
    ·
      refine v_lconst (v := 1) (pc := 10) hX dL_isQuenched_10 (by decide) ?_
      refine v_goto (tgt := 15) (pc := 11) hX dL_isQuenched_11 (by decide) ?_
      refine v_last (pc := 15) hX dL_isQuenched_15 hko (j := 0) rfl (by decide) (by decide) ?_
      refine v_goto (tgt := 22) (pc := 16) hX dL_isQuenched_16 (by decide) ?_
      refine v_iconst (v := 0) (pc := 22) hX dL_isQuenched_22 (by decide) ?_
      exact v_iret (pc := 23) hX hZ dL_isQuenched_23 (by decide) (by decide) (Or.inl ⟨hx9, rfl, (by rw [if_neg c1])⟩)
set_option maxHeartbeats 4000000 in
theorem c_L_hasPassed {l : Launch} {g : mG} (hO : mO l g) (m : mM) (b : Nat) (a : Int32) (o : Nat) (N : Nat) (hb : SB m b) (hN : gI m 163 (b + 1) = nI N) (hN8 : N ≤ 8) (hko : gK m o = some (.inr (4, 1))) (hE : ∀ E, X10_hasPassed_x g m b a N = some E → E = "java/util/NoSuchElementException") : mT l g yL_hasPassed (.codeWith yL_hasPassed cL_hasPassed 4 (Option.some FieldType.int) [(0, 16, 19, 33)]) 8 133 1 6 [.ref b, .int a, .ref o] m (fun u m' => (X10_hasPassed_x g m b a N = none ∧ u = some (.int 0) ∧ m' = (sL m o 0 (if (X10_hasPassed_r g m b a N) = 0 then 0 else 1))) ∨ ∃ (E : String) (k : Int32) (n9 : Nat), X10_hasPassed_x g m b a N = some E ∧ u = some (.int k) ∧ ([("java/util/NoSuchElementException", 1)] : List (String × Int32)).lookup E = some k ∧ gN m ≤ n9 ∧ m' = sN m n9) nX := by
  refine mT_ofH hO (by decide) (Nat.le_of_ble_eq_true rfl) (fun x hX hZ => ?_)
  show mV g x m 0 0 0 [(0, .ref b), (1, .int a), (2, .ref o)] []
  refine v_aload_n (pc := 0) hX dL_hasPassed_0 rfl ?_
  refine v_iconst (v := 0) (pc := 1) hX dL_hasPassed_1 (by decide) ?_
  refine v_aload_n (pc := 2) hX dL_hasPassed_2 rfl ?_
  refine v_iload_n (pc := 3) hX dL_hasPassed_3 rfl ?_
  refine v_callV (z := yX10_hasPassed) (pc := 4) hX dL_hasPassed_4 (c_X10_hasPassed hO m b a N hb hN hN8) hb.1 rfl wd_1205 wd_1206 wd_1207 wd_1 wd_1208 ⟨by decide, by decide, (by decide +kernel : (parseMethodDescriptor yX10_hasPassed.desc).map (fun d => d.parameters.length) = some 1)⟩ rfl (Nat.le_of_ble_eq_true rfl) ⟨⟨by decide, by decide⟩, by decide, by decide⟩ (fun E9 m9 h9 => ?_) (fun r9 m9 h9 => ?_)
  · obtain ⟨hx9, n9, hn9, rfl⟩ := h9
    rcases hE E9 hx9 with rfl
    · refine v_catch 0 hX hZ rfl (fun z hz => nomatch hz) (by decide) (by decide) wd_993 wd_870 (fun q => ?_)
      refine v_astore_n (pc := 19) hX dL_hasPassed_19 (by decide) rfl ?_
      refine v_iconst (v := 1) (pc := 20) hX dL_hasPassed_20 (by decide) ?_
      exact v_iret (pc := 21) hX hZ dL_hasPassed_21 (by decide) (by decide) (Or.inr ⟨_, _, n9, hx9, rfl, (by decide), hn9, rfl⟩)
  · obtain ⟨hx9, rfl, h8⟩ := h9
    replace h8 := h8.symm
    subst h8
    show mV g x m _ _ _ [(0, .ref b), (1, .int a), (2, .ref o)] [.int (X10_hasPassed_r g m b a N), .int 0, .ref o]
    refine v_if_eq (tgt := 14) (pc := 7) hX dL_hasPassed_7 (by decide) (fun c1 => ?_) (fun c1 => ?_)
    ·
      refine v_lconst (v := 0) (pc := 14) hX dL_hasPassed_14 (by decide) ?_
      refine v_last (pc := 15) hX dL_hasPassed_15 hko (j := 0) rfl (by decide) (by decide) ?_
      refine v_goto (tgt := 22) (pc := 16) hX dL_hasPassed_16 (by decide) ?_
      refine v_iconst (v := 0) (pc := 22) hX dL_hasPassed_22 (by decide) ?_
      exact v_iret (pc := 23) hX hZ dL_hasPassed_23 (by decide) (by decide) (Or.inl ⟨hx9, rfl, (by rw [if_pos c1])⟩)
    ·
      refine v_lconst (v := 1) (pc := 10) hX dL_hasPassed_10 (by decide) ?_
      refine v_goto (tgt := 15) (pc := 11) hX dL_hasPassed_11 (by decide) ?_
      refine v_last (pc := 15) hX dL_hasPassed_15 hko (j := 0) rfl (by decide) (by decide) ?_
      refine v_goto (tgt := 22) (pc := 16) hX dL_hasPassed_16 (by decide) ?_
      refine v_iconst (v := 0) (pc := 22) hX dL_hasPassed_22 (by decide) ?_
      exact v_iret (pc := 23) hX hZ dL_hasPassed_23 (by decide) (by decide) (Or.inl ⟨hx9, rfl, (by rw [if_neg c1])⟩)
set_option maxHeartbeats 4000000 in
theorem c_L_stroke {l : Launch} {g : mG} (hO : mO l g) (m : mM) (b : Nat) (a : Int32) (a2 : Int32) (o : Nat) (N : Nat) (H : Nat) (hb : SB m b) (hN : gI m 163 (b + 1) = nI N) (hN8 : N ≤ 8) (hH : gI m 164 (b + 1) = nI H) (hH4 : H ≤ 4) (hko : gK m o = some (.inr (4, 1))) (hE : ∀ E, X10_stroke_x g m b a a2 N H = some E → E = "java/util/NoSuchElementException" ∨ E = "java/lang/IndexOutOfBoundsException") : mT l g yL_stroke (.codeWith yL_stroke cL_stroke 5 (Option.some FieldType.int) [(0, 10, 13, 33), (0, 10, 17, 42)]) 8 135 2 12 [.ref b, .int a, .int a2, .ref o] m (fun u m' => (X10_stroke_x g m b a a2 N H = none ∧ u = some (.int 0) ∧ m' = (sL m o 0 (X10_stroke_r g m b a a2 N H).toInt64)) ∨ ∃ (E : String) (k : Int32) (n9 : Nat), X10_stroke_x g m b a a2 N H = some E ∧ u = some (.int k) ∧ ([("java/util/NoSuchElementException", 1), ("java/lang/IndexOutOfBoundsException", 2)] : List (String × Int32)).lookup E = some k ∧ gN m ≤ n9 ∧ m' = sN m n9) nX := by
  refine mT_ofH hO (by decide) (Nat.le_of_ble_eq_true rfl) (fun x hX hZ => ?_)
  show mV g x m 0 0 0 [(0, .ref b), (1, .int a), (2, .int a2), (3, .ref o)] []
  refine v_aload_n (pc := 0) hX dL_stroke_0 rfl ?_
  refine v_iconst (v := 0) (pc := 1) hX dL_stroke_1 (by decide) ?_
  refine v_aload_n (pc := 2) hX dL_stroke_2 rfl ?_
  refine v_iload_n (pc := 3) hX dL_stroke_3 rfl ?_
  refine v_iload_n (pc := 4) hX dL_stroke_4 rfl ?_
  refine v_callV (z := yX10_stroke) (pc := 5) hX dL_stroke_5 (c_X10_stroke hO m b a a2 N H hb hN hN8 hH hH4) hb.1 rfl wd_1213 wd_1214 wd_1215 wd_1 wd_1216 ⟨by decide, by decide, (by decide +kernel : (parseMethodDescriptor yX10_stroke.desc).map (fun d => d.parameters.length) = some 2)⟩ rfl (Nat.le_of_ble_eq_true rfl) ⟨⟨by decide, by decide⟩, by decide, by decide⟩ (fun E9 m9 h9 => ?_) (fun r9 m9 h9 => ?_)
  · obtain ⟨hx9, n9, hn9, rfl⟩ := h9
    rcases hE E9 hx9 with rfl | rfl
    · refine v_catch 0 hX hZ rfl (fun z hz => nomatch hz) (by decide) (by decide) wd_993 wd_870 (fun q => ?_)
      refine v_astore (pc := 13) hX dL_stroke_13 (by decide) rfl ?_
      refine v_iconst (v := 1) (pc := 15) hX dL_stroke_15 (by decide) ?_
      exact v_iret (pc := 16) hX hZ dL_stroke_16 (by decide) (by decide) (Or.inr ⟨_, _, n9, hx9, rfl, (by decide), hn9, rfl⟩)
    · refine v_catch 1 hX hZ rfl (fun z hz => by
          simp only [List.take, List.mem_cons, List.not_mem_nil, or_false] at hz
          rcases hz with rfl
          · exact ⟨by decide, _, wd_993, nc_IN hO⟩) (by decide) (by decide) wd_1018 wd_886 (fun q => ?_)
      refine v_astore (pc := 17) hX dL_stroke_17 (by decide) rfl ?_
      refine v_iconst (v := 2) (pc := 19) hX dL_stroke_19 (by decide) ?_
      exact v_iret (pc := 20) hX hZ dL_stroke_20 (by decide) (by decide) (Or.inr ⟨_, _, n9, hx9, rfl, (by decide), hn9, rfl⟩)
  · obtain ⟨hx9, rfl, h8⟩ := h9
    replace h8 := h8.symm
    subst h8
    show mV g x m _ _ _ [(0, .ref b), (1, .int a), (2, .int a2), (3, .ref o)] [.int (X10_stroke_r g m b a a2 N H), .int 0, .ref o]
    refine v_i2l (pc := 8) hX dL_stroke_8 ?_
    refine v_last (pc := 9) hX dL_stroke_9 hko (j := 0) rfl (by decide) (by decide) ?_
    refine v_goto (tgt := 21) (pc := 10) hX dL_stroke_10 (by decide) ?_
    refine v_iconst (v := 0) (pc := 21) hX dL_stroke_21 (by decide) ?_
    exact v_iret (pc := 22) hX hZ dL_stroke_22 (by decide) (by decide) (Or.inl ⟨hx9, rfl, rfl⟩)
set_option maxHeartbeats 4000000 in
theorem c_L_minutesToCool {l : Launch} {g : mG} (hO : mO l g) (m : mM) (b : Nat) (a : Int32) (a2 : Int32) (o : Nat) (N : Nat) (hb : SB m b) (hN : gI m 163 (b + 1) = nI N) (hN8 : N ≤ 8) (hko : gK (X10_minutesToCool_m g m b a a2 N) o = some (.inr (4, 1))) (hE : ∀ E, X10_minutesToCool_x g m b a a2 N = some E → E = "java/util/NoSuchElementException" ∨ E = "java/lang/IllegalArgumentException" ∨ E = "java/lang/IllegalStateException") : mT l g yL_minutesToCool (.codeWith yL_minutesToCool cL_minutesToCool 5 (Option.some FieldType.int) [(0, 10, 13, 33), (0, 10, 17, 13), (0, 10, 21, 15)]) 8 134 2 12 [.ref b, .int a, .int a2, .ref o] m (fun u m' => (X10_minutesToCool_x g m b a a2 N = none ∧ u = some (.int 0) ∧ m' = (sL (X10_minutesToCool_m g m b a a2 N) o 0 (X10_minutesToCool_r g m b a a2 N).toInt64)) ∨ ∃ (E : String) (k : Int32) (n9 : Nat), X10_minutesToCool_x g m b a a2 N = some E ∧ u = some (.int k) ∧ ([("java/util/NoSuchElementException", 1), ("java/lang/IllegalArgumentException", 2), ("java/lang/IllegalStateException", 3)] : List (String × Int32)).lookup E = some k ∧ gN (X10_minutesToCool_m g m b a a2 N) ≤ n9 ∧ m' = sN (X10_minutesToCool_m g m b a a2 N) n9) nX := by
  refine mT_ofH hO (by decide) (Nat.le_of_ble_eq_true rfl) (fun x hX hZ => ?_)
  show mV g x m 0 0 0 [(0, .ref b), (1, .int a), (2, .int a2), (3, .ref o)] []
  refine v_aload_n (pc := 0) hX dL_minutesToCool_0 rfl ?_
  refine v_iconst (v := 0) (pc := 1) hX dL_minutesToCool_1 (by decide) ?_
  refine v_aload_n (pc := 2) hX dL_minutesToCool_2 rfl ?_
  refine v_iload_n (pc := 3) hX dL_minutesToCool_3 rfl ?_
  refine v_iload_n (pc := 4) hX dL_minutesToCool_4 rfl ?_
  refine v_callV (z := yX10_minutesToCool) (pc := 5) hX dL_minutesToCool_5 (c_X10_minutesToCool hO m b a a2 N hb hN hN8) hb.1 rfl wd_1226 wd_1227 wd_1228 wd_1 wd_1229 ⟨by decide, by decide, (by decide +kernel : (parseMethodDescriptor yX10_minutesToCool.desc).map (fun d => d.parameters.length) = some 2)⟩ rfl (Nat.le_of_ble_eq_true rfl) ⟨⟨by decide, by decide⟩, by decide, by decide⟩ (fun E9 m9 h9 => ?_) (fun r9 m9 h9 => ?_)
  · obtain ⟨hx9, n9, hn9, rfl⟩ := h9
    rcases hE E9 hx9 with rfl | rfl | rfl
    · refine v_catch 0 hX hZ rfl (fun z hz => nomatch hz) (by decide) (by decide) wd_993 wd_870 (fun q => ?_)
      refine v_astore (pc := 13) hX dL_minutesToCool_13 (by decide) rfl ?_
      refine v_iconst (v := 1) (pc := 15) hX dL_minutesToCool_15 (by decide) ?_
      exact v_iret (pc := 16) hX hZ dL_minutesToCool_16 (by decide) (by decide) (Or.inr ⟨_, _, n9, hx9, rfl, (by decide), hn9, rfl⟩)
    · refine v_catch 1 hX hZ rfl (fun z hz => by
          simp only [List.take, List.mem_cons, List.not_mem_nil, or_false] at hz
          rcases hz with rfl
          · exact ⟨by decide, _, wd_993, nc_AN hO⟩) (by decide) (by decide) wd_849 wd_664 (fun q => ?_)
      refine v_astore (pc := 17) hX dL_minutesToCool_17 (by decide) rfl ?_
      refine v_iconst (v := 2) (pc := 19) hX dL_minutesToCool_19 (by decide) ?_
      exact v_iret (pc := 20) hX hZ dL_minutesToCool_20 (by decide) (by decide) (Or.inr ⟨_, _, n9, hx9, rfl, (by decide), hn9, rfl⟩)
    · refine v_catch 2 hX hZ rfl (fun z hz => by
          simp only [List.take, List.mem_cons, List.not_mem_nil, or_false] at hz
          rcases hz with rfl | rfl
          · exact ⟨by decide, _, wd_993, nc_SN hO⟩
          · exact ⟨by decide, _, wd_849, nc_SA hO⟩) (by decide) (by decide) wd_850 wd_902 (fun q => ?_)
      refine v_astore (pc := 21) hX dL_minutesToCool_21 (by decide) rfl ?_
      refine v_iconst (v := 3) (pc := 23) hX dL_minutesToCool_23 (by decide) ?_
      exact v_iret (pc := 24) hX hZ dL_minutesToCool_24 (by decide) (by decide) (Or.inr ⟨_, _, n9, hx9, rfl, (by decide), hn9, rfl⟩)
  · obtain ⟨hx9, rfl, h8⟩ := h9
    replace h8 := h8.symm
    subst h8
    show mV g x (X10_minutesToCool_m g m b a a2 N) _ _ _ [(0, .ref b), (1, .int a), (2, .int a2), (3, .ref o)] [.int (X10_minutesToCool_r g m b a a2 N), .int 0, .ref o]
    refine v_i2l (pc := 8) hX dL_minutesToCool_8 ?_
    refine v_last (pc := 9) hX dL_minutesToCool_9 hko (j := 0) rfl (by decide) (by decide) ?_
    refine v_goto (tgt := 25) (pc := 10) hX dL_minutesToCool_10 (by decide) ?_
    refine v_iconst (v := 0) (pc := 25) hX dL_minutesToCool_25 (by decide) ?_
    exact v_iret (pc := 26) hX hZ dL_minutesToCool_26 (by decide) (by decide) (Or.inl ⟨hx9, rfl, rfl⟩)
set_option maxHeartbeats 4000000 in
theorem c_L_minutesToCoolAlone {l : Launch} {g : mG} (hO : mO l g) (m : mM) (b : Nat) (a : Int32) (a2 : Int32) (o : Nat) (N : Nat) (hb : SB m b) (hN : gI m 163 (b + 1) = nI N) (hN8 : N ≤ 8) (hko : gK (X10_minutesToCoolAlone_m g m b a a2 N) o = some (.inr (4, 1))) (hE : ∀ E, X10_minutesToCoolAlone_x g m b a a2 N = some E → E = "java/util/NoSuchElementException" ∨ E = "java/lang/IllegalArgumentException" ∨ E = "java/lang/IllegalStateException") : mT l g yL_minutesToCoolAlone (.codeWith yL_minutesToCoolAlone cL_minutesToCoolAlone 5 (Option.some FieldType.int) [(0, 10, 13, 33), (0, 10, 17, 13), (0, 10, 21, 15)]) 8 134 2 12 [.ref b, .int a, .int a2, .ref o] m (fun u m' => (X10_minutesToCoolAlone_x g m b a a2 N = none ∧ u = some (.int 0) ∧ m' = (sL (X10_minutesToCoolAlone_m g m b a a2 N) o 0 (X10_minutesToCoolAlone_r g m b a a2 N).toInt64)) ∨ ∃ (E : String) (k : Int32) (n9 : Nat), X10_minutesToCoolAlone_x g m b a a2 N = some E ∧ u = some (.int k) ∧ ([("java/util/NoSuchElementException", 1), ("java/lang/IllegalArgumentException", 2), ("java/lang/IllegalStateException", 3)] : List (String × Int32)).lookup E = some k ∧ gN (X10_minutesToCoolAlone_m g m b a a2 N) ≤ n9 ∧ m' = sN (X10_minutesToCoolAlone_m g m b a a2 N) n9) nX := by
  refine mT_ofH hO (by decide) (Nat.le_of_ble_eq_true rfl) (fun x hX hZ => ?_)
  show mV g x m 0 0 0 [(0, .ref b), (1, .int a), (2, .int a2), (3, .ref o)] []
  refine v_aload_n (pc := 0) hX dL_minutesToCoolAlone_0 rfl ?_
  refine v_iconst (v := 0) (pc := 1) hX dL_minutesToCoolAlone_1 (by decide) ?_
  refine v_aload_n (pc := 2) hX dL_minutesToCoolAlone_2 rfl ?_
  refine v_iload_n (pc := 3) hX dL_minutesToCoolAlone_3 rfl ?_
  refine v_iload_n (pc := 4) hX dL_minutesToCoolAlone_4 rfl ?_
  refine v_callV (z := yX10_minutesToCoolAlone) (pc := 5) hX dL_minutesToCoolAlone_5 (c_X10_minutesToCoolAlone hO m b a a2 N hb hN hN8) hb.1 rfl wd_1244 wd_1245 wd_1246 wd_1 wd_1247 ⟨by decide, by decide, (by decide +kernel : (parseMethodDescriptor yX10_minutesToCoolAlone.desc).map (fun d => d.parameters.length) = some 2)⟩ rfl (Nat.le_of_ble_eq_true rfl) ⟨⟨by decide, by decide⟩, by decide, by decide⟩ (fun E9 m9 h9 => ?_) (fun r9 m9 h9 => ?_)
  · obtain ⟨hx9, n9, hn9, rfl⟩ := h9
    rcases hE E9 hx9 with rfl | rfl | rfl
    · refine v_catch 0 hX hZ rfl (fun z hz => nomatch hz) (by decide) (by decide) wd_993 wd_870 (fun q => ?_)
      refine v_astore (pc := 13) hX dL_minutesToCoolAlone_13 (by decide) rfl ?_
      refine v_iconst (v := 1) (pc := 15) hX dL_minutesToCoolAlone_15 (by decide) ?_
      exact v_iret (pc := 16) hX hZ dL_minutesToCoolAlone_16 (by decide) (by decide) (Or.inr ⟨_, _, n9, hx9, rfl, (by decide), hn9, rfl⟩)
    · refine v_catch 1 hX hZ rfl (fun z hz => by
          simp only [List.take, List.mem_cons, List.not_mem_nil, or_false] at hz
          rcases hz with rfl
          · exact ⟨by decide, _, wd_993, nc_AN hO⟩) (by decide) (by decide) wd_849 wd_664 (fun q => ?_)
      refine v_astore (pc := 17) hX dL_minutesToCoolAlone_17 (by decide) rfl ?_
      refine v_iconst (v := 2) (pc := 19) hX dL_minutesToCoolAlone_19 (by decide) ?_
      exact v_iret (pc := 20) hX hZ dL_minutesToCoolAlone_20 (by decide) (by decide) (Or.inr ⟨_, _, n9, hx9, rfl, (by decide), hn9, rfl⟩)
    · refine v_catch 2 hX hZ rfl (fun z hz => by
          simp only [List.take, List.mem_cons, List.not_mem_nil, or_false] at hz
          rcases hz with rfl | rfl
          · exact ⟨by decide, _, wd_993, nc_SN hO⟩
          · exact ⟨by decide, _, wd_849, nc_SA hO⟩) (by decide) (by decide) wd_850 wd_902 (fun q => ?_)
      refine v_astore (pc := 21) hX dL_minutesToCoolAlone_21 (by decide) rfl ?_
      refine v_iconst (v := 3) (pc := 23) hX dL_minutesToCoolAlone_23 (by decide) ?_
      exact v_iret (pc := 24) hX hZ dL_minutesToCoolAlone_24 (by decide) (by decide) (Or.inr ⟨_, _, n9, hx9, rfl, (by decide), hn9, rfl⟩)
  · obtain ⟨hx9, rfl, h8⟩ := h9
    replace h8 := h8.symm
    subst h8
    show mV g x (X10_minutesToCoolAlone_m g m b a a2 N) _ _ _ [(0, .ref b), (1, .int a), (2, .int a2), (3, .ref o)] [.int (X10_minutesToCoolAlone_r g m b a a2 N), .int 0, .ref o]
    refine v_i2l (pc := 8) hX dL_minutesToCoolAlone_8 ?_
    refine v_last (pc := 9) hX dL_minutesToCoolAlone_9 hko (j := 0) rfl (by decide) (by decide) ?_
    refine v_goto (tgt := 25) (pc := 10) hX dL_minutesToCoolAlone_10 (by decide) ?_
    refine v_iconst (v := 0) (pc := 25) hX dL_minutesToCoolAlone_25 (by decide) ?_
    exact v_iret (pc := 26) hX hZ dL_minutesToCoolAlone_26 (by decide) (by decide) (Or.inl ⟨hx9, rfl, rfl⟩)
set_option maxHeartbeats 4000000 in
theorem c_L_pieceAtRank {l : Launch} {g : mG} (hO : mO l g) (m : mM) (b : Nat) (a : Int32) (o : Nat) (N : Nat) (hb : SB m b) (hN : gI m 163 (b + 1) = nI N) (hN8 : N ≤ 8) (hko : gK m o = some (.inr (4, 1))) (hE : ∀ E, X10_pieceAtRank_x g m b a N = some E → E = "java/lang/IndexOutOfBoundsException") : mT l g yL_pieceAtRank (.codeWith yL_pieceAtRank cL_pieceAtRank 4 (Option.some FieldType.int) [(0, 9, 12, 42)]) 7 112 1 6 [.ref b, .int a, .ref o] m (fun u m' => (X10_pieceAtRank_x g m b a N = none ∧ u = some (.int 0) ∧ m' = (sL m o 0 (X10_pieceAtRank_r g m b a N).toInt64)) ∨ ∃ (E : String) (k : Int32) (n9 : Nat), X10_pieceAtRank_x g m b a N = some E ∧ u = some (.int k) ∧ ([("java/lang/IndexOutOfBoundsException", 1)] : List (String × Int32)).lookup E = some k ∧ gN m ≤ n9 ∧ m' = sN m n9) nX := by
  refine mT_ofH hO (by decide) (Nat.le_of_ble_eq_true rfl) (fun x hX hZ => ?_)
  show mV g x m 0 0 0 [(0, .ref b), (1, .int a), (2, .ref o)] []
  refine v_aload_n (pc := 0) hX dL_pieceAtRank_0 rfl ?_
  refine v_iconst (v := 0) (pc := 1) hX dL_pieceAtRank_1 (by decide) ?_
  refine v_aload_n (pc := 2) hX dL_pieceAtRank_2 rfl ?_
  refine v_iload_n (pc := 3) hX dL_pieceAtRank_3 rfl ?_
  refine v_callV (z := yX10_pieceAtRank) (pc := 4) hX dL_pieceAtRank_4 (c_X10_pieceAtRank hO m b a N hb hN hN8) hb.1 rfl wd_1252 wd_1253 wd_1254 wd_1 wd_1255 ⟨by decide, by decide, (by decide +kernel : (parseMethodDescriptor yX10_pieceAtRank.desc).map (fun d => d.parameters.length) = some 1)⟩ rfl (Nat.le_of_ble_eq_true rfl) ⟨⟨by decide, by decide⟩, by decide, by decide⟩ (fun E9 m9 h9 => ?_) (fun r9 m9 h9 => ?_)
  · obtain ⟨hx9, n9, hn9, rfl⟩ := h9
    rcases hE E9 hx9 with rfl
    · refine v_catch 0 hX hZ rfl (fun z hz => nomatch hz) (by decide) (by decide) wd_1018 wd_886 (fun q => ?_)
      refine v_astore_n (pc := 12) hX dL_pieceAtRank_12 (by decide) rfl ?_
      refine v_iconst (v := 1) (pc := 13) hX dL_pieceAtRank_13 (by decide) ?_
      exact v_iret (pc := 14) hX hZ dL_pieceAtRank_14 (by decide) (by decide) (Or.inr ⟨_, _, n9, hx9, rfl, (by decide), hn9, rfl⟩)
  · obtain ⟨hx9, rfl, h8⟩ := h9
    replace h8 := h8.symm
    subst h8
    show mV g x m _ _ _ [(0, .ref b), (1, .int a), (2, .ref o)] [.int (X10_pieceAtRank_r g m b a N), .int 0, .ref o]
    refine v_i2l (pc := 7) hX dL_pieceAtRank_7 ?_
    refine v_last (pc := 8) hX dL_pieceAtRank_8 hko (j := 0) rfl (by decide) (by decide) ?_
    refine v_goto (tgt := 15) (pc := 9) hX dL_pieceAtRank_9 (by decide) ?_
    refine v_iconst (v := 0) (pc := 15) hX dL_pieceAtRank_15 (by decide) ?_
    exact v_iret (pc := 16) hX hZ dL_pieceAtRank_16 (by decide) (by decide) (Or.inl ⟨hx9, rfl, rfl⟩)
set_option maxHeartbeats 4000000 in
theorem c_L_weight {l : Launch} {g : mG} (hO : mO l g) (m : mM) (b : Nat) (a : Int32) (o : Nat) (H : Nat) (hb : SB m b) (hH : gI m 164 (b + 1) = nI H) (hH4 : H ≤ 4) (hko : gK m o = some (.inr (4, 1))) (hE : ∀ E, X10_weight_x g m b a H = some E → E = "java/lang/IndexOutOfBoundsException") : mT l g yL_weight (.codeWith yL_weight cL_weight 4 (Option.some FieldType.int) [(0, 9, 12, 42)]) 8 133 1 6 [.ref b, .int a, .ref o] m (fun u m' => (X10_weight_x g m b a H = none ∧ u = some (.int 0) ∧ m' = (sL m o 0 (X10_weight_r g m b a H).toInt64)) ∨ ∃ (E : String) (k : Int32) (n9 : Nat), X10_weight_x g m b a H = some E ∧ u = some (.int k) ∧ ([("java/lang/IndexOutOfBoundsException", 1)] : List (String × Int32)).lookup E = some k ∧ gN m ≤ n9 ∧ m' = sN m n9) nX := by
  refine mT_ofH hO (by decide) (Nat.le_of_ble_eq_true rfl) (fun x hX hZ => ?_)
  show mV g x m 0 0 0 [(0, .ref b), (1, .int a), (2, .ref o)] []
  refine v_aload_n (pc := 0) hX dL_weight_0 rfl ?_
  refine v_iconst (v := 0) (pc := 1) hX dL_weight_1 (by decide) ?_
  refine v_aload_n (pc := 2) hX dL_weight_2 rfl ?_
  refine v_iload_n (pc := 3) hX dL_weight_3 rfl ?_
  refine v_callV (z := yX10_weight) (pc := 4) hX dL_weight_4 (c_X10_weight hO m b a H hb hH hH4) hb.1 rfl wd_1272 wd_1273 wd_1274 wd_1 wd_1275 ⟨by decide, by decide, (by decide +kernel : (parseMethodDescriptor yX10_weight.desc).map (fun d => d.parameters.length) = some 1)⟩ rfl (Nat.le_of_ble_eq_true rfl) ⟨⟨by decide, by decide⟩, by decide, by decide⟩ (fun E9 m9 h9 => ?_) (fun r9 m9 h9 => ?_)
  · obtain ⟨hx9, n9, hn9, rfl⟩ := h9
    rcases hE E9 hx9 with rfl
    · refine v_catch 0 hX hZ rfl (fun z hz => nomatch hz) (by decide) (by decide) wd_1018 wd_886 (fun q => ?_)
      refine v_astore_n (pc := 12) hX dL_weight_12 (by decide) rfl ?_
      refine v_iconst (v := 1) (pc := 13) hX dL_weight_13 (by decide) ?_
      exact v_iret (pc := 14) hX hZ dL_weight_14 (by decide) (by decide) (Or.inr ⟨_, _, n9, hx9, rfl, (by decide), hn9, rfl⟩)
  · obtain ⟨hx9, rfl, h8⟩ := h9
    replace h8 := h8.symm
    subst h8
    show mV g x m _ _ _ [(0, .ref b), (1, .int a), (2, .ref o)] [.int (X10_weight_r g m b a H), .int 0, .ref o]
    refine v_i2l (pc := 7) hX dL_weight_7 ?_
    refine v_last (pc := 8) hX dL_weight_8 hko (j := 0) rfl (by decide) (by decide) ?_
    refine v_goto (tgt := 15) (pc := 9) hX dL_weight_9 (by decide) ?_
    refine v_iconst (v := 0) (pc := 15) hX dL_weight_15 (by decide) ?_
    exact v_iret (pc := 16) hX hZ dL_weight_16 (by decide) (by decide) (Or.inl ⟨hx9, rfl, rfl⟩)
set_option maxHeartbeats 4000000 in
theorem c_L_wear {l : Launch} {g : mG} (hO : mO l g) (m : mM) (b : Nat) (a : Int32) (o : Nat) (H : Nat) (hb : SB m b) (hH : gI m 164 (b + 1) = nI H) (hH4 : H ≤ 4) (hko : gK m o = some (.inr (4, 1))) (hE : ∀ E, X10_wear_x g m b a H = some E → E = "java/lang/IndexOutOfBoundsException") : mT l g yL_wear (.codeWith yL_wear cL_wear 4 (Option.some FieldType.int) [(0, 9, 12, 42)]) 8 133 1 6 [.ref b, .int a, .ref o] m (fun u m' => (X10_wear_x g m b a H = none ∧ u = some (.int 0) ∧ m' = (sL m o 0 (X10_wear_r g m b a H).toInt64)) ∨ ∃ (E : String) (k : Int32) (n9 : Nat), X10_wear_x g m b a H = some E ∧ u = some (.int k) ∧ ([("java/lang/IndexOutOfBoundsException", 1)] : List (String × Int32)).lookup E = some k ∧ gN m ≤ n9 ∧ m' = sN m n9) nX := by
  refine mT_ofH hO (by decide) (Nat.le_of_ble_eq_true rfl) (fun x hX hZ => ?_)
  show mV g x m 0 0 0 [(0, .ref b), (1, .int a), (2, .ref o)] []
  refine v_aload_n (pc := 0) hX dL_wear_0 rfl ?_
  refine v_iconst (v := 0) (pc := 1) hX dL_wear_1 (by decide) ?_
  refine v_aload_n (pc := 2) hX dL_wear_2 rfl ?_
  refine v_iload_n (pc := 3) hX dL_wear_3 rfl ?_
  refine v_callV (z := yX10_wear) (pc := 4) hX dL_wear_4 (c_X10_wear hO m b a H hb hH hH4) hb.1 rfl wd_1279 wd_1280 wd_1281 wd_1 wd_1282 ⟨by decide, by decide, (by decide +kernel : (parseMethodDescriptor yX10_wear.desc).map (fun d => d.parameters.length) = some 1)⟩ rfl (Nat.le_of_ble_eq_true rfl) ⟨⟨by decide, by decide⟩, by decide, by decide⟩ (fun E9 m9 h9 => ?_) (fun r9 m9 h9 => ?_)
  · obtain ⟨hx9, n9, hn9, rfl⟩ := h9
    rcases hE E9 hx9 with rfl
    · refine v_catch 0 hX hZ rfl (fun z hz => nomatch hz) (by decide) (by decide) wd_1018 wd_886 (fun q => ?_)
      refine v_astore_n (pc := 12) hX dL_wear_12 (by decide) rfl ?_
      refine v_iconst (v := 1) (pc := 13) hX dL_wear_13 (by decide) ?_
      exact v_iret (pc := 14) hX hZ dL_wear_14 (by decide) (by decide) (Or.inr ⟨_, _, n9, hx9, rfl, (by decide), hn9, rfl⟩)
  · obtain ⟨hx9, rfl, h8⟩ := h9
    replace h8 := h8.symm
    subst h8
    show mV g x m _ _ _ [(0, .ref b), (1, .int a), (2, .ref o)] [.int (X10_wear_r g m b a H), .int 0, .ref o]
    refine v_i2l (pc := 7) hX dL_wear_7 ?_
    refine v_last (pc := 8) hX dL_wear_8 hko (j := 0) rfl (by decide) (by decide) ?_
    refine v_goto (tgt := 15) (pc := 9) hX dL_wear_9 (by decide) ?_
    refine v_iconst (v := 0) (pc := 15) hX dL_wear_15 (by decide) ?_
    exact v_iret (pc := 16) hX hZ dL_wear_16 (by decide) (by decide) (Or.inl ⟨hx9, rfl, rfl⟩)
set_option maxHeartbeats 4000000 in
theorem c_L_heaviestHammer {l : Launch} {g : mG} (hO : mO l g) (m : mM) (b : Nat) (o : Nat) (H : Nat) (hb : SB m b) (hH : gI m 164 (b + 1) = nI H) (hH4 : H ≤ 4) (hko : gK m o = some (.inr (4, 1))) (hE : ∀ E, X10_heaviestHammer_x g m b H = some E → E = "java/util/NoSuchElementException") : mT l g yL_heaviestHammer (.codeWith yL_heaviestHammer cL_heaviestHammer 3 (Option.some FieldType.int) [(0, 8, 11, 33)]) 7 111 1 6 [.ref b, .ref o] m (fun u m' => (X10_heaviestHammer_x g m b H = none ∧ u = some (.int 0) ∧ m' = (sL m o 0 (X10_heaviestHammer_r g m b H).toInt64)) ∨ ∃ (E : String) (k : Int32) (n9 : Nat), X10_heaviestHammer_x g m b H = some E ∧ u = some (.int k) ∧ ([("java/util/NoSuchElementException", 1)] : List (String × Int32)).lookup E = some k ∧ gN m ≤ n9 ∧ m' = sN m n9) nX := by
  refine mT_ofH hO (by decide) (Nat.le_of_ble_eq_true rfl) (fun x hX hZ => ?_)
  show mV g x m 0 0 0 [(0, .ref b), (1, .ref o)] []
  refine v_aload_n (pc := 0) hX dL_heaviestHammer_0 rfl ?_
  refine v_iconst (v := 0) (pc := 1) hX dL_heaviestHammer_1 (by decide) ?_
  refine v_aload_n (pc := 2) hX dL_heaviestHammer_2 rfl ?_
  refine v_callV (z := yX10_heaviestHammer) (pc := 3) hX dL_heaviestHammer_3 (c_X10_heaviestHammer hO m b H hb hH hH4) hb.1 rfl wd_1286 wd_1287 wd_1288 wd_1 wd_1289 ⟨by decide, by decide, (by decide +kernel : (parseMethodDescriptor yX10_heaviestHammer.desc).map (fun d => d.parameters.length) = some 0)⟩ rfl (Nat.le_of_ble_eq_true rfl) ⟨⟨by decide, by decide⟩, by decide, by decide⟩ (fun E9 m9 h9 => ?_) (fun r9 m9 h9 => ?_)
  · obtain ⟨hx9, n9, hn9, rfl⟩ := h9
    rcases hE E9 hx9 with rfl
    · refine v_catch 0 hX hZ rfl (fun z hz => nomatch hz) (by decide) (by decide) wd_993 wd_870 (fun q => ?_)
      refine v_astore_n (pc := 11) hX dL_heaviestHammer_11 (by decide) rfl ?_
      refine v_iconst (v := 1) (pc := 12) hX dL_heaviestHammer_12 (by decide) ?_
      exact v_iret (pc := 13) hX hZ dL_heaviestHammer_13 (by decide) (by decide) (Or.inr ⟨_, _, n9, hx9, rfl, (by decide), hn9, rfl⟩)
  · obtain ⟨hx9, rfl, h8⟩ := h9
    replace h8 := h8.symm
    subst h8
    show mV g x m _ _ _ [(0, .ref b), (1, .ref o)] [.int (X10_heaviestHammer_r g m b H), .int 0, .ref o]
    refine v_i2l (pc := 6) hX dL_heaviestHammer_6 ?_
    refine v_last (pc := 7) hX dL_heaviestHammer_7 hko (j := 0) rfl (by decide) (by decide) ?_
    refine v_goto (tgt := 14) (pc := 8) hX dL_heaviestHammer_8 (by decide) ?_
    refine v_iconst (v := 0) (pc := 14) hX dL_heaviestHammer_14 (by decide) ?_
    exact v_iret (pc := 15) hX hZ dL_heaviestHammer_15 (by decide) (by decide) (Or.inl ⟨hx9, rfl, rfl⟩)
set_option maxHeartbeats 4000000 in
theorem c_L_meanHardness {l : Launch} {g : mG} (hO : mO l g) (m : mM) (b : Nat) (o : Nat) (N : Nat) (hb : SB m b) (hN : gI m 163 (b + 1) = nI N) (hN8 : N ≤ 8) (hko : gK m o = some (.inr (5, 1))) (hE : ∀ E, X10_meanHardness_x g m b N = some E → E = "java/lang/ArithmeticException") : mT l g yL_meanHardness (.codeWith yL_meanHardness cL_meanHardness 3 (Option.some FieldType.int) [(0, 7, 10, 64)]) 7 110 1 6 [.ref b, .ref o] m (fun u m' => (X10_meanHardness_x g m b N = none ∧ u = some (.int 0) ∧ m' = (sD m o 0 (X10_meanHardness_r g m b N))) ∨ ∃ (E : String) (k : Int32) (n9 : Nat), X10_meanHardness_x g m b N = some E ∧ u = some (.int k) ∧ ([("java/lang/ArithmeticException", 1)] : List (String × Int32)).lookup E = some k ∧ gN m ≤ n9 ∧ m' = sN m n9) nX := by
  refine mT_ofH hO (by decide) (Nat.le_of_ble_eq_true rfl) (fun x hX hZ => ?_)
  show mV g x m 0 0 0 [(0, .ref b), (1, .ref o)] []
  refine v_aload_n (pc := 0) hX dL_meanHardness_0 rfl ?_
  refine v_iconst (v := 0) (pc := 1) hX dL_meanHardness_1 (by decide) ?_
  refine v_aload_n (pc := 2) hX dL_meanHardness_2 rfl ?_
  refine v_callV (z := yX10_meanHardness) (pc := 3) hX dL_meanHardness_3 (c_X10_meanHardness hO m b N hb hN hN8) hb.1 rfl wd_1302 wd_1303 wd_1304 wd_1 wd_1305 ⟨by decide, by decide, (by decide +kernel : (parseMethodDescriptor yX10_meanHardness.desc).map (fun d => d.parameters.length) = some 0)⟩ rfl (Nat.le_of_ble_eq_true rfl) ⟨⟨by decide, by decide⟩, by decide, by decide⟩ (fun E9 m9 h9 => ?_) (fun r9 m9 h9 => ?_)
  · obtain ⟨hx9, n9, hn9, rfl⟩ := h9
    rcases hE E9 hx9 with rfl
    · refine v_catch 0 hX hZ rfl (fun z hz => nomatch hz) (by decide) (by decide) wd_1111 wd_1123 (fun q => ?_)
      refine v_astore_n (pc := 10) hX dL_meanHardness_10 (by decide) rfl ?_
      refine v_iconst (v := 1) (pc := 11) hX dL_meanHardness_11 (by decide) ?_
      exact v_iret (pc := 12) hX hZ dL_meanHardness_12 (by decide) (by decide) (Or.inr ⟨_, _, n9, hx9, rfl, (by decide), hn9, rfl⟩)
  · obtain ⟨hx9, rfl, h8⟩ := h9
    replace h8 := h8.symm
    subst h8
    show mV g x m _ _ _ [(0, .ref b), (1, .ref o)] [.double (X10_meanHardness_r g m b N), .int 0, .ref o]
    refine v_dast (pc := 6) hX dL_meanHardness_6 hko (j := 0) rfl (by decide) (by decide) ?_
    refine v_goto (tgt := 13) (pc := 7) hX dL_meanHardness_7 (by decide) ?_
    refine v_iconst (v := 0) (pc := 13) hX dL_meanHardness_13 (by decide) ?_
    exact v_iret (pc := 14) hX hZ dL_meanHardness_14 (by decide) (by decide) (Or.inl ⟨hx9, rfl, rfl⟩)
set_option maxHeartbeats 4000000 in
theorem c_L_passShare {l : Launch} {g : mG} (hO : mO l g) (m : mM) (b : Nat) (o : Nat)  (hb : SB m b) (hko : gK m o = some (.inr (5, 1))) (hE : ∀ E, X10_passShare_x g m b = some E → E = "java/lang/ArithmeticException") : mT l g yL_passShare (.codeWith yL_passShare cL_passShare 3 (Option.some FieldType.int) [(0, 8, 11, 64)]) 7 110 1 6 [.ref b, .ref o] m (fun u m' => (X10_passShare_x g m b = none ∧ u = some (.int 0) ∧ m' = (sD m o 0 (FP.f2d (X10_passShare_r g m b)))) ∨ ∃ (E : String) (k : Int32) (n9 : Nat), X10_passShare_x g m b = some E ∧ u = some (.int k) ∧ ([("java/lang/ArithmeticException", 1)] : List (String × Int32)).lookup E = some k ∧ gN m ≤ n9 ∧ m' = sN m n9) nX := by
  refine mT_ofH hO (by decide) (Nat.le_of_ble_eq_true rfl) (fun x hX hZ => ?_)
  show mV g x m 0 0 0 [(0, .ref b), (1, .ref o)] []
  refine v_aload_n (pc := 0) hX dL_passShare_0 rfl ?_
  refine v_iconst (v := 0) (pc := 1) hX dL_passShare_1 (by decide) ?_
  refine v_aload_n (pc := 2) hX dL_passShare_2 rfl ?_
  refine v_callV (z := yX10_passShare) (pc := 3) hX dL_passShare_3 (c_X10_passShare hO m b hb) hb.1 rfl wd_1314 wd_1315 wd_1316 wd_1 wd_1317 ⟨by decide, by decide, (by decide +kernel : (parseMethodDescriptor yX10_passShare.desc).map (fun d => d.parameters.length) = some 0)⟩ rfl (Nat.le_of_ble_eq_true rfl) ⟨⟨by decide, by decide⟩, by decide, by decide⟩ (fun E9 m9 h9 => ?_) (fun r9 m9 h9 => ?_)
  · obtain ⟨hx9, n9, hn9, rfl⟩ := h9
    rcases hE E9 hx9 with rfl
    · refine v_catch 0 hX hZ rfl (fun z hz => nomatch hz) (by decide) (by decide) wd_1111 wd_1123 (fun q => ?_)
      refine v_astore_n (pc := 11) hX dL_passShare_11 (by decide) rfl ?_
      refine v_iconst (v := 1) (pc := 12) hX dL_passShare_12 (by decide) ?_
      exact v_iret (pc := 13) hX hZ dL_passShare_13 (by decide) (by decide) (Or.inr ⟨_, _, n9, hx9, rfl, (by decide), hn9, rfl⟩)
  · obtain ⟨hx9, rfl, h8⟩ := h9
    replace h8 := h8.symm
    subst h8
    show mV g x m _ _ _ [(0, .ref b), (1, .ref o)] [.float (X10_passShare_r g m b), .int 0, .ref o]
    refine v_f2d (pc := 6) hX dL_passShare_6 (n64_f2d (ps_n g m b)) ?_
    refine v_dast (pc := 7) hX dL_passShare_7 hko (j := 0) rfl (by decide) (by decide) ?_
    refine v_goto (tgt := 14) (pc := 8) hX dL_passShare_8 (by decide) ?_
    refine v_iconst (v := 0) (pc := 14) hX dL_passShare_14 (by decide) ?_
    exact v_iret (pc := 15) hX hZ dL_passShare_15 (by decide) (by decide) (Or.inl ⟨hx9, rfl, rfl⟩)
set_option maxHeartbeats 4000000 in
theorem c_L_append {l : Launch} {g : mG} (hO : mO l g) (m : mM) (b : Nat) (a : Int32) (o : Nat)  (hb : SB m b) (hs : SP m (b + 214)) (hL : okI (gI m 323 (b + 214)) 60) (hch : narrow .char (.int a) = .int a) (hko : gK (X10_append_m g m b a) o = some (.inr (4, 1))) (hE : ∀ E, X10_append_x g m b a = some E → E = "java/lang/IllegalStateException") : mT l g yL_append (.codeWith yL_append cL_append 4 (Option.some FieldType.int) [(0, 9, 12, 15)]) 7 111 1 6 [.ref b, .int a, .ref o] m (fun u m' => (X10_append_x g m b a = none ∧ u = some (.int 0) ∧ m' = (sL (X10_append_m g m b a) o 0 (X10_append_r g m b a).toInt64)) ∨ ∃ (E : String) (k : Int32) (n9 : Nat), X10_append_x g m b a = some E ∧ u = some (.int k) ∧ ([("java/lang/IllegalStateException", 1)] : List (String × Int32)).lookup E = some k ∧ gN (X10_append_m g m b a) ≤ n9 ∧ m' = sN (X10_append_m g m b a) n9) nX := by
  refine mT_ofH hO (by decide) (Nat.le_of_ble_eq_true rfl) (fun x hX hZ => ?_)
  show mV g x m 0 0 0 [(0, .ref b), (1, .int a), (2, .ref o)] []
  refine v_aload_n (pc := 0) hX dL_append_0 rfl ?_
  refine v_iconst (v := 0) (pc := 1) hX dL_append_1 (by decide) ?_
  refine v_aload_n (pc := 2) hX dL_append_2 rfl ?_
  refine v_iload_n (pc := 3) hX dL_append_3 rfl ?_
  refine v_callV (z := yX10_append) (pc := 4) hX dL_append_4 (c_X10_append hO m b a hb hs hL hch) hb.1 rfl wd_1322 wd_1323 wd_1324 wd_1 wd_1325 ⟨by decide, by decide, (by decide +kernel : (parseMethodDescriptor yX10_append.desc).map (fun d => d.parameters.length) = some 1)⟩ rfl (Nat.le_of_ble_eq_true rfl) ⟨⟨by decide, by decide⟩, by decide, by decide⟩ (fun E9 m9 h9 => ?_) (fun r9 m9 h9 => ?_)
  · obtain ⟨hx9, n9, hn9, rfl⟩ := h9
    rcases hE E9 hx9 with rfl
    · refine v_catch 0 hX hZ rfl (fun z hz => nomatch hz) (by decide) (by decide) wd_850 wd_902 (fun q => ?_)
      refine v_astore_n (pc := 12) hX dL_append_12 (by decide) rfl ?_
      refine v_iconst (v := 1) (pc := 13) hX dL_append_13 (by decide) ?_
      exact v_iret (pc := 14) hX hZ dL_append_14 (by decide) (by decide) (Or.inr ⟨_, _, n9, hx9, rfl, (by decide), hn9, rfl⟩)
  · obtain ⟨hx9, rfl, h8⟩ := h9
    replace h8 := h8.symm
    subst h8
    show mV g x (X10_append_m g m b a) _ _ _ [(0, .ref b), (1, .int a), (2, .ref o)] [.int (X10_append_r g m b a), .int 0, .ref o]
    refine v_i2l (pc := 7) hX dL_append_7 ?_
    refine v_last (pc := 8) hX dL_append_8 hko (j := 0) rfl (by decide) (by decide) ?_
    refine v_goto (tgt := 15) (pc := 9) hX dL_append_9 (by decide) ?_
    refine v_iconst (v := 0) (pc := 15) hX dL_append_15 (by decide) ?_
    exact v_iret (pc := 16) hX hZ dL_append_16 (by decide) (by decide) (Or.inl ⟨hx9, rfl, rfl⟩)
set_option maxHeartbeats 4000000 in
theorem c_L_run {l : Launch} {g : mG} (hO : mO l g) (m : mM) (b : Nat) (o : Nat) (nx : Nat) (hb : SB m b) (hs : SP m (b + 214)) (hL : okI (gI m 323 (b + 214)) 60) (hcq : CQ g m (b + 214)) (hNo : okI (gI m 163 (b + 1)) 8) (hHo : okI (gI m 164 (b + 1)) 4) (hn : gI m 257 (b + 49) = nI nx) (hn9 : nx < 9) (hko : gK (X10_run_m g m b nx) o = some (.inr (4, 1))) (hE : ∀ E, X10_run_x g m b nx = some E → E = "java/lang/IllegalArgumentException" ∨ E = "java/lang/UnsupportedOperationException") : mT l g yL_run (.codeWith yL_run cL_run 3 (Option.some FieldType.int) [(0, 8, 11, 13), (0, 8, 14, 44)]) 10 216 1 6 [.ref b, .ref o] m (fun u m' => (X10_run_x g m b nx = none ∧ u = some (.int 0) ∧ m' = (sL (X10_run_m g m b nx) o 0 (X10_run_r g m b nx).toInt64)) ∨ ∃ (E : String) (k : Int32) (n9 : Nat), X10_run_x g m b nx = some E ∧ u = some (.int k) ∧ ([("java/lang/IllegalArgumentException", 1), ("java/lang/UnsupportedOperationException", 2)] : List (String × Int32)).lookup E = some k ∧ gN (X10_run_m g m b nx) ≤ n9 ∧ m' = sN (X10_run_m g m b nx) n9) nX := by
  refine mT_ofH hO (by decide) (Nat.le_of_ble_eq_true rfl) (fun x hX hZ => ?_)
  show mV g x m 0 0 0 [(0, .ref b), (1, .ref o)] []
  refine v_aload_n (pc := 0) hX dL_run_0 rfl ?_
  refine v_iconst (v := 0) (pc := 1) hX dL_run_1 (by decide) ?_
  refine v_aload_n (pc := 2) hX dL_run_2 rfl ?_
  refine v_callV (z := yX10_run) (pc := 3) hX dL_run_3 (c_X10_run hO m b nx hb hs hL hcq hNo hHo hn hn9) hb.1 rfl wd_1338 wd_1339 wd_1340 wd_1 wd_1341 ⟨by decide, by decide, (by decide +kernel : (parseMethodDescriptor yX10_run.desc).map (fun d => d.parameters.length) = some 0)⟩ rfl (Nat.le_of_ble_eq_true rfl) ⟨⟨by decide, by decide⟩, by decide, by decide⟩ (fun E9 m9 h9 => ?_) (fun r9 m9 h9 => ?_)
  · obtain ⟨hx9, n9, hn9, rfl⟩ := h9
    rcases hE E9 hx9 with rfl | rfl
    · refine v_catch 0 hX hZ rfl (fun z hz => nomatch hz) (by decide) (by decide) wd_849 wd_664 (fun q => ?_)
      refine v_astore_n (pc := 11) hX dL_run_11 (by decide) rfl ?_
      refine v_iconst (v := 1) (pc := 12) hX dL_run_12 (by decide) ?_
      exact v_iret (pc := 13) hX hZ dL_run_13 (by decide) (by decide) (Or.inr ⟨_, _, n9, hx9, rfl, (by decide), hn9, rfl⟩)
    · refine v_catch 1 hX hZ rfl (fun z hz => by
          simp only [List.take, List.mem_cons, List.not_mem_nil, or_false] at hz
          rcases hz with rfl
          · exact ⟨by decide, _, wd_849, nc_UA hO⟩) (by decide) (by decide) wd_1021 wd_918 (fun q => ?_)
      refine v_astore_n (pc := 14) hX dL_run_14 (by decide) rfl ?_
      refine v_iconst (v := 2) (pc := 15) hX dL_run_15 (by decide) ?_
      exact v_iret (pc := 16) hX hZ dL_run_16 (by decide) (by decide) (Or.inr ⟨_, _, n9, hx9, rfl, (by decide), hn9, rfl⟩)
  · obtain ⟨hx9, rfl, h8⟩ := h9
    replace h8 := h8.symm
    subst h8
    show mV g x (X10_run_m g m b nx) _ _ _ [(0, .ref b), (1, .ref o)] [.int (X10_run_r g m b nx), .int 0, .ref o]
    refine v_i2l (pc := 6) hX dL_run_6 ?_
    refine v_last (pc := 7) hX dL_run_7 hko (j := 0) rfl (by decide) (by decide) ?_
    refine v_goto (tgt := 17) (pc := 8) hX dL_run_8 (by decide) ?_
    refine v_iconst (v := 0) (pc := 17) hX dL_run_17 (by decide) ?_
    exact v_iret (pc := 18) hX hZ dL_run_18 (by decide) (by decide) (Or.inl ⟨hx9, rfl, rfl⟩)
set_option maxHeartbeats 4000000 in
theorem c_L_errorPosition {l : Launch} {g : mG} (hO : mO l g) (m : mM) (b : Nat) (o : Nat)  (hb : SB m b) (hko : gK m o = some (.inr (4, 1))) (hE : ∀ E, X10_errorPosition_x g m b = some E → E = "java/util/NoSuchElementException") : mT l g yL_errorPosition (.codeWith yL_errorPosition cL_errorPosition 3 (Option.some FieldType.int) [(0, 8, 11, 33)]) 7 110 1 6 [.ref b, .ref o] m (fun u m' => (X10_errorPosition_x g m b = none ∧ u = some (.int 0) ∧ m' = (sL m o 0 (X10_errorPosition_r g m b).toInt64)) ∨ ∃ (E : String) (k : Int32) (n9 : Nat), X10_errorPosition_x g m b = some E ∧ u = some (.int k) ∧ ([("java/util/NoSuchElementException", 1)] : List (String × Int32)).lookup E = some k ∧ gN m ≤ n9 ∧ m' = sN m n9) nX := by
  refine mT_ofH hO (by decide) (Nat.le_of_ble_eq_true rfl) (fun x hX hZ => ?_)
  show mV g x m 0 0 0 [(0, .ref b), (1, .ref o)] []
  refine v_aload_n (pc := 0) hX dL_errorPosition_0 rfl ?_
  refine v_iconst (v := 0) (pc := 1) hX dL_errorPosition_1 (by decide) ?_
  refine v_aload_n (pc := 2) hX dL_errorPosition_2 rfl ?_
  refine v_callV (z := yX10_errorPosition) (pc := 3) hX dL_errorPosition_3 (c_X10_errorPosition hO m b hb) hb.1 rfl wd_1430 wd_1431 wd_1432 wd_1 wd_1433 ⟨by decide, by decide, (by decide +kernel : (parseMethodDescriptor yX10_errorPosition.desc).map (fun d => d.parameters.length) = some 0)⟩ rfl (Nat.le_of_ble_eq_true rfl) ⟨⟨by decide, by decide⟩, by decide, by decide⟩ (fun E9 m9 h9 => ?_) (fun r9 m9 h9 => ?_)
  · obtain ⟨hx9, n9, hn9, rfl⟩ := h9
    rcases hE E9 hx9 with rfl
    · refine v_catch 0 hX hZ rfl (fun z hz => nomatch hz) (by decide) (by decide) wd_993 wd_870 (fun q => ?_)
      refine v_astore_n (pc := 11) hX dL_errorPosition_11 (by decide) rfl ?_
      refine v_iconst (v := 1) (pc := 12) hX dL_errorPosition_12 (by decide) ?_
      exact v_iret (pc := 13) hX hZ dL_errorPosition_13 (by decide) (by decide) (Or.inr ⟨_, _, n9, hx9, rfl, (by decide), hn9, rfl⟩)
  · obtain ⟨hx9, rfl, h8⟩ := h9
    replace h8 := h8.symm
    subst h8
    show mV g x m _ _ _ [(0, .ref b), (1, .ref o)] [.int (X10_errorPosition_r g m b), .int 0, .ref o]
    refine v_i2l (pc := 6) hX dL_errorPosition_6 ?_
    refine v_last (pc := 7) hX dL_errorPosition_7 hko (j := 0) rfl (by decide) (by decide) ?_
    refine v_goto (tgt := 14) (pc := 8) hX dL_errorPosition_8 (by decide) ?_
    refine v_iconst (v := 0) (pc := 14) hX dL_errorPosition_14 (by decide) ?_
    exact v_iret (pc := 15) hX hZ dL_errorPosition_15 (by decide) (by decide) (Or.inl ⟨hx9, rfl, rfl⟩)
set_option maxHeartbeats 4000000 in
theorem c_L_failedCommand {l : Launch} {g : mG} (hO : mO l g) (m : mM) (b : Nat) (o : Nat)  (hb : SB m b) (hko : gK m o = some (.inr (4, 1))) (hE : ∀ E, X10_failedCommand_x g m b = some E → E = "java/util/NoSuchElementException") : mT l g yL_failedCommand (.codeWith yL_failedCommand cL_failedCommand 3 (Option.some FieldType.int) [(0, 8, 11, 33)]) 7 110 1 6 [.ref b, .ref o] m (fun u m' => (X10_failedCommand_x g m b = none ∧ u = some (.int 0) ∧ m' = (sL m o 0 (X10_failedCommand_r g m b).toInt64)) ∨ ∃ (E : String) (k : Int32) (n9 : Nat), X10_failedCommand_x g m b = some E ∧ u = some (.int k) ∧ ([("java/util/NoSuchElementException", 1)] : List (String × Int32)).lookup E = some k ∧ gN m ≤ n9 ∧ m' = sN m n9) nX := by
  refine mT_ofH hO (by decide) (Nat.le_of_ble_eq_true rfl) (fun x hX hZ => ?_)
  show mV g x m 0 0 0 [(0, .ref b), (1, .ref o)] []
  refine v_aload_n (pc := 0) hX dL_failedCommand_0 rfl ?_
  refine v_iconst (v := 0) (pc := 1) hX dL_failedCommand_1 (by decide) ?_
  refine v_aload_n (pc := 2) hX dL_failedCommand_2 rfl ?_
  refine v_callV (z := yX10_failedCommand) (pc := 3) hX dL_failedCommand_3 (c_X10_failedCommand hO m b hb) hb.1 rfl wd_1438 wd_1439 wd_1440 wd_1 wd_1441 ⟨by decide, by decide, (by decide +kernel : (parseMethodDescriptor yX10_failedCommand.desc).map (fun d => d.parameters.length) = some 0)⟩ rfl (Nat.le_of_ble_eq_true rfl) ⟨⟨by decide, by decide⟩, by decide, by decide⟩ (fun E9 m9 h9 => ?_) (fun r9 m9 h9 => ?_)
  · obtain ⟨hx9, n9, hn9, rfl⟩ := h9
    rcases hE E9 hx9 with rfl
    · refine v_catch 0 hX hZ rfl (fun z hz => nomatch hz) (by decide) (by decide) wd_993 wd_870 (fun q => ?_)
      refine v_astore_n (pc := 11) hX dL_failedCommand_11 (by decide) rfl ?_
      refine v_iconst (v := 1) (pc := 12) hX dL_failedCommand_12 (by decide) ?_
      exact v_iret (pc := 13) hX hZ dL_failedCommand_13 (by decide) (by decide) (Or.inr ⟨_, _, n9, hx9, rfl, (by decide), hn9, rfl⟩)
  · obtain ⟨hx9, rfl, h8⟩ := h9
    replace h8 := h8.symm
    subst h8
    show mV g x m _ _ _ [(0, .ref b), (1, .ref o)] [.int (X10_failedCommand_r g m b), .int 0, .ref o]
    refine v_i2l (pc := 6) hX dL_failedCommand_6 ?_
    refine v_last (pc := 7) hX dL_failedCommand_7 hko (j := 0) rfl (by decide) (by decide) ?_
    refine v_goto (tgt := 14) (pc := 8) hX dL_failedCommand_8 (by decide) ?_
    refine v_iconst (v := 0) (pc := 14) hX dL_failedCommand_14 (by decide) ?_
    exact v_iret (pc := 15) hX hZ dL_failedCommand_15 (by decide) (by decide) (Or.inl ⟨hx9, rfl, rfl⟩)
set_option maxHeartbeats 4000000 in
theorem c_L_writePiece {l : Launch} {g : mG} (hO : mO l g) (m : mM) (b : Nat) (a : Int32) (o : Nat) (N : Nat) (hb : SB m b) (hN : gI m 163 (b + 1) = nI N) (hN8 : N ≤ 8) (s0 : SLo m (b + 230)) (hwp : ∀ p, X3_find_r g m (b + 1) a N = some p → wpR m p) (hko : gK (X10_writePiece_m g m b a N) o = some (.inr (4, 1))) (hE : ∀ E, X10_writePiece_x g m b a N = some E → E = "java/util/NoSuchElementException") : mT l g yL_writePiece (.codeWith yL_writePiece cL_writePiece 4 (Option.some FieldType.int) [(0, 9, 12, 33)]) 8 178 14 3412 [.ref b, .int a, .ref o] m (fun u m' => (X10_writePiece_x g m b a N = none ∧ u = some (.int 0) ∧ m' = (sL (X10_writePiece_m g m b a N) o 0 (X10_writePiece_r g m b a N).toInt64)) ∨ ∃ (E : String) (k : Int32) (n9 : Nat), X10_writePiece_x g m b a N = some E ∧ u = some (.int k) ∧ ([("java/util/NoSuchElementException", 1)] : List (String × Int32)).lookup E = some k ∧ gN (X10_writePiece_m g m b a N) ≤ n9 ∧ m' = sN (X10_writePiece_m g m b a N) n9) nX := by
  refine mT_ofH hO (by decide) (Nat.le_of_ble_eq_true rfl) (fun x hX hZ => ?_)
  show mV g x m 0 0 0 [(0, .ref b), (1, .int a), (2, .ref o)] []
  refine v_aload_n (pc := 0) hX dL_writePiece_0 rfl ?_
  refine v_iconst (v := 0) (pc := 1) hX dL_writePiece_1 (by decide) ?_
  refine v_aload_n (pc := 2) hX dL_writePiece_2 rfl ?_
  refine v_iload_n (pc := 3) hX dL_writePiece_3 rfl ?_
  refine v_callV (z := yX10_writePiece) (pc := 4) hX dL_writePiece_4 (c_X10_writePiece hO m b a N hb hN hN8 s0 hwp) hb.1 rfl wd_1446 wd_1447 wd_1448 wd_1 wd_1449 ⟨by decide, by decide, (by decide +kernel : (parseMethodDescriptor yX10_writePiece.desc).map (fun d => d.parameters.length) = some 1)⟩ rfl (Nat.le_of_ble_eq_true rfl) ⟨⟨by decide, by decide⟩, by decide, by decide⟩ (fun E9 m9 h9 => ?_) (fun r9 m9 h9 => ?_)
  · obtain ⟨hx9, n9, hn9, rfl⟩ := h9
    rcases hE E9 hx9 with rfl
    · refine v_catch 0 hX hZ rfl (fun z hz => nomatch hz) (by decide) (by decide) wd_993 wd_870 (fun q => ?_)
      refine v_astore_n (pc := 12) hX dL_writePiece_12 (by decide) rfl ?_
      refine v_iconst (v := 1) (pc := 13) hX dL_writePiece_13 (by decide) ?_
      exact v_iret (pc := 14) hX hZ dL_writePiece_14 (by decide) (by decide) (Or.inr ⟨_, _, n9, hx9, rfl, (by decide), hn9, rfl⟩)
  · obtain ⟨hx9, rfl, h8⟩ := h9
    replace h8 := h8.symm
    subst h8
    show mV g x (X10_writePiece_m g m b a N) _ _ _ [(0, .ref b), (1, .int a), (2, .ref o)] [.int (X10_writePiece_r g m b a N), .int 0, .ref o]
    refine v_i2l (pc := 7) hX dL_writePiece_7 ?_
    refine v_last (pc := 8) hX dL_writePiece_8 hko (j := 0) rfl (by decide) (by decide) ?_
    refine v_goto (tgt := 15) (pc := 9) hX dL_writePiece_9 (by decide) ?_
    refine v_iconst (v := 0) (pc := 15) hX dL_writePiece_15 (by decide) ?_
    exact v_iret (pc := 16) hX hZ dL_writePiece_16 (by decide) (by decide) (Or.inl ⟨hx9, rfl, rfl⟩)
set_option maxHeartbeats 4000000 in
theorem c_L_outputAt {l : Launch} {g : mG} (hO : mO l g) (m : mM) (b : Nat) (a : Int32) (o : Nat)  (hb : SB m b) (s0 : SLo m (b + 230)) (hko : gK m o = some (.inr (4, 1))) (hE : ∀ E, X10_outputAt_x g m b a = some E → E = "java/lang/IndexOutOfBoundsException") : mT l g yL_outputAt (.codeWith yL_outputAt cL_outputAt 4 (Option.some FieldType.int) [(0, 9, 12, 42)]) 7 129 1 6 [.ref b, .int a, .ref o] m (fun u m' => (X10_outputAt_x g m b a = none ∧ u = some (.int 0) ∧ m' = (sL m o 0 (X10_outputAt_r g m b a).toInt64)) ∨ ∃ (E : String) (k : Int32) (n9 : Nat), X10_outputAt_x g m b a = some E ∧ u = some (.int k) ∧ ([("java/lang/IndexOutOfBoundsException", 1)] : List (String × Int32)).lookup E = some k ∧ gN m ≤ n9 ∧ m' = sN m n9) nX := by
  refine mT_ofH hO (by decide) (Nat.le_of_ble_eq_true rfl) (fun x hX hZ => ?_)
  show mV g x m 0 0 0 [(0, .ref b), (1, .int a), (2, .ref o)] []
  refine v_aload_n (pc := 0) hX dL_outputAt_0 rfl ?_
  refine v_iconst (v := 0) (pc := 1) hX dL_outputAt_1 (by decide) ?_
  refine v_aload_n (pc := 2) hX dL_outputAt_2 rfl ?_
  refine v_iload_n (pc := 3) hX dL_outputAt_3 rfl ?_
  refine v_callV (z := yX10_outputAt) (pc := 4) hX dL_outputAt_4 (c_X10_outputAt hO m b a hb s0) hb.1 rfl wd_1460 wd_1461 wd_1462 wd_1 wd_1463 ⟨by decide, by decide, (by decide +kernel : (parseMethodDescriptor yX10_outputAt.desc).map (fun d => d.parameters.length) = some 1)⟩ rfl (Nat.le_of_ble_eq_true rfl) ⟨⟨by decide, by decide⟩, by decide, by decide⟩ (fun E9 m9 h9 => ?_) (fun r9 m9 h9 => ?_)
  · obtain ⟨hx9, n9, hn9, rfl⟩ := h9
    rcases hE E9 hx9 with rfl
    · refine v_catch 0 hX hZ rfl (fun z hz => nomatch hz) (by decide) (by decide) wd_1018 wd_886 (fun q => ?_)
      refine v_astore_n (pc := 12) hX dL_outputAt_12 (by decide) rfl ?_
      refine v_iconst (v := 1) (pc := 13) hX dL_outputAt_13 (by decide) ?_
      exact v_iret (pc := 14) hX hZ dL_outputAt_14 (by decide) (by decide) (Or.inr ⟨_, _, n9, hx9, rfl, (by decide), hn9, rfl⟩)
  · obtain ⟨hx9, rfl, h8⟩ := h9
    replace h8 := h8.symm
    subst h8
    show mV g x m _ _ _ [(0, .ref b), (1, .int a), (2, .ref o)] [.int (X10_outputAt_r g m b a), .int 0, .ref o]
    refine v_i2l (pc := 7) hX dL_outputAt_7 ?_
    refine v_last (pc := 8) hX dL_outputAt_8 hko (j := 0) rfl (by decide) (by decide) ?_
    refine v_goto (tgt := 15) (pc := 9) hX dL_outputAt_9 (by decide) ?_
    refine v_iconst (v := 0) (pc := 15) hX dL_outputAt_15 (by decide) ?_
    exact v_iret (pc := 16) hX hZ dL_outputAt_16 (by decide) (by decide) (Or.inl ⟨hx9, rfl, rfl⟩)
set_option maxHeartbeats 4000000 in
theorem c_L_undo {l : Launch} {g : mG} (hO : mO l g) (m : mM) (b : Nat) (o : Nat) (nx : Nat) (hb : SB m b) (hn : gI m 257 (b + 49) = nI nx) (hn9 : nx < 9) (hko : gK (X10_undo_m g m b nx) o = some (.inr (4, 1))) (hE : ∀ E, X10_undo_x g m b nx = some E → E = "java/lang/IllegalStateException") : mT l g yL_undo (.codeWith yL_undo cL_undo 3 (Option.some FieldType.int) [(0, 8, 11, 15)]) 7 110 1 6 [.ref b, .ref o] m (fun u m' => (X10_undo_x g m b nx = none ∧ u = some (.int 0) ∧ m' = (sL (X10_undo_m g m b nx) o 0 (X10_undo_r g m b nx).toInt64)) ∨ ∃ (E : String) (k : Int32) (n9 : Nat), X10_undo_x g m b nx = some E ∧ u = some (.int k) ∧ ([("java/lang/IllegalStateException", 1)] : List (String × Int32)).lookup E = some k ∧ gN (X10_undo_m g m b nx) ≤ n9 ∧ m' = sN (X10_undo_m g m b nx) n9) nX := by
  refine mT_ofH hO (by decide) (Nat.le_of_ble_eq_true rfl) (fun x hX hZ => ?_)
  show mV g x m 0 0 0 [(0, .ref b), (1, .ref o)] []
  refine v_aload_n (pc := 0) hX dL_undo_0 rfl ?_
  refine v_iconst (v := 0) (pc := 1) hX dL_undo_1 (by decide) ?_
  refine v_aload_n (pc := 2) hX dL_undo_2 rfl ?_
  refine v_callV (z := yX10_undo) (pc := 3) hX dL_undo_3 (c_X10_undo hO m b nx hb hn hn9) hb.1 rfl wd_1478 wd_1479 wd_1480 wd_1 wd_1481 ⟨by decide, by decide, (by decide +kernel : (parseMethodDescriptor yX10_undo.desc).map (fun d => d.parameters.length) = some 0)⟩ rfl (Nat.le_of_ble_eq_true rfl) ⟨⟨by decide, by decide⟩, by decide, by decide⟩ (fun E9 m9 h9 => ?_) (fun r9 m9 h9 => ?_)
  · obtain ⟨hx9, n9, hn9, rfl⟩ := h9
    rcases hE E9 hx9 with rfl
    · refine v_catch 0 hX hZ rfl (fun z hz => nomatch hz) (by decide) (by decide) wd_850 wd_902 (fun q => ?_)
      refine v_astore_n (pc := 11) hX dL_undo_11 (by decide) rfl ?_
      refine v_iconst (v := 1) (pc := 12) hX dL_undo_12 (by decide) ?_
      exact v_iret (pc := 13) hX hZ dL_undo_13 (by decide) (by decide) (Or.inr ⟨_, _, n9, hx9, rfl, (by decide), hn9, rfl⟩)
  · obtain ⟨hx9, rfl, h8⟩ := h9
    replace h8 := h8.symm
    subst h8
    show mV g x (X10_undo_m g m b nx) _ _ _ [(0, .ref b), (1, .ref o)] [.int (X10_undo_r g m b nx), .int 0, .ref o]
    refine v_i2l (pc := 6) hX dL_undo_6 ?_
    refine v_last (pc := 7) hX dL_undo_7 hko (j := 0) rfl (by decide) (by decide) ?_
    refine v_goto (tgt := 14) (pc := 8) hX dL_undo_8 (by decide) ?_
    refine v_iconst (v := 0) (pc := 14) hX dL_undo_14 (by decide) ?_
    exact v_iret (pc := 15) hX hZ dL_undo_15 (by decide) (by decide) (Or.inl ⟨hx9, rfl, rfl⟩)
set_option maxHeartbeats 4000000 in
theorem c_L_restore {l : Launch} {g : mG} (hO : mO l g) (m : mM) (b : Nat)  (hb : SB m b) (hE : ∀ E, X10_restore_x g m b = some E → E = "java/lang/IllegalStateException") : mT l g yL_restore (.codeWith yL_restore cL_restore 2 (Option.some FieldType.int) [(0, 4, 7, 15)]) 7 110 1 6 [.ref b] m (fun u m' => (X10_restore_x g m b = none ∧ u = some (.int 0) ∧ m' = (X10_restore_m g m b)) ∨ ∃ (E : String) (k : Int32) (n9 : Nat), X10_restore_x g m b = some E ∧ u = some (.int k) ∧ ([("java/lang/IllegalStateException", 1)] : List (String × Int32)).lookup E = some k ∧ gN (X10_restore_m g m b) ≤ n9 ∧ m' = sN (X10_restore_m g m b) n9) nX := by
  refine mT_ofH hO (by decide) (Nat.le_of_ble_eq_true rfl) (fun x hX hZ => ?_)
  show mV g x m 0 0 0 [(0, .ref b)] []
  refine v_aload_n (pc := 0) hX dL_restore_0 rfl ?_
  refine v_callV (z := yX10_restore) (pc := 1) hX dL_restore_1 (c_X10_restore hO m b hb) hb.1 rfl wd_1491 wd_1492 wd_1493 wd_1 wd_1494 ⟨by decide, by decide, (by decide +kernel : (parseMethodDescriptor yX10_restore.desc).map (fun d => d.parameters.length) = some 0)⟩ rfl (Nat.le_of_ble_eq_true rfl) ⟨⟨by decide, by decide⟩, by decide, by decide⟩ (fun E9 m9 h9 => ?_) (fun r9 m9 h9 => ?_)
  · obtain ⟨hx9, n9, hn9, rfl⟩ := h9
    rcases hE E9 hx9 with rfl
    · refine v_catch 0 hX hZ rfl (fun z hz => nomatch hz) (by decide) (by decide) wd_850 wd_902 (fun q => ?_)
      refine v_astore_n (pc := 7) hX dL_restore_7 (by decide) rfl ?_
      refine v_iconst (v := 1) (pc := 8) hX dL_restore_8 (by decide) ?_
      exact v_iret (pc := 9) hX hZ dL_restore_9 (by decide) (by decide) (Or.inr ⟨_, _, n9, hx9, rfl, (by decide), hn9, rfl⟩)
  · obtain ⟨hx9, rfl, h8⟩ := h9
    replace h8 := h8.symm
    subst h8
    show mV g x (X10_restore_m g m b) _ _ _ [(0, .ref b)] []
    refine v_goto (tgt := 10) (pc := 4) hX dL_restore_4 (by decide) ?_
    refine v_iconst (v := 0) (pc := 10) hX dL_restore_10 (by decide) ?_
    exact v_iret (pc := 11) hX hZ dL_restore_11 (by decide) (by decide) (Or.inl ⟨hx9, rfl, rfl⟩)
