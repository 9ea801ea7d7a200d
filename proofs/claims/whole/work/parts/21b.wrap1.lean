/-! THE LAW'S OWN METHODS -/
set_option maxHeartbeats 4000000 in
theorem c_L_addCoal {l : Launch} {g : mG} (hO : mO l g) (m : mM) (b : Nat) (a : Int32) (o : Nat) (nx : Nat) (hb : SB m b) (hn : gI m 257 (b + 49) = nI nx) (hn9 : nx < 9) (hko : gK (X10_addCoal_m g m b a nx) o = some (.inr (4, 1))) (hE : ∀ E, X10_addCoal_x g m b a nx = some E → E = "java/lang/IllegalArgumentException" ∨ E = "java/lang/IllegalStateException") : mT l g yL_addCoal (.codeWith yL_addCoal cL_addCoal 4 (Option.some FieldType.int) [(0, 9, 12, 13), (0, 9, 15, 15)]) 8 132 1 6 [.ref b, .int a, .ref o] m (fun u m' => (X10_addCoal_x g m b a nx = none ∧ u = some (.int 0) ∧ m' = (sL (X10_addCoal_m g m b a nx) o 0 (X10_addCoal_r g m b a nx).toInt64)) ∨ ∃ (E : String) (k : Int32) (n9 : Nat), X10_addCoal_x g m b a nx = some E ∧ u = some (.int k) ∧ ([("java/lang/IllegalArgumentException", 1), ("java/lang/IllegalStateException", 2)] : List (String × Int32)).lookup E = some k ∧ gN (X10_addCoal_m g m b a nx) ≤ n9 ∧ m' = sN (X10_addCoal_m g m b a nx) n9) nX := by
  refine mT_ofH hO (by decide) (Nat.le_of_ble_eq_true rfl) (fun x hX hZ => ?_)
  show mV g x m 0 0 0 [(0, .ref b), (1, .int a), (2, .ref o)] []
  refine v_aload_n (pc := 0) hX dL_addCoal_0 rfl ?_
  refine v_iconst (v := 0) (pc := 1) hX dL_addCoal_1 (by decide) ?_
  refine v_aload_n (pc := 2) hX dL_addCoal_2 rfl ?_
  refine v_iload_n (pc := 3) hX dL_addCoal_3 rfl ?_
  refine v_callV (z := yX10_addCoal) (pc := 4) hX dL_addCoal_4 (c_X10_addCoal hO m b a nx hb hn hn9) hb.1 rfl wd_851 wd_852 wd_853 wd_1 wd_854 ⟨by decide, by decide, (by decide +kernel : (parseMethodDescriptor yX10_addCoal.desc).map (fun d => d.parameters.length) = some 1)⟩ rfl (Nat.le_of_ble_eq_true rfl) ⟨⟨by decide, by decide⟩, by decide, by decide⟩ (fun E9 m9 h9 => ?_) (fun r9 m9 h9 => ?_)
  · obtain ⟨hx9, n9, hn9, rfl⟩ := h9
    rcases hE E9 hx9 with rfl | rfl
    · refine v_catch 0 hX hZ rfl (fun z hz => nomatch hz) (by decide) (by decide) wd_849 wd_664 (fun q => ?_)
      refine v_astore_n (pc := 12) hX dL_addCoal_12 (by decide) rfl ?_
      refine v_iconst (v := 1) (pc := 13) hX dL_addCoal_13 (by decide) ?_
      exact v_iret (pc := 14) hX hZ dL_addCoal_14 (by decide) (by decide) (Or.inr ⟨_, _, n9, hx9, rfl, (by decide), hn9, rfl⟩)
    · refine v_catch 1 hX hZ rfl (fun z hz => by
          simp only [List.take, List.mem_cons, List.not_mem_nil, or_false] at hz
          rcases hz with rfl
          · exact ⟨by decide, _, wd_849, nc_SA hO⟩) (by decide) (by decide) wd_850 wd_902 (fun q => ?_)
      refine v_astore_n (pc := 15) hX dL_addCoal_15 (by decide) rfl ?_
      refine v_iconst (v := 2) (pc := 16) hX dL_addCoal_16 (by decide) ?_
      exact v_iret (pc := 17) hX hZ dL_addCoal_17 (by decide) (by decide) (Or.inr ⟨_, _, n9, hx9, rfl, (by decide), hn9, rfl⟩)
  · obtain ⟨hx9, rfl, h8⟩ := h9
    replace h8 := h8.symm
    subst h8
    show mV g x (X10_addCoal_m g m b a nx) _ _ _ [(0, .ref b), (1, .int a), (2, .ref o)] [.int (X10_addCoal_r g m b a nx), .int 0, .ref o]
    refine v_i2l (pc := 7) hX dL_addCoal_7 ?_
    refine v_last (pc := 8) hX dL_addCoal_8 hko (j := 0) rfl (by decide) (by decide) ?_
    refine v_goto (tgt := 18) (pc := 9) hX dL_addCoal_9 (by decide) ?_
    refine v_iconst (v := 0) (pc := 18) hX dL_addCoal_18 (by decide) ?_
    exact v_iret (pc := 19) hX hZ dL_addCoal_19 (by decide) (by decide) (Or.inl ⟨hx9, rfl, rfl⟩)
set_option maxHeartbeats 4000000 in
theorem c_L_setBellows {l : Launch} {g : mG} (hO : mO l g) (m : mM) (b : Nat) (a : Int32) (o : Nat) (nx : Nat) (hb : SB m b) (hn : gI m 257 (b + 49) = nI nx) (hn9 : nx < 9) (hko : gK (X10_setBellows_m g m b a nx) o = some (.inr (4, 1))) (hE : ∀ E, X10_setBellows_x g m b a nx = some E → E = "java/lang/IllegalArgumentException") : mT l g yL_setBellows (.codeWith yL_setBellows cL_setBellows 4 (Option.some FieldType.int) [(0, 9, 12, 13)]) 8 132 1 6 [.ref b, .int a, .ref o] m (fun u m' => (X10_setBellows_x g m b a nx = none ∧ u = some (.int 0) ∧ m' = (sL (X10_setBellows_m g m b a nx) o 0 (X10_setBellows_r g m b a nx).toInt64)) ∨ ∃ (E : String) (k : Int32) (n9 : Nat), X10_setBellows_x g m b a nx = some E ∧ u = some (.int k) ∧ ([("java/lang/IllegalArgumentException", 1)] : List (String × Int32)).lookup E = some k ∧ gN (X10_setBellows_m g m b a nx) ≤ n9 ∧ m' = sN (X10_setBellows_m g m b a nx) n9) nX := by
  refine mT_ofH hO (by decide) (Nat.le_of_ble_eq_true rfl) (fun x hX hZ => ?_)
  show mV g x m 0 0 0 [(0, .ref b), (1, .int a), (2, .ref o)] []
  refine v_aload_n (pc := 0) hX dL_setBellows_0 rfl ?_
  refine v_iconst (v := 0) (pc := 1) hX dL_setBellows_1 (by decide) ?_
  refine v_aload_n (pc := 2) hX dL_setBellows_2 rfl ?_
  refine v_iload_n (pc := 3) hX dL_setBellows_3 rfl ?_
  refine v_callV (z := yX10_setBellows) (pc := 4) hX dL_setBellows_4 (c_X10_setBellows hO m b a nx hb hn hn9) hb.1 rfl wd_940 wd_941 wd_942 wd_1 wd_943 ⟨by decide, by decide, (by decide +kernel : (parseMethodDescriptor yX10_setBellows.desc).map (fun d => d.parameters.length) = some 1)⟩ rfl (Nat.le_of_ble_eq_true rfl) ⟨⟨by decide, by decide⟩, by decide, by decide⟩ (fun E9 m9 h9 => ?_) (fun r9 m9 h9 => ?_)
  · obtain ⟨hx9, n9, hn9, rfl⟩ := h9
    rcases hE E9 hx9 with rfl
    · refine v_catch 0 hX hZ rfl (fun z hz => nomatch hz) (by decide) (by decide) wd_849 wd_664 (fun q => ?_)
      refine v_astore_n (pc := 12) hX dL_setBellows_12 (by decide) rfl ?_
      refine v_iconst (v := 1) (pc := 13) hX dL_setBellows_13 (by decide) ?_
      exact v_iret (pc := 14) hX hZ dL_setBellows_14 (by decide) (by decide) (Or.inr ⟨_, _, n9, hx9, rfl, (by decide), hn9, rfl⟩)
  · obtain ⟨hx9, rfl, h8⟩ := h9
    replace h8 := h8.symm
    subst h8
    show mV g x (X10_setBellows_m g m b a nx) _ _ _ [(0, .ref b), (1, .int a), (2, .ref o)] [.int (X10_setBellows_r g m b a nx), .int 0, .ref o]
    refine v_i2l (pc := 7) hX dL_setBellows_7 ?_
    refine v_last (pc := 8) hX dL_setBellows_8 hko (j := 0) rfl (by decide) (by decide) ?_
    refine v_goto (tgt := 15) (pc := 9) hX dL_setBellows_9 (by decide) ?_
    refine v_iconst (v := 0) (pc := 15) hX dL_setBellows_15 (by decide) ?_
    exact v_iret (pc := 16) hX hZ dL_setBellows_16 (by decide) (by decide) (Or.inl ⟨hx9, rfl, rfl⟩)
set_option maxHeartbeats 4000000 in
theorem c_L_advance {l : Launch} {g : mG} (hO : mO l g) (m : mM) (b : Nat) (a : Int32) (o : Nat) (N : Nat) (nx : Nat) (hb : SB m b) (hN : gI m 163 (b + 1) = nI N) (hN8 : N ≤ 8) (hn : gI m 257 (b + 49) = nI nx) (hn9 : nx < 9) (hko : gK (X10_advance_m g m b a N nx) o = some (.inr (4, 1))) (hE : ∀ E, X10_advance_x g m b a N nx = some E → E = "java/lang/IllegalArgumentException") : mT l g yL_advance (.codeWith yL_advance cL_advance 4 (Option.some FieldType.int) [(0, 9, 12, 13)]) 8 132 1 6 [.ref b, .int a, .ref o] m (fun u m' => (X10_advance_x g m b a N nx = none ∧ u = some (.int 0) ∧ m' = (sL (X10_advance_m g m b a N nx) o 0 (X10_advance_r g m b a N nx).toInt64)) ∨ ∃ (E : String) (k : Int32) (n9 : Nat), X10_advance_x g m b a N nx = some E ∧ u = some (.int k) ∧ ([("java/lang/IllegalArgumentException", 1)] : List (String × Int32)).lookup E = some k ∧ gN (X10_advance_m g m b a N nx) ≤ n9 ∧ m' = sN (X10_advance_m g m b a N nx) n9) nX := by
  refine mT_ofH hO (by decide) (Nat.le_of_ble_eq_true rfl) (fun x hX hZ => ?_)
  show mV g x m 0 0 0 [(0, .ref b), (1, .int a), (2, .ref o)] []
  refine v_aload_n (pc := 0) hX dL_advance_0 rfl ?_
  refine v_iconst (v := 0) (pc := 1) hX dL_advance_1 (by decide) ?_
  refine v_aload_n (pc := 2) hX dL_advance_2 rfl ?_
  refine v_iload_n (pc := 3) hX dL_advance_3 rfl ?_
  refine v_callV (z := yX10_advance) (pc := 4) hX dL_advance_4 (c_X10_advance hO m b a N nx hb hN hN8 hn hn9) hb.1 rfl wd_951 wd_952 wd_953 wd_1 wd_954 ⟨by decide, by decide, (by decide +kernel : (parseMethodDescriptor yX10_advance.desc).map (fun d => d.parameters.length) = some 1)⟩ rfl (Nat.le_of_ble_eq_true rfl) ⟨⟨by decide, by decide⟩, by decide, by decide⟩ (fun E9 m9 h9 => ?_) (fun r9 m9 h9 => ?_)
  · obtain ⟨hx9, n9, hn9, rfl⟩ := h9
    rcases hE E9 hx9 with rfl
    · refine v_catch 0 hX hZ rfl (fun z hz => nomatch hz) (by decide) (by decide) wd_849 wd_664 (fun q => ?_)
      refine v_astore_n (pc := 12) hX dL_advance_12 (by decide) rfl ?_
      refine v_iconst (v := 1) (pc := 13) hX dL_advance_13 (by decide) ?_
      exact v_iret (pc := 14) hX hZ dL_advance_14 (by decide) (by decide) (Or.inr ⟨_, _, n9, hx9, rfl, (by decide), hn9, rfl⟩)
  · obtain ⟨hx9, rfl, h8⟩ := h9
    replace h8 := h8.symm
    subst h8
    show mV g x (X10_advance_m g m b a N nx) _ _ _ [(0, .ref b), (1, .int a), (2, .ref o)] [.int (X10_advance_r g m b a N nx), .int 0, .ref o]
    refine v_i2l (pc := 7) hX dL_advance_7 ?_
    refine v_last (pc := 8) hX dL_advance_8 hko (j := 0) rfl (by decide) (by decide) ?_
    refine v_goto (tgt := 15) (pc := 9) hX dL_advance_9 (by decide) ?_
    refine v_iconst (v := 0) (pc := 15) hX dL_advance_15 (by decide) ?_
    exact v_iret (pc := 16) hX hZ dL_advance_16 (by decide) (by decide) (Or.inl ⟨hx9, rfl, rfl⟩)
set_option maxHeartbeats 4000000 in
theorem c_L_addPiece {l : Launch} {g : mG} (hO : mO l g) (m : mM) (b : Nat) (a : Int32) (o : Nat) (N : Nat) (nx : Nat) (hb : SB m b) (hN : gI m 163 (b + 1) = nI N) (hN8 : N ≤ 8) (hn : gI m 257 (b + 49) = nI nx) (hn9 : nx < 9) (hko : gK (X10_addPiece_m g m b a N nx) o = some (.inr (4, 1))) (hE : ∀ E, X10_addPiece_x g m b a N nx = some E → E = "java/lang/IllegalArgumentException" ∨ E = "java/lang/IllegalStateException") : mT l g yL_addPiece (.codeWith yL_addPiece cL_addPiece 4 (Option.some FieldType.int) [(0, 9, 12, 13), (0, 9, 15, 15)]) 8 132 1 6 [.ref b, .int a, .ref o] m (fun u m' => (X10_addPiece_x g m b a N nx = none ∧ u = some (.int 0) ∧ m' = (sL (X10_addPiece_m g m b a N nx) o 0 (X10_addPiece_r g m b a N nx).toInt64)) ∨ ∃ (E : String) (k : Int32) (n9 : Nat), X10_addPiece_x g m b a N nx = some E ∧ u = some (.int k) ∧ ([("java/lang/IllegalArgumentException", 1), ("java/lang/IllegalStateException", 2)] : List (String × Int32)).lookup E = some k ∧ gN (X10_addPiece_m g m b a N nx) ≤ n9 ∧ m' = sN (X10_addPiece_m g m b a N nx) n9) nX := by
  refine mT_ofH hO (by decide) (Nat.le_of_ble_eq_true rfl) (fun x hX hZ => ?_)
  show mV g x m 0 0 0 [(0, .ref b), (1, .int a), (2, .ref o)] []
  refine v_aload_n (pc := 0) hX dL_addPiece_0 rfl ?_
  refine v_iconst (v := 0) (pc := 1) hX dL_addPiece_1 (by decide) ?_
  refine v_aload_n (pc := 2) hX dL_addPiece_2 rfl ?_
  refine v_iload_n (pc := 3) hX dL_addPiece_3 rfl ?_
  refine v_callV (z := yX10_addPiece) (pc := 4) hX dL_addPiece_4 (c_X10_addPiece hO m b a N nx hb hN hN8 hn hn9) hb.1 rfl wd_963 wd_964 wd_965 wd_1 wd_966 ⟨by decide, by decide, (by decide +kernel : (parseMethodDescriptor yX10_addPiece.desc).map (fun d => d.parameters.length) = some 1)⟩ rfl (Nat.le_of_ble_eq_true rfl) ⟨⟨by decide, by decide⟩, by decide, by decide⟩ (fun E9 m9 h9 => ?_) (fun r9 m9 h9 => ?_)
  · obtain ⟨hx9, n9, hn9, rfl⟩ := h9
    rcases hE E9 hx9 with rfl | rfl
    · refine v_catch 0 hX hZ rfl (fun z hz => nomatch hz) (by decide) (by decide) wd_849 wd_664 (fun q => ?_)
      refine v_astore_n (pc := 12) hX dL_addPiece_12 (by decide) rfl ?_
      refine v_iconst (v := 1) (pc := 13) hX dL_addPiece_13 (by decide) ?_
      exact v_iret (pc := 14) hX hZ dL_addPiece_14 (by decide) (by decide) (Or.inr ⟨_, _, n9, hx9, rfl, (by decide), hn9, rfl⟩)
    · refine v_catch 1 hX hZ rfl (fun z hz => by
          simp only [List.take, List.mem_cons, List.not_mem_nil, or_false] at hz
          rcases hz with rfl
          · exact ⟨by decide, _, wd_849, nc_SA hO⟩) (by decide) (by decide) wd_850 wd_902 (fun q => ?_)
      refine v_astore_n (pc := 15) hX dL_addPiece_15 (by decide) rfl ?_
      refine v_iconst (v := 2) (pc := 16) hX dL_addPiece_16 (by decide) ?_
      exact v_iret (pc := 17) hX hZ dL_addPiece_17 (by decide) (by decide) (Or.inr ⟨_, _, n9, hx9, rfl, (by decide), hn9, rfl⟩)
  · obtain ⟨hx9, rfl, h8⟩ := h9
    replace h8 := h8.symm
    subst h8
    show mV g x (X10_addPiece_m g m b a N nx) _ _ _ [(0, .ref b), (1, .int a), (2, .ref o)] [.int (X10_addPiece_r g m b a N nx), .int 0, .ref o]
    refine v_i2l (pc := 7) hX dL_addPiece_7 ?_
    refine v_last (pc := 8) hX dL_addPiece_8 hko (j := 0) rfl (by decide) (by decide) ?_
    refine v_goto (tgt := 18) (pc := 9) hX dL_addPiece_9 (by decide) ?_
    refine v_iconst (v := 0) (pc := 18) hX dL_addPiece_18 (by decide) ?_
    exact v_iret (pc := 19) hX hZ dL_addPiece_19 (by decide) (by decide) (Or.inl ⟨hx9, rfl, rfl⟩)
set_option maxHeartbeats 4000000 in
theorem c_L_addHammer {l : Launch} {g : mG} (hO : mO l g) (m : mM) (b : Nat) (a : Int32) (o : Nat) (H : Nat) (nx : Nat) (hb : SB m b) (hH : gI m 164 (b + 1) = nI H) (hH4 : H ≤ 4) (hn : gI m 257 (b + 49) = nI nx) (hn9 : nx < 9) (hko : gK (X10_addHammer_m g m b a H nx) o = some (.inr (4, 1))) (hE : ∀ E, X10_addHammer_x g m b a H nx = some E → E = "java/lang/IllegalArgumentException" ∨ E = "java/lang/IllegalStateException") : mT l g yL_addHammer (.codeWith yL_addHammer cL_addHammer 4 (Option.some FieldType.int) [(0, 9, 12, 13), (0, 9, 15, 15)]) 8 132 1 6 [.ref b, .int a, .ref o] m (fun u m' => (X10_addHammer_x g m b a H nx = none ∧ u = some (.int 0) ∧ m' = (sL (X10_addHammer_m g m b a H nx) o 0 (X10_addHammer_r g m b a H nx).toInt64)) ∨ ∃ (E : String) (k : Int32) (n9 : Nat), X10_addHammer_x g m b a H nx = some E ∧ u = some (.int k) ∧ ([("java/lang/IllegalArgumentException", 1), ("java/lang/IllegalStateException", 2)] : List (String × Int32)).lookup E = some k ∧ gN (X10_addHammer_m g m b a H nx) ≤ n9 ∧ m' = sN (X10_addHammer_m g m b a H nx) n9) nX := by
  refine mT_ofH hO (by decide) (Nat.le_of_ble_eq_true rfl) (fun x hX hZ => ?_)
  show mV g x m 0 0 0 [(0, .ref b), (1, .int a), (2, .ref o)] []
  refine v_aload_n (pc := 0) hX dL_addHammer_0 rfl ?_
  refine v_iconst (v := 0) (pc := 1) hX dL_addHammer_1 (by decide) ?_
  refine v_aload_n (pc := 2) hX dL_addHammer_2 rfl ?_
  refine v_iload_n (pc := 3) hX dL_addHammer_3 rfl ?_
  refine v_callV (z := yX10_addHammer) (pc := 4) hX dL_addHammer_4 (c_X10_addHammer hO m b a H nx hb hH hH4 hn hn9) hb.1 rfl wd_978 wd_979 wd_980 wd_1 wd_981 ⟨by decide, by decide, (by decide +kernel : (parseMethodDescriptor yX10_addHammer.desc).map (fun d => d.parameters.length) = some 1)⟩ rfl (Nat.le_of_ble_eq_true rfl) ⟨⟨by decide, by decide⟩, by decide, by decide⟩ (fun E9 m9 h9 => ?_) (fun r9 m9 h9 => ?_)
  · obtain ⟨hx9, n9, hn9, rfl⟩ := h9
    rcases hE E9 hx9 with rfl | rfl
    · refine v_catch 0 hX hZ rfl (fun z hz => nomatch hz) (by decide) (by decide) wd_849 wd_664 (fun q => ?_)
      refine v_astore_n (pc := 12) hX dL_addHammer_12 (by decide) rfl ?_
      refine v_iconst (v := 1) (pc := 13) hX dL_addHammer_13 (by decide) ?_
      exact v_iret (pc := 14) hX hZ dL_addHammer_14 (by decide) (by decide) (Or.inr ⟨_, _, n9, hx9, rfl, (by decide), hn9, rfl⟩)
    · refine v_catch 1 hX hZ rfl (fun z hz => by
          simp only [List.take, List.mem_cons, List.not_mem_nil, or_false] at hz
          rcases hz with rfl
          · exact ⟨by decide, _, wd_849, nc_SA hO⟩) (by decide) (by decide) wd_850 wd_902 (fun q => ?_)
      refine v_astore_n (pc := 15) hX dL_addHammer_15 (by decide) rfl ?_
      refine v_iconst (v := 2) (pc := 16) hX dL_addHammer_16 (by decide) ?_
      exact v_iret (pc := 17) hX hZ dL_addHammer_17 (by decide) (by decide) (Or.inr ⟨_, _, n9, hx9, rfl, (by decide), hn9, rfl⟩)
  · obtain ⟨hx9, rfl, h8⟩ := h9
    replace h8 := h8.symm
    subst h8
    show mV g x (X10_addHammer_m g m b a H nx) _ _ _ [(0, .ref b), (1, .int a), (2, .ref o)] [.int (X10_addHammer_r g m b a H nx), .int 0, .ref o]
    refine v_i2l (pc := 7) hX dL_addHammer_7 ?_
    refine v_last (pc := 8) hX dL_addHammer_8 hko (j := 0) rfl (by decide) (by decide) ?_
    refine v_goto (tgt := 18) (pc := 9) hX dL_addHammer_9 (by decide) ?_
    refine v_iconst (v := 0) (pc := 18) hX dL_addHammer_18 (by decide) ?_
    exact v_iret (pc := 19) hX hZ dL_addHammer_19 (by decide) (by decide) (Or.inl ⟨hx9, rfl, rfl⟩)
set_option maxHeartbeats 4000000 in
theorem c_L_putIn {l : Launch} {g : mG} (hO : mO l g) (m : mM) (b : Nat) (a : Int32) (o : Nat) (N : Nat) (nx : Nat) (hb : SB m b) (hN : gI m 163 (b + 1) = nI N) (hN8 : N ≤ 8) (hn : gI m 257 (b + 49) = nI nx) (hn9 : nx < 9) (hko : gK (X10_putIn_m g m b a N nx) o = some (.inr (4, 1))) (hE : ∀ E, X10_putIn_x g m b a N nx = some E → E = "java/util/NoSuchElementException" ∨ E = "java/lang/IllegalStateException") : mT l g yL_putIn (.codeWith yL_putIn cL_putIn 4 (Option.some FieldType.int) [(0, 9, 12, 33), (0, 9, 15, 15)]) 8 132 1 6 [.ref b, .int a, .ref o] m (fun u m' => (X10_putIn_x g m b a N nx = none ∧ u = some (.int 0) ∧ m' = (sL (X10_putIn_m g m b a N nx) o 0 (X10_putIn_r g m b a N nx).toInt64)) ∨ ∃ (E : String) (k : Int32) (n9 : Nat), X10_putIn_x g m b a N nx = some E ∧ u = some (.int k) ∧ ([("java/util/NoSuchElementException", 1), ("java/lang/IllegalStateException", 2)] : List (String × Int32)).lookup E = some k ∧ gN (X10_putIn_m g m b a N nx) ≤ n9 ∧ m' = sN (X10_putIn_m g m b a N nx) n9) nX := by
  refine mT_ofH hO (by decide) (Nat.le_of_ble_eq_true rfl) (fun x hX hZ => ?_)
  show mV g x m 0 0 0 [(0, .ref b), (1, .int a), (2, .ref o)] []
  refine v_aload_n (pc := 0) hX dL_putIn_0 rfl ?_
  refine v_iconst (v := 0) (pc := 1) hX dL_putIn_1 (by decide) ?_
  refine v_aload_n (pc := 2) hX dL_putIn_2 rfl ?_
  refine v_iload_n (pc := 3) hX dL_putIn_3 rfl ?_
  refine v_callV (z := yX10_putIn) (pc := 4) hX dL_putIn_4 (c_X10_putIn hO m b a N nx hb hN hN8 hn hn9) hb.1 rfl wd_994 wd_995 wd_996 wd_1 wd_997 ⟨by decide, by decide, (by decide +kernel : (parseMethodDescriptor yX10_putIn.desc).map (fun d => d.parameters.length) = some 1)⟩ rfl (Nat.le_of_ble_eq_true rfl) ⟨⟨by decide, by decide⟩, by decide, by decide⟩ (fun E9 m9 h9 => ?_) (fun r9 m9 h9 => ?_)
  · obtain ⟨hx9, n9, hn9, rfl⟩ := h9
    rcases hE E9 hx9 with rfl | rfl
    · refine v_catch 0 hX hZ rfl (fun z hz => nomatch hz) (by decide) (by decide) wd_993 wd_870 (fun q => ?_)
      refine v_astore_n (pc := 12) hX dL_putIn_12 (by decide) rfl ?_
      refine v_iconst (v := 1) (pc := 13) hX dL_putIn_13 (by decide) ?_
      exact v_iret (pc := 14) hX hZ dL_putIn_14 (by decide) (by decide) (Or.inr ⟨_, _, n9, hx9, rfl, (by decide), hn9, rfl⟩)
    · refine v_catch 1 hX hZ rfl (fun z hz => by
          simp only [List.take, List.mem_cons, List.not_mem_nil, or_false] at hz
          rcases hz with rfl
          · exact ⟨by decide, _, wd_993, nc_SN hO⟩) (by decide) (by decide) wd_850 wd_902 (fun q => ?_)
      refine v_astore_n (pc := 15) hX dL_putIn_15 (by decide) rfl ?_
      refine v_iconst (v := 2) (pc := 16) hX dL_putIn_16 (by decide) ?_
      exact v_iret (pc := 17) hX hZ dL_putIn_17 (by decide) (by decide) (Or.inr ⟨_, _, n9, hx9, rfl, (by decide), hn9, rfl⟩)
  · obtain ⟨hx9, rfl, h8⟩ := h9
    replace h8 := h8.symm
    subst h8
    show mV g x (X10_putIn_m g m b a N nx) _ _ _ [(0, .ref b), (1, .int a), (2, .ref o)] [.int (X10_putIn_r g m b a N nx), .int 0, .ref o]
    refine v_i2l (pc := 7) hX dL_putIn_7 ?_
    refine v_last (pc := 8) hX dL_putIn_8 hko (j := 0) rfl (by decide) (by decide) ?_
    refine v_goto (tgt := 18) (pc := 9) hX dL_putIn_9 (by decide) ?_
    refine v_iconst (v := 0) (pc := 18) hX dL_putIn_18 (by decide) ?_
    exact v_iret (pc := 19) hX hZ dL_putIn_19 (by decide) (by decide) (Or.inl ⟨hx9, rfl, rfl⟩)
set_option maxHeartbeats 4000000 in
theorem c_L_takeOut {l : Launch} {g : mG} (hO : mO l g) (m : mM) (b : Nat) (a : Int32) (o : Nat) (N : Nat) (nx : Nat) (hb : SB m b) (hN : gI m 163 (b + 1) = nI N) (hN8 : N ≤ 8) (hn : gI m 257 (b + 49) = nI nx) (hn9 : nx < 9) (hko : gK (X10_takeOut_m g m b a N nx) o = some (.inr (4, 1))) (hE : ∀ E, X10_takeOut_x g m b a N nx = some E → E = "java/util/NoSuchElementException" ∨ E = "java/lang/IllegalStateException") : mT l g yL_takeOut (.codeWith yL_takeOut cL_takeOut 4 (Option.some FieldType.int) [(0, 9, 12, 33), (0, 9, 15, 15)]) 8 132 1 6 [.ref b, .int a, .ref o] m (fun u m' => (X10_takeOut_x g m b a N nx = none ∧ u = some (.int 0) ∧ m' = (sL (X10_takeOut_m g m b a N nx) o 0 (X10_takeOut_r g m b a N nx).toInt64)) ∨ ∃ (E : String) (k : Int32) (n9 : Nat), X10_takeOut_x g m b a N nx = some E ∧ u = some (.int k) ∧ ([("java/util/NoSuchElementException", 1), ("java/lang/IllegalStateException", 2)] : List (String × Int32)).lookup E = some k ∧ gN (X10_takeOut_m g m b a N nx) ≤ n9 ∧ m' = sN (X10_takeOut_m g m b a N nx) n9) nX := by
  refine mT_ofH hO (by decide) (Nat.le_of_ble_eq_true rfl) (fun x hX hZ => ?_)
  show mV g x m 0 0 0 [(0, .ref b), (1, .int a), (2, .ref o)] []
  refine v_aload_n (pc := 0) hX dL_takeOut_0 rfl ?_
  refine v_iconst (v := 0) (pc := 1) hX dL_takeOut_1 (by decide) ?_
  refine v_aload_n (pc := 2) hX dL_takeOut_2 rfl ?_
  refine v_iload_n (pc := 3) hX dL_takeOut_3 rfl ?_
  refine v_callV (z := yX10_takeOut) (pc := 4) hX dL_takeOut_4 (c_X10_takeOut hO m b a N nx hb hN hN8 hn hn9) hb.1 rfl wd_1007 wd_1008 wd_1009 wd_1 wd_1010 ⟨by decide, by decide, (by decide +kernel : (parseMethodDescriptor yX10_takeOut.desc).map (fun d => d.parameters.length) = some 1)⟩ rfl (Nat.le_of_ble_eq_true rfl) ⟨⟨by decide, by decide⟩, by decide, by decide⟩ (fun E9 m9 h9 => ?_) (fun r9 m9 h9 => ?_)
  · obtain ⟨hx9, n9, hn9, rfl⟩ := h9
    rcases hE E9 hx9 with rfl | rfl
    · refine v_catch 0 hX hZ rfl (fun z hz => nomatch hz) (by decide) (by decide) wd_993 wd_870 (fun q => ?_)
      refine v_astore_n (pc := 12) hX dL_takeOut_12 (by decide) rfl ?_
      refine v_iconst (v := 1) (pc := 13) hX dL_takeOut_13 (by decide) ?_
      exact v_iret (pc := 14) hX hZ dL_takeOut_14 (by decide) (by decide) (Or.inr ⟨_, _, n9, hx9, rfl, (by decide), hn9, rfl⟩)
    · refine v_catch 1 hX hZ rfl (fun z hz => by
          simp only [List.take, List.mem_cons, List.not_mem_nil, or_false] at hz
          rcases hz with rfl
          · exact ⟨by decide, _, wd_993, nc_SN hO⟩) (by decide) (by decide) wd_850 wd_902 (fun q => ?_)
      refine v_astore_n (pc := 15) hX dL_takeOut_15 (by decide) rfl ?_
      refine v_iconst (v := 2) (pc := 16) hX dL_takeOut_16 (by decide) ?_
      exact v_iret (pc := 17) hX hZ dL_takeOut_17 (by decide) (by decide) (Or.inr ⟨_, _, n9, hx9, rfl, (by decide), hn9, rfl⟩)
  · obtain ⟨hx9, rfl, h8⟩ := h9
    replace h8 := h8.symm
    subst h8
    show mV g x (X10_takeOut_m g m b a N nx) _ _ _ [(0, .ref b), (1, .int a), (2, .ref o)] [.int (X10_takeOut_r g m b a N nx), .int 0, .ref o]
    refine v_i2l (pc := 7) hX dL_takeOut_7 ?_
    refine v_last (pc := 8) hX dL_takeOut_8 hko (j := 0) rfl (by decide) (by decide) ?_
    refine v_goto (tgt := 18) (pc := 9) hX dL_takeOut_9 (by decide) ?_
    refine v_iconst (v := 0) (pc := 18) hX dL_takeOut_18 (by decide) ?_
    exact v_iret (pc := 19) hX hZ dL_takeOut_19 (by decide) (by decide) (Or.inl ⟨hx9, rfl, rfl⟩)
set_option maxHeartbeats 4000000 in
theorem c_L_hammer {l : Launch} {g : mG} (hO : mO l g) (m : mM) (b : Nat) (a : Int32) (a2 : Int32) (o : Nat) (N : Nat) (H : Nat) (nx : Nat) (hb : SB m b) (hN : gI m 163 (b + 1) = nI N) (hN8 : N ≤ 8) (hH : gI m 164 (b + 1) = nI H) (hH4 : H ≤ 4) (hn : gI m 257 (b + 49) = nI nx) (hn9 : nx < 9) (hko : gK (X10_hammer_m g m b a a2 N H nx) o = some (.inr (4, 1))) (hE : ∀ E, X10_hammer_x g m b a a2 N H nx = some E → E = "java/util/NoSuchElementException" ∨ E = "java/lang/IndexOutOfBoundsException" ∨ E = "java/lang/IllegalStateException" ∨ E = "java/lang/UnsupportedOperationException") : mT l g yL_hammer (.codeWith yL_hammer cL_hammer 5 (Option.some FieldType.int) [(0, 10, 13, 33), (0, 10, 17, 42), (0, 10, 21, 15), (0, 10, 25, 44)]) 8 133 1 6 [.ref b, .int a, .int a2, .ref o] m (fun u m' => (X10_hammer_x g m b a a2 N H nx = none ∧ u = some (.int 0) ∧ m' = (sL (X10_hammer_m g m b a a2 N H nx) o 0 (X10_hammer_r g m b a a2 N H nx).toInt64)) ∨ ∃ (E : String) (k : Int32) (n9 : Nat), X10_hammer_x g m b a a2 N H nx = some E ∧ u = some (.int k) ∧ ([("java/util/NoSuchElementException", 1), ("java/lang/IndexOutOfBoundsException", 2), ("java/lang/IllegalStateException", 3), ("java/lang/UnsupportedOperationException", 4)] : List (String × Int32)).lookup E = some k ∧ gN (X10_hammer_m g m b a a2 N H nx) ≤ n9 ∧ m' = sN (X10_hammer_m g m b a a2 N H nx) n9) nX := by
  refine mT_ofH hO (by decide) (Nat.le_of_ble_eq_true rfl) (fun x hX hZ => ?_)
  show mV g x m 0 0 0 [(0, .ref b), (1, .int a), (2, .int a2), (3, .ref o)] []
  refine v_aload_n (pc := 0) hX dL_hammer_0 rfl ?_
  refine v_iconst (v := 0) (pc := 1) hX dL_hammer_1 (by decide) ?_
  refine v_aload_n (pc := 2) hX dL_hammer_2 rfl ?_
  refine v_iload_n (pc := 3) hX dL_hammer_3 rfl ?_
  refine v_iload_n (pc := 4) hX dL_hammer_4 rfl ?_
  refine v_callV (z := yX10_hammer) (pc := 5) hX dL_hammer_5 (c_X10_hammer hO m b a a2 N H nx hb hN hN8 hH hH4 hn hn9) hb.1 rfl wd_1022 wd_1023 wd_1024 wd_1 wd_1025 ⟨by decide, by decide, (by decide +kernel : (parseMethodDescriptor yX10_hammer.desc).map (fun d => d.parameters.length) = some 2)⟩ rfl (Nat.le_of_ble_eq_true rfl) ⟨⟨by decide, by decide⟩, by decide, by decide⟩ (fun E9 m9 h9 => ?_) (fun r9 m9 h9 => ?_)
  · obtain ⟨hx9, n9, hn9, rfl⟩ := h9
    rcases hE E9 hx9 with rfl | rfl | rfl | rfl
    · refine v_catch 0 hX hZ rfl (fun z hz => nomatch hz) (by decide) (by decide) wd_993 wd_870 (fun q => ?_)
      refine v_astore (pc := 13) hX dL_hammer_13 (by decide) rfl ?_
      refine v_iconst (v := 1) (pc := 15) hX dL_hammer_15 (by decide) ?_
      exact v_iret (pc := 16) hX hZ dL_hammer_16 (by decide) (by decide) (Or.inr ⟨_, _, n9, hx9, rfl, (by decide), hn9, rfl⟩)
    · refine v_catch 1 hX hZ rfl (fun z hz => by
          simp only [List.take, List.mem_cons, List.not_mem_nil, or_false] at hz
          rcases hz with rfl
          · exact ⟨by decide, _, wd_993, nc_IN hO⟩) (by decide) (by decide) wd_1018 wd_886 (fun q => ?_)
      refine v_astore (pc := 17) hX dL_hammer_17 (by decide) rfl ?_
      refine v_iconst (v := 2) (pc := 19) hX dL_hammer_19 (by decide) ?_
      exact v_iret (pc := 20) hX hZ dL_hammer_20 (by decide) (by decide) (Or.inr ⟨_, _, n9, hx9, rfl, (by decide), hn9, rfl⟩)
    · refine v_catch 2 hX hZ rfl (fun z hz => by
          simp only [List.take, List.mem_cons, List.not_mem_nil, or_false] at hz
          rcases hz with rfl | rfl
          · exact ⟨by decide, _, wd_993, nc_SN hO⟩
          · exact ⟨by decide, _, wd_1018, nc_SI hO⟩) (by decide) (by decide) wd_850 wd_902 (fun q => ?_)
      refine v_astore (pc := 21) hX dL_hammer_21 (by decide) rfl ?_
      refine v_iconst (v := 3) (pc := 23) hX dL_hammer_23 (by decide) ?_
      exact v_iret (pc := 24) hX hZ dL_hammer_24 (by decide) (by decide) (Or.inr ⟨_, _, n9, hx9, rfl, (by decide), hn9, rfl⟩)
    · refine v_catch 3 hX hZ rfl (fun z hz => by
          simp only [List.take, List.mem_cons, List.not_mem_nil, or_false] at hz
          rcases hz with rfl | rfl | rfl
          · exact ⟨by decide, _, wd_993, nc_UN hO⟩
          · exact ⟨by decide, _, wd_1018, nc_UI hO⟩
          · exact ⟨by decide, _, wd_850, nc_US hO⟩) (by decide) (by decide) wd_1021 wd_918 (fun q => ?_)
      refine v_astore (pc := 25) hX dL_hammer_25 (by decide) rfl ?_
      refine v_iconst (v := 4) (pc := 27) hX dL_hammer_27 (by decide) ?_
      exact v_iret (pc := 28) hX hZ dL_hammer_28 (by decide) (by decide) (Or.inr ⟨_, _, n9, hx9, rfl, (by decide), hn9, rfl⟩)
  · obtain ⟨hx9, rfl, h8⟩ := h9
    replace h8 := h8.symm
    subst h8
    show mV g x (X10_hammer_m g m b a a2 N H nx) _ _ _ [(0, .ref b), (1, .int a), (2, .int a2), (3, .ref o)] [.int (X10_hammer_r g m b a a2 N H nx), .int 0, .ref o]
    refine v_i2l (pc := 8) hX dL_hammer_8 ?_
    refine v_last (pc := 9) hX dL_hammer_9 hko (j := 0) rfl (by decide) (by decide) ?_
    refine v_goto (tgt := 29) (pc := 10) hX dL_hammer_10 (by decide) ?_
    refine v_iconst (v := 0) (pc := 29) hX dL_hammer_29 (by decide) ?_
    exact v_iret (pc := 30) hX hZ dL_hammer_30 (by decide) (by decide) (Or.inl ⟨hx9, rfl, rfl⟩)
set_option maxHeartbeats 4000000 in
theorem c_L_quench {l : Launch} {g : mG} (hO : mO l g) (m : mM) (b : Nat) (a : Int32) (o : Nat) (N : Nat) (nx : Nat) (hb : SB m b) (hN : gI m 163 (b + 1) = nI N) (hN8 : N ≤ 8) (hn : gI m 257 (b + 49) = nI nx) (hn9 : nx < 9) (hko : gK (X10_quench_m g m b a N nx) o = some (.inr (4, 1))) (hE : ∀ E, X10_quench_x g m b a N nx = some E → E = "java/util/NoSuchElementException" ∨ E = "java/lang/IllegalStateException" ∨ E = "java/lang/UnsupportedOperationException") : mT l g yL_quench (.codeWith yL_quench cL_quench 4 (Option.some FieldType.int) [(0, 9, 12, 33), (0, 9, 15, 15), (0, 9, 18, 44)]) 8 132 1 6 [.ref b, .int a, .ref o] m (fun u m' => (X10_quench_x g m b a N nx = none ∧ u = some (.int 0) ∧ m' = (sL (X10_quench_m g m b a N nx) o 0 (X10_quench_r g m b a N nx).toInt64)) ∨ ∃ (E : String) (k : Int32) (n9 : Nat), X10_quench_x g m b a N nx = some E ∧ u = some (.int k) ∧ ([("java/util/NoSuchElementException", 1), ("java/lang/IllegalStateException", 2), ("java/lang/UnsupportedOperationException", 3)] : List (String × Int32)).lookup E = some k ∧ gN (X10_quench_m g m b a N nx) ≤ n9 ∧ m' = sN (X10_quench_m g m b a N nx) n9) nX := by
  refine mT_ofH hO (by decide) (Nat.le_of_ble_eq_true rfl) (fun x hX hZ => ?_)
  show mV g x m 0 0 0 [(0, .ref b), (1, .int a), (2, .ref o)] []
  refine v_aload_n (pc := 0) hX dL_quench_0 rfl ?_
  refine v_iconst (v := 0) (pc := 1) hX dL_quench_1 (by decide) ?_
  refine v_aload_n (pc := 2) hX dL_quench_2 rfl ?_
  refine v_iload_n (pc := 3) hX dL_quench_3 rfl ?_
  refine v_callV (z := yX10_quench) (pc := 4) hX dL_quench_4 (c_X10_quench hO m b a N nx hb hN hN8 hn hn9) hb.1 rfl wd_1050 wd_1051 wd_1052 wd_1 wd_1053 ⟨by decide, by decide, (by decide +kernel : (parseMethodDescriptor yX10_quench.desc).map (fun d => d.parameters.length) = some 1)⟩ rfl (Nat.le_of_ble_eq_true rfl) ⟨⟨by decide, by decide⟩, by decide, by decide⟩ (fun E9 m9 h9 => ?_) (fun r9 m9 h9 => ?_)
  · obtain ⟨hx9, n9, hn9, rfl⟩ := h9
    rcases hE E9 hx9 with rfl | rfl | rfl
    · refine v_catch 0 hX hZ rfl (fun z hz => nomatch hz) (by decide) (by decide) wd_993 wd_870 (fun q => ?_)
      refine v_astore_n (pc := 12) hX dL_quench_12 (by decide) rfl ?_
      refine v_iconst (v := 1) (pc := 13) hX dL_quench_13 (by decide) ?_
      exact v_iret (pc := 14) hX hZ dL_quench_14 (by decide) (by decide) (Or.inr ⟨_, _, n9, hx9, rfl, (by decide), hn9, rfl⟩)
    · refine v_catch 1 hX hZ rfl (fun z hz => by
          simp only [List.take, List.mem_cons, List.not_mem_nil, or_false] at hz
          rcases hz with rfl
          · exact ⟨by decide, _, wd_993, nc_SN hO⟩) (by decide) (by decide) wd_850 wd_902 (fun q => ?_)
      refine v_astore_n (pc := 15) hX dL_quench_15 (by decide) rfl ?_
      refine v_iconst (v := 2) (pc := 16) hX dL_quench_16 (by decide) ?_
      exact v_iret (pc := 17) hX hZ dL_quench_17 (by decide) (by decide) (Or.inr ⟨_, _, n9, hx9, rfl, (by decide), hn9, rfl⟩)
    · refine v_catch 2 hX hZ rfl (fun z hz => by
          simp only [List.take, List.mem_cons, List.not_mem_nil, or_false] at hz
          rcases hz with rfl | rfl
          · exact ⟨by decide, _, wd_993, nc_UN hO⟩
          · exact ⟨by decide, _, wd_850, nc_US hO⟩) (by decide) (by decide) wd_1021 wd_918 (fun q => ?_)
      refine v_astore_n (pc := 18) hX dL_quench_18 (by decide) rfl ?_
      refine v_iconst (v := 3) (pc := 19) hX dL_quench_19 (by decide) ?_
      exact v_iret (pc := 20) hX hZ dL_quench_20 (by decide) (by decide) (Or.inr ⟨_, _, n9, hx9, rfl, (by decide), hn9, rfl⟩)
  · obtain ⟨hx9, rfl, h8⟩ := h9
    replace h8 := h8.symm
    subst h8
    show mV g x (X10_quench_m g m b a N nx) _ _ _ [(0, .ref b), (1, .int a), (2, .ref o)] [.int (X10_quench_r g m b a N nx), .int 0, .ref o]
    refine v_i2l (pc := 7) hX dL_quench_7 ?_
    refine v_last (pc := 8) hX dL_quench_8 hko (j := 0) rfl (by decide) (by decide) ?_
    refine v_goto (tgt := 21) (pc := 9) hX dL_quench_9 (by decide) ?_
    refine v_iconst (v := 0) (pc := 21) hX dL_quench_21 (by decide) ?_
    exact v_iret (pc := 22) hX hZ dL_quench_22 (by decide) (by decide) (Or.inl ⟨hx9, rfl, rfl⟩)
set_option maxHeartbeats 4000000 in
theorem c_L_test {l : Launch} {g : mG} (hO : mO l g) (m : mM) (b : Nat) (a : Int32) (o : Nat) (N : Nat) (nx : Nat) (hb : SB m b) (hN : gI m 163 (b + 1) = nI N) (hN8 : N ≤ 8) (hn : gI m 257 (b + 49) = nI nx) (hn9 : nx < 9) (hko : gK (X10_test_m g m b a N nx) o = some (.inr (4, 1))) (hE : ∀ E, X10_test_x g m b a N nx = some E → E = "java/util/NoSuchElementException" ∨ E = "java/lang/IllegalStateException" ∨ E = "java/lang/UnsupportedOperationException") : mT l g yL_test (.codeWith yL_test cL_test 4 (Option.some FieldType.int) [(0, 16, 19, 33), (0, 16, 22, 15), (0, 16, 25, 44)]) 8 132 1 6 [.ref b, .int a, .ref o] m (fun u m' => (X10_test_x g m b a N nx = none ∧ u = some (.int 0) ∧ m' = (sL (X10_test_m g m b a N nx) o 0 (if (X10_test_r g m b a N nx) = 0 then 0 else 1))) ∨ ∃ (E : String) (k : Int32) (n9 : Nat), X10_test_x g m b a N nx = some E ∧ u = some (.int k) ∧ ([("java/util/NoSuchElementException", 1), ("java/lang/IllegalStateException", 2), ("java/lang/UnsupportedOperationException", 3)] : List (String × Int32)).lookup E = some k ∧ gN (X10_test_m g m b a N nx) ≤ n9 ∧ m' = sN (X10_test_m g m b a N nx) n9) nX := by
  refine mT_ofH hO (by decide) (Nat.le_of_ble_eq_true rfl) (fun x hX hZ => ?_)
  show mV g x m 0 0 0 [(0, .ref b), (1, .int a), (2, .ref o)] []
  refine v_aload_n (pc := 0) hX dL_test_0 rfl ?_
  refine v_iconst (v := 0) (pc := 1) hX dL_test_1 (by decide) ?_
  refine v_aload_n (pc := 2) hX dL_test_2 rfl ?_
  refine v_iload_n (pc := 3) hX dL_test_3 rfl ?_
  refine v_callV (z := yX10_test) (pc := 4) hX dL_test_4 (c_X10_test hO m b a N nx hb hN hN8 hn hn9) hb.1 rfl wd_1061 wd_1062 wd_1063 wd_1 wd_1064 ⟨by decide, by decide, (by decide +kernel : (parseMethodDescriptor yX10_test.desc).map (fun d => d.parameters.length) = some 1)⟩ rfl (Nat.le_of_ble_eq_true rfl) ⟨⟨by decide, by decide⟩, by decide, by decide⟩ (fun E9 m9 h9 => ?_) (fun r9 m9 h9 => ?_)
  · obtain ⟨hx9, n9, hn9, rfl⟩ := h9
    rcases hE E9 hx9 with rfl | rfl | rfl
    · refine v_catch 0 hX hZ rfl (fun z hz => nomatch hz) (by decide) (by decide) wd_993 wd_870 (fun q => ?_)
      refine v_astore_n (pc := 19) hX dL_test_19 (by decide) rfl ?_
      refine v_iconst (v := 1) (pc := 20) hX dL_test_20 (by decide) ?_
      exact v_iret (pc := 21) hX hZ dL_test_21 (by decide) (by decide) (Or.inr ⟨_, _, n9, hx9, rfl, (by decide), hn9, rfl⟩)
    · refine v_catch 1 hX hZ rfl (fun z hz => by
          simp only [List.take, List.mem_cons, List.not_mem_nil, or_false] at hz
          rcases hz with rfl
          · exact ⟨by decide, _, wd_993, nc_SN hO⟩) (by decide) (by decide) wd_850 wd_902 (fun q => ?_)
      refine v_astore_n (pc := 22) hX dL_test_22 (by decide) rfl ?_
      refine v_iconst (v := 2) (pc := 23) hX dL_test_23 (by decide) ?_
      exact v_iret (pc := 24) hX hZ dL_test_24 (by decide) (by decide) (Or.inr ⟨_, _, n9, hx9, rfl, (by decide), hn9, rfl⟩)
    · refine v_catch 2 hX hZ rfl (fun z hz => by
          simp only [List.take, List.mem_cons, List.not_mem_nil, or_false] at hz
          rcases hz with rfl | rfl
          · exact ⟨by decide, _, wd_993, nc_UN hO⟩
          · exact ⟨by decide, _, wd_850, nc_US hO⟩) (by decide) (by decide) wd_1021 wd_918 (fun q => ?_)
      refine v_astore_n (pc := 25) hX dL_test_25 (by decide) rfl ?_
      refine v_iconst (v := 3) (pc := 26) hX dL_test_26 (by decide) ?_
      exact v_iret (pc := 27) hX hZ dL_test_27 (by decide) (by decide) (Or.inr ⟨_, _, n9, hx9, rfl, (by decide), hn9, rfl⟩)
  · obtain ⟨hx9, rfl, h8⟩ := h9
    replace h8 := h8.symm
    subst h8
    show mV g x (X10_test_m g m b a N nx) _ _ _ [(0, .ref b), (1, .int a), (2, .ref o)] [.int (X10_test_r g m b a N nx), .int 0, .ref o]
    refine v_if_eq (tgt := 14) (pc := 7) hX dL_test_7 (by decide) (fun c1 => ?_) (fun c1 => ?_)
    ·
      refine v_lconst (v := 0) (pc := 14) hX dL_test_14 (by decide) ?_
      refine v_last (pc := 15) hX dL_test_15 hko (j := 0) rfl (by decide) (by decide) ?_
      refine v_goto (tgt := 28) (pc := 16) hX dL_test_16 (by decide) ?_
      refine v_iconst (v := 0) (pc := 28) hX dL_test_28 (by decide) ?_
      exact v_iret (pc := 29) hX hZ dL_test_29 (by decide) (by decide) (Or.inl ⟨hx9, rfl, (by rw [if_pos c1])⟩)
    ·
      refine v_lconst (v := 1) (pc := 10) hX dL_test_10 (by decide) ?_
      refine v_goto (tgt := 15) (pc := 11) hX dL_test_11 (by decide) ?_
      refine v_last (pc := 15) hX dL_test_15 hko (j := 0) rfl (by decide) (by decide) ?_
      refine v_goto (tgt := 28) (pc := 16) hX dL_test_16 (by decide) ?_
      refine v_iconst (v := 0) (pc := 28) hX dL_test_28 (by decide) ?_
      exact v_iret (pc := 29) hX hZ dL_test_29 (by decide) (by decide) (Or.inl ⟨hx9, rfl, (by rw [if_neg c1])⟩)
set_option maxHeartbeats 4000000 in
theorem c_L_assemble {l : Launch} {g : mG} (hO : mO l g) (m : mM) (b : Nat) (a : Int32) (a2 : Int32) (a3 : Int32) (a4 : Int32) (o : Nat) (N : Nat) (nx : Nat) (hb : SB m b) (hN : gI m 163 (b + 1) = nI N) (hN8 : N ≤ 8) (hn : gI m 257 (b + 49) = nI nx) (hn9 : nx < 9) (hko : gK (X10_assemble_m g m b a a2 a3 a4 N nx) o = some (.inr (4, 1))) (hE : ∀ E, X10_assemble_x g m b a a2 a3 a4 N nx = some E → E = "java/util/NoSuchElementException" ∨ E = "java/lang/IllegalArgumentException" ∨ E = "java/lang/IllegalStateException") : mT l g yL_assemble (.codeWith yL_assemble cL_assemble 7 (Option.some FieldType.int) [(0, 14, 17, 33), (0, 14, 21, 13), (0, 14, 25, 15)]) 8 135 1 6 [.ref b, .int a, .int a2, .int a3, .int a4, .ref o] m (fun u m' => (X10_assemble_x g m b a a2 a3 a4 N nx = none ∧ u = some (.int 0) ∧ m' = (sL (X10_assemble_m g m b a a2 a3 a4 N nx) o 0 (X10_assemble_r g m b a a2 a3 a4 N nx).toInt64)) ∨ ∃ (E : String) (k : Int32) (n9 : Nat), X10_assemble_x g m b a a2 a3 a4 N nx = some E ∧ u = some (.int k) ∧ ([("java/util/NoSuchElementException", 1), ("java/lang/IllegalArgumentException", 2), ("java/lang/IllegalStateException", 3)] : List (String × Int32)).lookup E = some k ∧ gN (X10_assemble_m g m b a a2 a3 a4 N nx) ≤ n9 ∧ m' = sN (X10_assemble_m g m b a a2 a3 a4 N nx) n9) nX := by
  refine mT_ofH hO (by decide) (Nat.le_of_ble_eq_true rfl) (fun x hX hZ => ?_)
  show mV g x m 0 0 0 [(0, .ref b), (1, .int a), (2, .int a2), (3, .int a3), (4, .int a4), (5, .ref o)] []
  refine v_aload (pc := 0) hX dL_assemble_0 rfl ?_
  refine v_iconst (v := 0) (pc := 2) hX dL_assemble_2 (by decide) ?_
  refine v_aload_n (pc := 3) hX dL_assemble_3 rfl ?_
  refine v_iload_n (pc := 4) hX dL_assemble_4 rfl ?_
  refine v_iload_n (pc := 5) hX dL_assemble_5 rfl ?_
  refine v_iload_n (pc := 6) hX dL_assemble_6 rfl ?_
  refine v_iload (pc := 7) hX dL_assemble_7 rfl ?_
  refine v_callV (z := yX10_assemble) (pc := 9) hX dL_assemble_9 (c_X10_assemble hO m b a a2 a3 a4 N nx hb hN hN8 hn hn9) hb.1 rfl wd_1080 wd_1081 wd_1082 wd_1 wd_1083 ⟨by decide, by decide, (by decide +kernel : (parseMethodDescriptor yX10_assemble.desc).map (fun d => d.parameters.length) = some 4)⟩ rfl (Nat.le_of_ble_eq_true rfl) ⟨⟨by decide, by decide⟩, by decide, by decide⟩ (fun E9 m9 h9 => ?_) (fun r9 m9 h9 => ?_)
  · obtain ⟨hx9, n9, hn9, rfl⟩ := h9
    rcases hE E9 hx9 with rfl | rfl | rfl
    · refine v_catch 0 hX hZ rfl (fun z hz => nomatch hz) (by decide) (by decide) wd_993 wd_870 (fun q => ?_)
      refine v_astore (pc := 17) hX dL_assemble_17 (by decide) rfl ?_
      refine v_iconst (v := 1) (pc := 19) hX dL_assemble_19 (by decide) ?_
      exact v_iret (pc := 20) hX hZ dL_assemble_20 (by decide) (by decide) (Or.inr ⟨_, _, n9, hx9, rfl, (by decide), hn9, rfl⟩)
    · refine v_catch 1 hX hZ rfl (fun z hz => by
          simp only [List.take, List.mem_cons, List.not_mem_nil, or_false] at hz
          rcases hz with rfl
          · exact ⟨by decide, _, wd_993, nc_AN hO⟩) (by decide) (by decide) wd_849 wd_664 (fun q => ?_)
      refine v_astore (pc := 21) hX dL_assemble_21 (by decide) rfl ?_
      refine v_iconst (v := 2) (pc := 23) hX dL_assemble_23 (by decide) ?_
      exact v_iret (pc := 24) hX hZ dL_assemble_24 (by decide) (by decide) (Or.inr ⟨_, _, n9, hx9, rfl, (by decide), hn9, rfl⟩)
    · refine v_catch 2 hX hZ rfl (fun z hz => by
          simp only [List.take, List.mem_cons, List.not_mem_nil, or_false] at hz
          rcases hz with rfl | rfl
          · exact ⟨by decide, _, wd_993, nc_SN hO⟩
          · exact ⟨by decide, _, wd_849, nc_SA hO⟩) (by decide) (by decide) wd_850 wd_902 (fun q => ?_)
      refine v_astore (pc := 25) hX dL_assemble_25 (by decide) rfl ?_
      refine v_iconst (v := 3) (pc := 27) hX dL_assemble_27 (by decide) ?_
      exact v_iret (pc := 28) hX hZ dL_assemble_28 (by decide) (by decide) (Or.inr ⟨_, _, n9, hx9, rfl, (by decide), hn9, rfl⟩)
  · obtain ⟨hx9, rfl, h8⟩ := h9
    replace h8 := h8.symm
    subst h8
    show mV g x (X10_assemble_m g m b a a2 a3 a4 N nx) _ _ _ [(0, .ref b), (1, .int a), (2, .int a2), (3, .int a3), (4, .int a4), (5, .ref o)] [.int (X10_assemble_r g m b a a2 a3 a4 N nx), .int 0, .ref o]
    refine v_i2l (pc := 12) hX dL_assemble_12 ?_
    refine v_last (pc := 13) hX dL_assemble_13 hko (j := 0) rfl (by decide) (by decide) ?_
    refine v_goto (tgt := 29) (pc := 14) hX dL_assemble_14 (by decide) ?_
    refine v_iconst (v := 0) (pc := 29) hX dL_assemble_29 (by decide) ?_
    exact v_iret (pc := 30) hX hZ dL_assemble_30 (by decide) (by decide) (Or.inl ⟨hx9, rfl, rfl⟩)
set_option maxHeartbeats 4000000 in
theorem c_L_scrap {l : Launch} {g : mG} (hO : mO l g) (m : mM) (b : Nat) (a : Int32) (o : Nat) (N : Nat) (nx : Nat) (hb : SB m b) (hN : gI m 163 (b + 1) = nI N) (hN8 : N ≤ 8) (hn : gI m 257 (b + 49) = nI nx) (hn9 : nx < 9) (hko : gK (X10_scrap_m g m b a N nx) o = some (.inr (4, 1))) (hE : ∀ E, X10_scrap_x g m b a N nx = some E → E = "java/util/NoSuchElementException") : mT l g yL_scrap (.codeWith yL_scrap cL_scrap 4 (Option.some FieldType.int) [(0, 9, 12, 33)]) 8 132 1 6 [.ref b, .int a, .ref o] m (fun u m' => (X10_scrap_x g m b a N nx = none ∧ u = some (.int 0) ∧ m' = (sL (X10_scrap_m g m b a N nx) o 0 (X10_scrap_r g m b a N nx).toInt64)) ∨ ∃ (E : String) (k : Int32) (n9 : Nat), X10_scrap_x g m b a N nx = some E ∧ u = some (.int k) ∧ ([("java/util/NoSuchElementException", 1)] : List (String × Int32)).lookup E = some k ∧ gN (X10_scrap_m g m b a N nx) ≤ n9 ∧ m' = sN (X10_scrap_m g m b a N nx) n9) nX := by
  refine mT_ofH hO (by decide) (Nat.le_of_ble_eq_true rfl) (fun x hX hZ => ?_)
  show mV g x m 0 0 0 [(0, .ref b), (1, .int a), (2, .ref o)] []
  refine v_aload_n (pc := 0) hX dL_scrap_0 rfl ?_
  refine v_iconst (v := 0) (pc := 1) hX dL_scrap_1 (by decide) ?_
  refine v_aload_n (pc := 2) hX dL_scrap_2 rfl ?_
  refine v_iload_n (pc := 3) hX dL_scrap_3 rfl ?_
  refine v_callV (z := yX10_scrap) (pc := 4) hX dL_scrap_4 (c_X10_scrap hO m b a N nx hb hN hN8 hn hn9) hb.1 rfl wd_1100 wd_1101 wd_1102 wd_1 wd_1103 ⟨by decide, by decide, (by decide +kernel : (parseMethodDescriptor yX10_scrap.desc).map (fun d => d.parameters.length) = some 1)⟩ rfl (Nat.le_of_ble_eq_true rfl) ⟨⟨by decide, by decide⟩, by decide, by decide⟩ (fun E9 m9 h9 => ?_) (fun r9 m9 h9 => ?_)
  · obtain ⟨hx9, n9, hn9, rfl⟩ := h9
    rcases hE E9 hx9 with rfl
    · refine v_catch 0 hX hZ rfl (fun z hz => nomatch hz) (by decide) (by decide) wd_993 wd_870 (fun q => ?_)
      refine v_astore_n (pc := 12) hX dL_scrap_12 (by decide) rfl ?_
      refine v_iconst (v := 1) (pc := 13) hX dL_scrap_13 (by decide) ?_
      exact v_iret (pc := 14) hX hZ dL_scrap_14 (by decide) (by decide) (Or.inr ⟨_, _, n9, hx9, rfl, (by decide), hn9, rfl⟩)
  · obtain ⟨hx9, rfl, h8⟩ := h9
    replace h8 := h8.symm
    subst h8
    show mV g x (X10_scrap_m g m b a N nx) _ _ _ [(0, .ref b), (1, .int a), (2, .ref o)] [.int (X10_scrap_r g m b a N nx), .int 0, .ref o]
    refine v_i2l (pc := 7) hX dL_scrap_7 ?_
    refine v_last (pc := 8) hX dL_scrap_8 hko (j := 0) rfl (by decide) (by decide) ?_
    refine v_goto (tgt := 15) (pc := 9) hX dL_scrap_9 (by decide) ?_
    refine v_iconst (v := 0) (pc := 15) hX dL_scrap_15 (by decide) ?_
    exact v_iret (pc := 16) hX hZ dL_scrap_16 (by decide) (by decide) (Or.inl ⟨hx9, rfl, rfl⟩)
set_option maxHeartbeats 4000000 in
theorem c_L_coalMinutes {l : Launch} {g : mG} (hO : mO l g) (m : mM) (b : Nat) (o : Nat)  (hb : SB m b) (hko : gK m o = some (.inr (4, 1))) (hE : ∀ E, X10_coalMinutes_x g m b = some E → E = "java/lang/ArithmeticException") : mT l g yL_coalMinutes (.codeWith yL_coalMinutes cL_coalMinutes 3 (Option.some FieldType.int) [(0, 8, 11, 64)]) 7 111 1 6 [.ref b, .ref o] m (fun u m' => (X10_coalMinutes_x g m b = none ∧ u = some (.int 0) ∧ m' = (sL m o 0 (X10_coalMinutes_r g m b).toInt64)) ∨ ∃ (E : String) (k : Int32) (n9 : Nat), X10_coalMinutes_x g m b = some E ∧ u = some (.int k) ∧ ([("java/lang/ArithmeticException", 1)] : List (String × Int32)).lookup E = some k ∧ gN m ≤ n9 ∧ m' = sN m n9) nX := by
  refine mT_ofH hO (by decide) (Nat.le_of_ble_eq_true rfl) (fun x hX hZ => ?_)
  show mV g x m 0 0 0 [(0, .ref b), (1, .ref o)] []
  refine v_aload_n (pc := 0) hX dL_coalMinutes_0 rfl ?_
  refine v_iconst (v := 0) (pc := 1) hX dL_coalMinutes_1 (by decide) ?_
  refine v_aload_n (pc := 2) hX dL_coalMinutes_2 rfl ?_
  refine v_callV (z := yX10_coalMinutes) (pc := 3) hX dL_coalMinutes_3 (c_X10_coalMinutes hO m b hb) hb.1 rfl wd_1125 wd_1126 wd_1127 wd_1 wd_1128 ⟨by decide, by decide, (by decide +kernel : (parseMethodDescriptor yX10_coalMinutes.desc).map (fun d => d.parameters.length) = some 0)⟩ rfl (Nat.le_of_ble_eq_true rfl) ⟨⟨by decide, by decide⟩, by decide, by decide⟩ (fun E9 m9 h9 => ?_) (fun r9 m9 h9 => ?_)
  · obtain ⟨hx9, n9, hn9, rfl⟩ := h9
    rcases hE E9 hx9 with rfl
    · refine v_catch 0 hX hZ rfl (fun z hz => nomatch hz) (by decide) (by decide) wd_1111 wd_1123 (fun q => ?_)
      refine v_astore_n (pc := 11) hX dL_coalMinutes_11 (by decide) rfl ?_
      refine v_iconst (v := 1) (pc := 12) hX dL_coalMinutes_12 (by decide) ?_
      exact v_iret (pc := 13) hX hZ dL_coalMinutes_13 (by decide) (by decide) (Or.inr ⟨_, _, n9, hx9, rfl, (by decide), hn9, rfl⟩)
  · obtain ⟨hx9, rfl, h8⟩ := h9
    replace h8 := h8.symm
    subst h8
    show mV g x m _ _ _ [(0, .ref b), (1, .ref o)] [.int (X10_coalMinutes_r g m b), .int 0, .ref o]
    refine v_i2l (pc := 6) hX dL_coalMinutes_6 ?_
    refine v_last (pc := 7) hX dL_coalMinutes_7 hko (j := 0) rfl (by decide) (by decide) ?_
    refine v_goto (tgt := 14) (pc := 8) hX dL_coalMinutes_8 (by decide) ?_
    refine v_iconst (v := 0) (pc := 14) hX dL_coalMinutes_14 (by decide) ?_
    exact v_iret (pc := 15) hX hZ dL_coalMinutes_15 (by decide) (by decide) (Or.inl ⟨hx9, rfl, rfl⟩)
set_option maxHeartbeats 4000000 in
theorem c_L_furnaceAfter {l : Launch} {g : mG} (hO : mO l g) (m : mM) (b : Nat) (a : Int32) (o : Nat)  (hb : SB m b) (hko : gK (X10_furnaceAfter_m g m b a) o = some (.inr (4, 1))) (hE : ∀ E, X10_furnaceAfter_x g m b a = some E → E = "java/lang/IllegalArgumentException") : mT l g yL_furnaceAfter (.codeWith yL_furnaceAfter cL_furnaceAfter 4 (Option.some FieldType.int) [(0, 9, 12, 13)]) 7 111 1 6 [.ref b, .int a, .ref o] m (fun u m' => (X10_furnaceAfter_x g m b a = none ∧ u = some (.int 0) ∧ m' = (sL (X10_furnaceAfter_m g m b a) o 0 (X10_furnaceAfter_r g m b a).toInt64)) ∨ ∃ (E : String) (k : Int32) (n9 : Nat), X10_furnaceAfter_x g m b a = some E ∧ u = some (.int k) ∧ ([("java/lang/IllegalArgumentException", 1)] : List (String × Int32)).lookup E = some k ∧ gN (X10_furnaceAfter_m g m b a) ≤ n9 ∧ m' = sN (X10_furnaceAfter_m g m b a) n9) nX := by
  refine mT_ofH hO (by decide) (Nat.le_of_ble_eq_true rfl) (fun x hX hZ => ?_)
  show mV g x m 0 0 0 [(0, .ref b), (1, .int a), (2, .ref o)] []
  refine v_aload_n (pc := 0) hX dL_furnaceAfter_0 rfl ?_
  refine v_iconst (v := 0) (pc := 1) hX dL_furnaceAfter_1 (by decide) ?_
  refine v_aload_n (pc := 2) hX dL_furnaceAfter_2 rfl ?_
  refine v_iload_n (pc := 3) hX dL_furnaceAfter_3 rfl ?_
  refine v_callV (z := yX10_furnaceAfter) (pc := 4) hX dL_furnaceAfter_4 (c_X10_furnaceAfter hO m b a hb) hb.1 rfl wd_1135 wd_1136 wd_1137 wd_1 wd_1138 ⟨by decide, by decide, (by decide +kernel : (parseMethodDescriptor yX10_furnaceAfter.desc).map (fun d => d.parameters.length) = some 1)⟩ rfl (Nat.le_of_ble_eq_true rfl) ⟨⟨by decide, by decide⟩, by decide, by decide⟩ (fun E9 m9 h9 => ?_) (fun r9 m9 h9 => ?_)
  · obtain ⟨hx9, n9, hn9, rfl⟩ := h9
    rcases hE E9 hx9 with rfl
    · refine v_catch 0 hX hZ rfl (fun z hz => nomatch hz) (by decide) (by decide) wd_849 wd_664 (fun q => ?_)
      refine v_astore_n (pc := 12) hX dL_furnaceAfter_12 (by decide) rfl ?_
      refine v_iconst (v := 1) (pc := 13) hX dL_furnaceAfter_13 (by decide) ?_
      exact v_iret (pc := 14) hX hZ dL_furnaceAfter_14 (by decide) (by decide) (Or.inr ⟨_, _, n9, hx9, rfl, (by decide), hn9, rfl⟩)
  · obtain ⟨hx9, rfl, h8⟩ := h9
    replace h8 := h8.symm
    subst h8
    show mV g x (X10_furnaceAfter_m g m b a) _ _ _ [(0, .ref b), (1, .int a), (2, .ref o)] [.int (X10_furnaceAfter_r g m b a), .int 0, .ref o]
    refine v_i2l (pc := 7) hX dL_furnaceAfter_7 ?_
    refine v_last (pc := 8) hX dL_furnaceAfter_8 hko (j := 0) rfl (by decide) (by decide) ?_
    refine v_goto (tgt := 15) (pc := 9) hX dL_furnaceAfter_9 (by decide) ?_
    refine v_iconst (v := 0) (pc := 15) hX dL_furnaceAfter_15 (by decide) ?_
    exact v_iret (pc := 16) hX hZ dL_furnaceAfter_16 (by decide) (by decide) (Or.inl ⟨hx9, rfl, rfl⟩)
set_option maxHeartbeats 4000000 in
theorem c_L_pieceAt {l : Launch} {g : mG} (hO : mO l g) (m : mM) (b : Nat) (a : Int32) (o : Nat) (N : Nat) (hb : SB m b) (hN : gI m 163 (b + 1) = nI N) (hN8 : N ≤ 8) (hko : gK m o = some (.inr (4, 1))) (hE : ∀ E, X10_pieceAt_x g m b a N = some E → E = "java/lang/IndexOutOfBoundsException") : mT l g yL_pieceAt (.codeWith yL_pieceAt cL_pieceAt 4 (Option.some FieldType.int) [(0, 9, 12, 42)]) 7 112 1 6 [.ref b, .int a, .ref o] m (fun u m' => (X10_pieceAt_x g m b a N = none ∧ u = some (.int 0) ∧ m' = (sL m o 0 (X10_pieceAt_r g m b a N).toInt64)) ∨ ∃ (E : String) (k : Int32) (n9 : Nat), X10_pieceAt_x g m b a N = some E ∧ u = some (.int k) ∧ ([("java/lang/IndexOutOfBoundsException", 1)] : List (String × Int32)).lookup E = some k ∧ gN m ≤ n9 ∧ m' = sN m n9) nX := by
  refine mT_ofH hO (by decide) (Nat.le_of_ble_eq_true rfl) (fun x hX hZ => ?_)
  show mV g x m 0 0 0 [(0, .ref b), (1, .int a), (2, .ref o)] []
  refine v_aload_n (pc := 0) hX dL_pieceAt_0 rfl ?_
  refine v_iconst (v := 0) (pc := 1) hX dL_pieceAt_1 (by decide) ?_
  refine v_aload_n (pc := 2) hX dL_pieceAt_2 rfl ?_
  refine v_iload_n (pc := 3) hX dL_pieceAt_3 rfl ?_
  refine v_callV (z := yX10_pieceAt) (pc := 4) hX dL_pieceAt_4 (c_X10_pieceAt hO m b a N hb hN hN8) hb.1 rfl wd_1147 wd_1148 wd_1149 wd_1 wd_1150 ⟨by decide, by decide, (by decide +kernel : (parseMethodDescriptor yX10_pieceAt.desc).map (fun d => d.parameters.length) = some 1)⟩ rfl (Nat.le_of_ble_eq_true rfl) ⟨⟨by decide, by decide⟩, by decide, by decide⟩ (fun E9 m9 h9 => ?_) (fun r9 m9 h9 => ?_)
  · obtain ⟨hx9, n9, hn9, rfl⟩ := h9
    rcases hE E9 hx9 with rfl
    · refine v_catch 0 hX hZ rfl (fun z hz => nomatch hz) (by decide) (by decide) wd_1018 wd_886 (fun q => ?_)
      refine v_astore_n (pc := 12) hX dL_pieceAt_12 (by decide) rfl ?_
      refine v_iconst (v := 1) (pc := 13) hX dL_pieceAt_13 (by decide) ?_
      exact v_iret (pc := 14) hX hZ dL_pieceAt_14 (by decide) (by decide) (Or.inr ⟨_, _, n9, hx9, rfl, (by decide), hn9, rfl⟩)
  · obtain ⟨hx9, rfl, h8⟩ := h9
    replace h8 := h8.symm
    subst h8
    show mV g x m _ _ _ [(0, .ref b), (1, .int a), (2, .ref o)] [.int (X10_pieceAt_r g m b a N), .int 0, .ref o]
    refine v_i2l (pc := 7) hX dL_pieceAt_7 ?_
    refine v_last (pc := 8) hX dL_pieceAt_8 hko (j := 0) rfl (by decide) (by decide) ?_
    refine v_goto (tgt := 15) (pc := 9) hX dL_pieceAt_9 (by decide) ?_
    refine v_iconst (v := 0) (pc := 15) hX dL_pieceAt_15 (by decide) ?_
    exact v_iret (pc := 16) hX hZ dL_pieceAt_16 (by decide) (by decide) (Or.inl ⟨hx9, rfl, rfl⟩)
set_option maxHeartbeats 4000000 in
theorem c_L_kind {l : Launch} {g : mG} (hO : mO l g) (m : mM) (b : Nat) (a : Int32) (o : Nat) (N : Nat) (hb : SB m b) (hN : gI m 163 (b + 1) = nI N) (hN8 : N ≤ 8) (hko : gK m o = some (.inr (4, 1))) (hE : ∀ E, X10_kind_x g m b a N = some E → E = "java/util/NoSuchElementException") : mT l g yL_kind (.codeWith yL_kind cL_kind 4 (Option.some FieldType.int) [(0, 9, 12, 33)]) 8 133 1 6 [.ref b, .int a, .ref o] m (fun u m' => (X10_kind_x g m b a N = none ∧ u = some (.int 0) ∧ m' = (sL m o 0 (X10_kind_r g m b a N).toInt64)) ∨ ∃ (E : String) (k : Int32) (n9 : Nat), X10_kind_x g m b a N = some E ∧ u = some (.int k) ∧ ([("java/util/NoSuchElementException", 1)] : List (String × Int32)).lookup E = some k ∧ gN m ≤ n9 ∧ m' = sN m n9) nX := by
  refine mT_ofH hO (by decide) (Nat.le_of_ble_eq_true rfl) (fun x hX hZ => ?_)
  show mV g x m 0 0 0 [(0, .ref b), (1, .int a), (2, .ref o)] []
  refine v_aload_n (pc := 0) hX dL_kind_0 rfl ?_
  refine v_iconst (v := 0) (pc := 1) hX dL_kind_1 (by decide) ?_
  refine v_aload_n (pc := 2) hX dL_kind_2 rfl ?_
  refine v_iload_n (pc := 3) hX dL_kind_3 rfl ?_
  refine v_callV (z := yX10_kind) (pc := 4) hX dL_kind_4 (c_X10_kind hO m b a N hb hN hN8) hb.1 rfl wd_1159 wd_1160 wd_1161 wd_1 wd_1162 ⟨by decide, by decide, (by decide +kernel : (parseMethodDescriptor yX10_kind.desc).map (fun d => d.parameters.length) = some 1)⟩ rfl (Nat.le_of_ble_eq_true rfl) ⟨⟨by decide, by decide⟩, by decide, by decide⟩ (fun E9 m9 h9 => ?_) (fun r9 m9 h9 => ?_)
  · obtain ⟨hx9, n9, hn9, rfl⟩ := h9
    rcases hE E9 hx9 with rfl
    · refine v_catch 0 hX hZ rfl (fun z hz => nomatch hz) (by decide) (by decide) wd_993 wd_870 (fun q => ?_)
      refine v_astore_n (pc := 12) hX dL_kind_12 (by decide) rfl ?_
      refine v_iconst (v := 1) (pc := 13) hX dL_kind_13 (by decide) ?_
      exact v_iret (pc := 14) hX hZ dL_kind_14 (by decide) (by decide) (Or.inr ⟨_, _, n9, hx9, rfl, (by decide), hn9, rfl⟩)
  · obtain ⟨hx9, rfl, h8⟩ := h9
    replace h8 := h8.symm
    subst h8
    show mV g x m _ _ _ [(0, .ref b), (1, .int a), (2, .ref o)] [.int (X10_kind_r g m b a N), .int 0, .ref o]
    refine v_i2l (pc := 7) hX dL_kind_7 ?_
    refine v_last (pc := 8) hX dL_kind_8 hko (j := 0) rfl (by decide) (by decide) ?_
    refine v_goto (tgt := 15) (pc := 9) hX dL_kind_9 (by decide) ?_
    refine v_iconst (v := 0) (pc := 15) hX dL_kind_15 (by decide) ?_
    exact v_iret (pc := 16) hX hZ dL_kind_16 (by decide) (by decide) (Or.inl ⟨hx9, rfl, rfl⟩)
set_option maxHeartbeats 4000000 in
theorem c_L_temperature {l : Launch} {g : mG} (hO : mO l g) (m : mM) (b : Nat) (a : Int32) (o : Nat) (N : Nat) (hb : SB m b) (hN : gI m 163 (b + 1) = nI N) (hN8 : N ≤ 8) (hko : gK m o = some (.inr (4, 1))) (hE : ∀ E, X10_temperature_x g m b a N = some E → E = "java/util/NoSuchElementException") : mT l g yL_temperature (.codeWith yL_temperature cL_temperature 4 (Option.some FieldType.int) [(0, 9, 12, 33)]) 8 133 1 6 [.ref b, .int a, .ref o] m (fun u m' => (X10_temperature_x g m b a N = none ∧ u = some (.int 0) ∧ m' = (sL m o 0 (X10_temperature_r g m b a N).toInt64)) ∨ ∃ (E : String) (k : Int32) (n9 : Nat), X10_temperature_x g m b a N = some E ∧ u = some (.int k) ∧ ([("java/util/NoSuchElementException", 1)] : List (String × Int32)).lookup E = some k ∧ gN m ≤ n9 ∧ m' = sN m n9) nX := by
  refine mT_ofH hO (by decide) (Nat.le_of_ble_eq_true rfl) (fun x hX hZ => ?_)
  show mV g x m 0 0 0 [(0, .ref b), (1, .int a), (2, .ref o)] []
  refine v_aload_n (pc := 0) hX dL_temperature_0 rfl ?_
  refine v_iconst (v := 0) (pc := 1) hX dL_temperature_1 (by decide) ?_
  refine v_aload_n (pc := 2) hX dL_temperature_2 rfl ?_
  refine v_iload_n (pc := 3) hX dL_temperature_3 rfl ?_
  refine v_callV (z := yX10_temperature) (pc := 4) hX dL_temperature_4 (c_X10_temperature hO m b a N hb hN hN8) hb.1 rfl wd_1170 wd_1171 wd_1172 wd_1 wd_1173 ⟨by decide, by decide, (by decide +kernel : (parseMethodDescriptor yX10_temperature.desc).map (fun d => d.parameters.length) = some 1)⟩ rfl (Nat.le_of_ble_eq_true rfl) ⟨⟨by decide, by decide⟩, by decide, by decide⟩ (fun E9 m9 h9 => ?_) (fun r9 m9 h9 => ?_)
  · obtain ⟨hx9, n9, hn9, rfl⟩ := h9
    rcases hE E9 hx9 with rfl
    · refine v_catch 0 hX hZ rfl (fun z hz => nomatch hz) (by decide) (by decide) wd_993 wd_870 (fun q => ?_)
      refine v_astore_n (pc := 12) hX dL_temperature_12 (by decide) rfl ?_
      refine v_iconst (v := 1) (pc := 13) hX dL_temperature_13 (by decide) ?_
      exact v_iret (pc := 14) hX hZ dL_temperature_14 (by decide) (by decide) (Or.inr ⟨_, _, n9, hx9, rfl, (by decide), hn9, rfl⟩)
  · obtain ⟨hx9, rfl, h8⟩ := h9
    replace h8 := h8.symm
    subst h8
    show mV g x m _ _ _ [(0, .ref b), (1, .int a), (2, .ref o)] [.int (X10_temperature_r g m b a N), .int 0, .ref o]
    refine v_i2l (pc := 7) hX dL_temperature_7 ?_
    refine v_last (pc := 8) hX dL_temperature_8 hko (j := 0) rfl (by decide) (by decide) ?_
    refine v_goto (tgt := 15) (pc := 9) hX dL_temperature_9 (by decide) ?_
    refine v_iconst (v := 0) (pc := 15) hX dL_temperature_15 (by decide) ?_
    exact v_iret (pc := 16) hX hZ dL_temperature_16 (by decide) (by decide) (Or.inl ⟨hx9, rfl, rfl⟩)
set_option maxHeartbeats 4000000 in
theorem c_L_stages {l : Launch} {g : mG} (hO : mO l g) (m : mM) (b : Nat) (a : Int32) (o : Nat) (N : Nat) (hb : SB m b) (hN : gI m 163 (b + 1) = nI N) (hN8 : N ≤ 8) (hko : gK m o = some (.inr (4, 1))) (hE : ∀ E, X10_stages_x g m b a N = some E → E = "java/util/NoSuchElementException") : mT l g yL_stages (.codeWith yL_stages cL_stages 4 (Option.some FieldType.int) [(0, 9, 12, 33)]) 8 133 1 6 [.ref b, .int a, .ref o] m (fun u m' => (X10_stages_x g m b a N = none ∧ u = some (.int 0) ∧ m' = (sL m o 0 (X10_stages_r g m b a N).toInt64)) ∨ ∃ (E : String) (k : Int32) (n9 : Nat), X10_stages_x g m b a N = some E ∧ u = some (.int k) ∧ ([("java/util/NoSuchElementException", 1)] : List (String × Int32)).lookup E = some k ∧ gN m ≤ n9 ∧ m' = sN m n9) nX := by
  refine mT_ofH hO (by decide) (Nat.le_of_ble_eq_true rfl) (fun x hX hZ => ?_)
  show mV g x m 0 0 0 [(0, .ref b), (1, .int a), (2, .ref o)] []
  refine v_aload_n (pc := 0) hX dL_stages_0 rfl ?_
  refine v_iconst (v := 0) (pc := 1) hX dL_stages_1 (by decide) ?_
  refine v_aload_n (pc := 2) hX dL_stages_2 rfl ?_
  refine v_iload_n (pc := 3) hX dL_stages_3 rfl ?_
  refine v_callV (z := yX10_stages) (pc := 4) hX dL_stages_4 (c_X10_stages hO m b a N hb hN hN8) hb.1 rfl wd_1177 wd_1178 wd_1179 wd_1 wd_1180 ⟨by decide, by decide, (by decide +kernel : (parseMethodDescriptor yX10_stages.desc).map (fun d => d.parameters.length) = some 1)⟩ rfl (Nat.le_of_ble_eq_true rfl) ⟨⟨by decide, by decide⟩, by decide, by decide⟩ (fun E9 m9 h9 => ?_) (fun r9 m9 h9 => ?_)
  · obtain ⟨hx9, n9, hn9, rfl⟩ := h9
    rcases hE E9 hx9 with rfl
    · refine v_catch 0 hX hZ rfl (fun z hz => nomatch hz) (by decide) (by decide) wd_993 wd_870 (fun q => ?_)
      refine v_astore_n (pc := 12) hX dL_stages_12 (by decide) rfl ?_
      refine v_iconst (v := 1) (pc := 13) hX dL_stages_13 (by decide) ?_
      exact v_iret (pc := 14) hX hZ dL_stages_14 (by decide) (by decide) (Or.inr ⟨_, _, n9, hx9, rfl, (by decide), hn9, rfl⟩)
  · obtain ⟨hx9, rfl, h8⟩ := h9
    replace h8 := h8.symm
    subst h8
    show mV g x m _ _ _ [(0, .ref b), (1, .int a), (2, .ref o)] [.int (X10_stages_r g m b a N), .int 0, .ref o]
    refine v_i2l (pc := 7) hX dL_stages_7 ?_
    refine v_last (pc := 8) hX dL_stages_8 hko (j := 0) rfl (by decide) (by decide) ?_
    refine v_goto (tgt := 15) (pc := 9) hX dL_stages_9 (by decide) ?_
    refine v_iconst (v := 0) (pc := 15) hX dL_stages_15 (by decide) ?_
    exact v_iret (pc := 16) hX hZ dL_stages_16 (by decide) (by decide) (Or.inl ⟨hx9, rfl, rfl⟩)
set_option maxHeartbeats 4000000 in
theorem c_L_hardness {l : Launch} {g : mG} (hO : mO l g) (m : mM) (b : Nat) (a : Int32) (o : Nat) (N : Nat) (hb : SB m b) (hN : gI m 163 (b + 1) = nI N) (hN8 : N ≤ 8) (hko : gK m o = some (.inr (4, 1))) (hE : ∀ E, X10_hardness_x g m b a N = some E → E = "java/util/NoSuchElementException") : mT l g yL_hardness (.codeWith yL_hardness cL_hardness 4 (Option.some FieldType.int) [(0, 9, 12, 33)]) 8 133 1 6 [.ref b, .int a, .ref o] m (fun u m' => (X10_hardness_x g m b a N = none ∧ u = some (.int 0) ∧ m' = (sL m o 0 (X10_hardness_r g m b a N).toInt64)) ∨ ∃ (E : String) (k : Int32) (n9 : Nat), X10_hardness_x g m b a N = some E ∧ u = some (.int k) ∧ ([("java/util/NoSuchElementException", 1)] : List (String × Int32)).lookup E = some k ∧ gN m ≤ n9 ∧ m' = sN m n9) nX := by
  refine mT_ofH hO (by decide) (Nat.le_of_ble_eq_true rfl) (fun x hX hZ => ?_)
  show mV g x m 0 0 0 [(0, .ref b), (1, .int a), (2, .ref o)] []
  refine v_aload_n (pc := 0) hX dL_hardness_0 rfl ?_
  refine v_iconst (v := 0) (pc := 1) hX dL_hardness_1 (by decide) ?_
  refine v_aload_n (pc := 2) hX dL_hardness_2 rfl ?_
  refine v_iload_n (pc := 3) hX dL_hardness_3 rfl ?_
  refine v_callV (z := yX10_hardness) (pc := 4) hX dL_hardness_4 (c_X10_hardness hO m b a N hb hN hN8) hb.1 rfl wd_1184 wd_1185 wd_1186 wd_1 wd_1187 ⟨by decide, by decide, (by decide +kernel : (parseMethodDescriptor yX10_hardness.desc).map (fun d => d.parameters.length) = some 1)⟩ rfl (Nat.le_of_ble_eq_true rfl) ⟨⟨by decide, by decide⟩, by decide, by decide⟩ (fun E9 m9 h9 => ?_) (fun r9 m9 h9 => ?_)
  · obtain ⟨hx9, n9, hn9, rfl⟩ := h9
    rcases hE E9 hx9 with rfl
    · refine v_catch 0 hX hZ rfl (fun z hz => nomatch hz) (by decide) (by decide) wd_993 wd_870 (fun q => ?_)
      refine v_astore_n (pc := 12) hX dL_hardness_12 (by decide) rfl ?_
      refine v_iconst (v := 1) (pc := 13) hX dL_hardness_13 (by decide) ?_
      exact v_iret (pc := 14) hX hZ dL_hardness_14 (by decide) (by decide) (Or.inr ⟨_, _, n9, hx9, rfl, (by decide), hn9, rfl⟩)
  · obtain ⟨hx9, rfl, h8⟩ := h9
    replace h8 := h8.symm
    subst h8
    show mV g x m _ _ _ [(0, .ref b), (1, .int a), (2, .ref o)] [.int (X10_hardness_r g m b a N), .int 0, .ref o]
    refine v_i2l (pc := 7) hX dL_hardness_7 ?_
    refine v_last (pc := 8) hX dL_hardness_8 hko (j := 0) rfl (by decide) (by decide) ?_
    refine v_goto (tgt := 15) (pc := 9) hX dL_hardness_9 (by decide) ?_
    refine v_iconst (v := 0) (pc := 15) hX dL_hardness_15 (by decide) ?_
    exact v_iret (pc := 16) hX hZ dL_hardness_16 (by decide) (by decide) (Or.inl ⟨hx9, rfl, rfl⟩)
