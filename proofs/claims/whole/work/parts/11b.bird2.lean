def X10_required_r (g : mG) (m : mM) (b : Nat) (a : Int32) (N : Nat) : Option Nat := (match X3_find_r g m (b + 1) a N with | none => none | some p1 => some p1)
def X10_required_x (g : mG) (m : mM) (b : Nat) (a : Int32) (N : Nat) : Option String := (match X3_find_r g m (b + 1) a N with | none => some "java/util/NoSuchElementException" | some p1 => none)

set_option maxHeartbeats 4000000 in
set_option maxRecDepth 100000 in
theorem c_X10_required {l : Launch} {g : mG} (hO : mO l g) (m : mM) (b : Nat) (a : Int32) (N : Nat) (hb : SB m b) (hN : gI m 163 (b + 1) = nI N) (hN8 : N ≤ 8) : mT l g yX10_required (.code yX10_required cX10_required 3 (Option.some (FieldType.object "BirdForge$Piece"))) 6 90 1 6 [.ref b, .int a] m (fun r m' => X10_required_x g m b a N = none ∧ r = some (va_rf (X10_required_r g m b a N)) ∧ m' = m) (fun E9 m9 => X10_required_x g m b a N = some E9 ∧ ∃ n9, gN (m) ≤ n9 ∧ m9 = sN (m) n9) := by
  refine mT_of hO (by decide) (Nat.le_of_ble_eq_true rfl) (fun x hX hZ => ?_)
  show mV g x m 0 0 0 [(0, .ref b), (1, .int a)] []
  refine v_aload_n (pc := 0) hX dX10_required_0 rfl ?_
  refine v_get (v := .ref (b + 1)) (pc := 1) hX dX10_required_1 hb.k (ci := 11) (r := vwC11) rfl 0 (by decide) wd_306 (fvR hb.r0) ?_
  refine v_iload_n (pc := 4) hX dX10_required_4 rfl ?_
  refine v_callV (z := yX3_find) (pc := 5) hX dX10_required_5 (c_X3_find hO m (b + 1) a N hb.f1 hN hN8) hb.f1.k rfl wd_369 wd_370 wd_371 wd_2 wd_372 ⟨by decide, by decide, (by decide +kernel : (parseMethodDescriptor yX3_find.desc).map (fun d => d.parameters.length) = some 1)⟩ rfl (Nat.le_of_ble_eq_true rfl) ⟨⟨by decide, by decide⟩, by decide, by decide⟩ (fun E m9 h9 => h9.elim) (fun r9 m9 h9 => ?_)
  obtain ⟨rfl, h8⟩ := h9
  replace h8 := h8.symm
  subst h8
  show mV g x _ _ _ _ _ [va_rf (X3_find_r g m (b + 1) a N)]
  rcases hq1 : X3_find_r g m (b + 1) a N with _ | p1
  ·
    show mV g x _ _ _ _ _ [.null]
    refine v_astore_nN (pc := 8) hX dX10_required_8 (by decide) rfl ?_
    refine v_aload_nN (pc := 9) hX dX10_required_9 rfl ?_
    refine v_ifnonnull_n (pc := 10) hX dX10_required_10 ?_
    exact v_throw (E := "java/util/NoSuchElementException") (text := "there is no such piece") (names := exN) (ix := 13) (rx := ex_NoSuch_c) (wd := 2) (pc := 13) hX hZ dX10_required_13 dX10_required_16 (.inl ⟨rfl, dX10_required_17⟩) dX10_required_19 dX10_required_22 ex_NoSuch_0 ex_NoSuch_1 ex_NoSuch_2 ex_NoSuch_5 ex_NoSuch_f exN_f wd_868 wd_20 (ex_NoSuch wd_878) wd_877 (Nat.le_of_ble_eq_true rfl) ⟨by decide, by decide⟩ ⟨by decide, by decide⟩ (by decide) (by decide) (fun n9 hn9 => ⟨by simp only [X10_required_x, hq1], n9, hn9, rfl⟩)
  ·
    show mV g x _ _ _ _ _ [.ref p1]
    refine v_astore_n (pc := 8) hX dX10_required_8 (by decide) rfl ?_
    refine v_aload_n (pc := 9) hX dX10_required_9 rfl ?_
    refine v_ifnonnull_s (tgt := 23) (pc := 10) hX dX10_required_10 (by decide) ?_
    refine v_aload_n (pc := 23) hX dX10_required_23 rfl ?_
    exact v_aret (v := some p1) (pc := 24) hX hZ dX10_required_24 (Or.inl ⟨_, rfl⟩) (by decide) (by decide) ⟨(by simp only [X10_required_x, hq1]), (by simp only [X10_required_r, hq1]), rfl⟩
theorem req_x {g : mG} {m : mM} {b : Nat} {a : Int32} {N : Nat} {E9 : String} (h : X10_required_x g m b a N = some E9) : X3_find_r g m (b + 1) a N = none ∧ "java/util/NoSuchElementException" = E9 := by
  unfold X10_required_x at h
  cases h9 : X3_find_r g m (b + 1) a N with
  | none => rw [h9] at h; exact ⟨rfl, Option.some.inj h⟩
  | some p => rw [h9] at h; cases h
theorem req_p {g : mG} {m : mM} {b : Nat} {a : Int32} {N : Nat} (h : X10_required_x g m b a N = none) : ∃ p, X3_find_r g m (b + 1) a N = some p ∧ X10_required_r g m b a N = some p := by
  unfold X10_required_x at h
  unfold X10_required_r
  cases h9 : X3_find_r g m (b + 1) a N with
  | none => rw [h9] at h; cases h
  | some p => exact ⟨p, rfl, rfl⟩
def X10_requiredHammer_r (g : mG) (m : mM) (b : Nat) (a : Int32) (H : Nat) : Option Nat := (match X3_hammerIn_r g m (b + 1) a H with | none => none | some p1 => some p1)
def X10_requiredHammer_x (g : mG) (m : mM) (b : Nat) (a : Int32) (H : Nat) : Option String := (match X3_hammerIn_r g m (b + 1) a H with | none => some "java/lang/IndexOutOfBoundsException" | some p1 => none)

set_option maxHeartbeats 4000000 in
set_option maxRecDepth 100000 in
theorem c_X10_requiredHammer {l : Launch} {g : mG} (hO : mO l g) (m : mM) (b : Nat) (a : Int32) (H : Nat) (hb : SB m b) (hH : gI m 164 (b + 1) = nI H) (hH4 : H ≤ 4) : mT l g yX10_requiredHammer (.code yX10_requiredHammer cX10_requiredHammer 3 (Option.some (FieldType.object "BirdForge$Hammer"))) 6 90 1 6 [.ref b, .int a] m (fun r m' => X10_requiredHammer_x g m b a H = none ∧ r = some (va_rf (X10_requiredHammer_r g m b a H)) ∧ m' = m) (fun E9 m9 => X10_requiredHammer_x g m b a H = some E9 ∧ ∃ n9, gN (m) ≤ n9 ∧ m9 = sN (m) n9) := by
  refine mT_of hO (by decide) (Nat.le_of_ble_eq_true rfl) (fun x hX hZ => ?_)
  show mV g x m 0 0 0 [(0, .ref b), (1, .int a)] []
  refine v_aload_n (pc := 0) hX dX10_requiredHammer_0 rfl ?_
  refine v_get (v := .ref (b + 1)) (pc := 1) hX dX10_requiredHammer_1 hb.k (ci := 11) (r := vwC11) rfl 0 (by decide) wd_306 (fvR hb.r0) ?_
  refine v_iload_n (pc := 4) hX dX10_requiredHammer_4 rfl ?_
  refine v_callV (z := yX3_hammerIn) (pc := 5) hX dX10_requiredHammer_5 (c_X3_hammerIn hO m (b + 1) a H hb.f1 hH hH4) hb.f1.k rfl wd_1221 wd_1031 wd_1032 wd_2 wd_1033 ⟨by decide, by decide, (by decide +kernel : (parseMethodDescriptor yX3_hammerIn.desc).map (fun d => d.parameters.length) = some 1)⟩ rfl (Nat.le_of_ble_eq_true rfl) ⟨⟨by decide, by decide⟩, by decide, by decide⟩ (fun E m9 h9 => h9.elim) (fun r9 m9 h9 => ?_)
  obtain ⟨rfl, h8⟩ := h9
  replace h8 := h8.symm
  subst h8
  show mV g x _ _ _ _ _ [va_rf (X3_hammerIn_r g m (b + 1) a H)]
  rcases hq1 : X3_hammerIn_r g m (b + 1) a H with _ | p1
  ·
    show mV g x _ _ _ _ _ [.null]
    refine v_astore_nN (pc := 8) hX dX10_requiredHammer_8 (by decide) rfl ?_
    refine v_aload_nN (pc := 9) hX dX10_requiredHammer_9 rfl ?_
    refine v_ifnonnull_n (pc := 10) hX dX10_requiredHammer_10 ?_
    exact v_throw (E := "java/lang/IndexOutOfBoundsException") (text := "there is no such hammer") (names := exN) (ix := 7) (rx := ex_IndexOut_c) (wd := 2) (pc := 13) hX hZ dX10_requiredHammer_13 dX10_requiredHammer_16 (.inl ⟨rfl, dX10_requiredHammer_17⟩) dX10_requiredHammer_19 dX10_requiredHammer_22 ex_IndexOut_0 ex_IndexOut_1 ex_IndexOut_2 ex_IndexOut_5 ex_IndexOut_f exN_f wd_884 wd_21 (ex_IndexOut wd_894) wd_893 (Nat.le_of_ble_eq_true rfl) ⟨by decide, by decide⟩ ⟨by decide, by decide⟩ (by decide) (by decide) (fun n9 hn9 => ⟨by simp only [X10_requiredHammer_x, hq1], n9, hn9, rfl⟩)
  ·
    show mV g x _ _ _ _ _ [.ref p1]
    refine v_astore_n (pc := 8) hX dX10_requiredHammer_8 (by decide) rfl ?_
    refine v_aload_n (pc := 9) hX dX10_requiredHammer_9 rfl ?_
    refine v_ifnonnull_s (tgt := 23) (pc := 10) hX dX10_requiredHammer_10 (by decide) ?_
    refine v_aload_n (pc := 23) hX dX10_requiredHammer_23 rfl ?_
    exact v_aret (v := some p1) (pc := 24) hX hZ dX10_requiredHammer_24 (Or.inl ⟨_, rfl⟩) (by decide) (by decide) ⟨(by simp only [X10_requiredHammer_x, hq1]), (by simp only [X10_requiredHammer_r, hq1]), rfl⟩
theorem reqH_x {g : mG} {m : mM} {b : Nat} {a : Int32} {H : Nat} {E9 : String} (h : X10_requiredHammer_x g m b a H = some E9) : X3_hammerIn_r g m (b + 1) a H = none ∧ "java/lang/IndexOutOfBoundsException" = E9 := by
  unfold X10_requiredHammer_x at h
  cases h9 : X3_hammerIn_r g m (b + 1) a H with
  | none => rw [h9] at h; exact ⟨rfl, Option.some.inj h⟩
  | some p => rw [h9] at h; cases h
theorem reqH_p {g : mG} {m : mM} {b : Nat} {a : Int32} {H : Nat} (h : X10_requiredHammer_x g m b a H = none) : ∃ p, X3_hammerIn_r g m (b + 1) a H = some p ∧ X10_requiredHammer_r g m b a H = some p := by
  unfold X10_requiredHammer_x at h
  unfold X10_requiredHammer_r
  cases h9 : X3_hammerIn_r g m (b + 1) a H with
  | none => rw [h9] at h; cases h
  | some p => exact ⟨p, rfl, rfl⟩
def X10_kind_r (g : mG) (m : mM) (b : Nat) (a : Int32) (N : Nat) : Int32 := (match X3_find_r g m (b + 1) a N with | none => 0 | some p1 => gI m 289 p1)
def X10_kind_x (g : mG) (m : mM) (b : Nat) (a : Int32) (N : Nat) : Option String := (match X3_find_r g m (b + 1) a N with | none => some "java/util/NoSuchElementException" | some p1 => none)

set_option maxHeartbeats 4000000 in
set_option maxRecDepth 100000 in
theorem c_X10_kind {l : Launch} {g : mG} (hO : mO l g) (m : mM) (b : Nat) (a : Int32) (N : Nat) (hb : SB m b) (hN : gI m 163 (b + 1) = nI N) (hN8 : N ≤ 8) : mT l g yX10_kind (.code yX10_kind cX10_kind 2 (Option.some FieldType.char)) 7 112 1 6 [.ref b, .int a] m (fun r m' => X10_kind_x g m b a N = none ∧ r = some (.int (X10_kind_r g m b a N)) ∧ m' = m) (fun E9 m9 => X10_kind_x g m b a N = some E9 ∧ ∃ n9, gN (m) ≤ n9 ∧ m9 = sN (m) n9) := by
  refine mT_of hO (by decide) (Nat.le_of_ble_eq_true rfl) (fun x hX hZ => ?_)
  show mV g x m 0 0 0 [(0, .ref b), (1, .int a)] []
  refine v_aload_n (pc := 0) hX dX10_kind_0 rfl ?_
  refine v_iload_n (pc := 1) hX dX10_kind_1 rfl ?_
  refine v_callV (z := yX10_required) (pc := 2) hX dX10_kind_2 (c_X10_required hO m b a N hb hN hN8) hb.k rfl wd_1163 wd_1165 wp_4 wd_1 wd_1166 ⟨by decide, by decide, (by decide +kernel : (parseMethodDescriptor yX10_required.desc).map (fun d => d.parameters.length) = some 1)⟩ rfl (Nat.le_of_ble_eq_true rfl) ⟨⟨by decide, by decide⟩, by decide, by decide⟩ (fun E9 m9 h9 => by obtain ⟨hx9, n9, hn9, rfl⟩ := h9; obtain ⟨hq9, rfl⟩ := req_x hx9; exact v_out hX hZ (by decide) (by decide) ⟨by simp only [X10_kind_x, hq9], n9, hn9, rfl⟩) (fun r9 m9 h9 => ?_)
  obtain ⟨hx1, rfl, h8⟩ := h9
  replace h8 := h8.symm
  subst h8
  obtain ⟨p1, hq1, hr9⟩ := req_p hx1
  rw [hr9]
  show mV g x _ _ _ _ _ [.ref p1]
  refine v_getN (v := .int (gI m 289 p1)) (pc := 5) hX dX10_kind_5 (find_k hb.f1 hN8 hq1) (ci := 9) (r := vwC9) rfl 1 (by decide) wd_96 rfl ?_
  refine mV_ok (find_k hb.f1 hN8 hq1) (r := vwC9) rfl 1 (by decide) (fun n9 f9 => ?_)
  exact v_zret (pc := 8) hX hZ dX10_kind_8 n9 (by decide) (by decide) ⟨(by simp only [X10_kind_x, hq1]), (by simp only [X10_kind_r, hq1]), rfl⟩
def X10_temperature_r (g : mG) (m : mM) (b : Nat) (a : Int32) (N : Nat) : Int32 := (match X3_find_r g m (b + 1) a N with | none => 0 | some p1 => gI m 290 p1)
def X10_temperature_x (g : mG) (m : mM) (b : Nat) (a : Int32) (N : Nat) : Option String := (match X3_find_r g m (b + 1) a N with | none => some "java/util/NoSuchElementException" | some p1 => none)

set_option maxHeartbeats 4000000 in
set_option maxRecDepth 100000 in
theorem c_X10_temperature {l : Launch} {g : mG} (hO : mO l g) (m : mM) (b : Nat) (a : Int32) (N : Nat) (hb : SB m b) (hN : gI m 163 (b + 1) = nI N) (hN8 : N ≤ 8) : mT l g yX10_temperature (.code yX10_temperature cX10_temperature 2 (Option.some FieldType.int)) 7 112 1 6 [.ref b, .int a] m (fun r m' => X10_temperature_x g m b a N = none ∧ r = some (.int (X10_temperature_r g m b a N)) ∧ m' = m) (fun E9 m9 => X10_temperature_x g m b a N = some E9 ∧ ∃ n9, gN (m) ≤ n9 ∧ m9 = sN (m) n9) := by
  refine mT_of hO (by decide) (Nat.le_of_ble_eq_true rfl) (fun x hX hZ => ?_)
  show mV g x m 0 0 0 [(0, .ref b), (1, .int a)] []
  refine v_aload_n (pc := 0) hX dX10_temperature_0 rfl ?_
  refine v_iload_n (pc := 1) hX dX10_temperature_1 rfl ?_
  refine v_callV (z := yX10_required) (pc := 2) hX dX10_temperature_2 (c_X10_required hO m b a N hb hN hN8) hb.k rfl wd_1163 wd_1165 wp_4 wd_1 wd_1166 ⟨by decide, by decide, (by decide +kernel : (parseMethodDescriptor yX10_required.desc).map (fun d => d.parameters.length) = some 1)⟩ rfl (Nat.le_of_ble_eq_true rfl) ⟨⟨by decide, by decide⟩, by decide, by decide⟩ (fun E9 m9 h9 => by obtain ⟨hx9, n9, hn9, rfl⟩ := h9; obtain ⟨hq9, rfl⟩ := req_x hx9; exact v_out hX hZ (by decide) (by decide) ⟨by simp only [X10_temperature_x, hq9], n9, hn9, rfl⟩) (fun r9 m9 h9 => ?_)
  obtain ⟨hx1, rfl, h8⟩ := h9
  replace h8 := h8.symm
  subst h8
  obtain ⟨p1, hq1, hr9⟩ := req_p hx1
  rw [hr9]
  show mV g x _ _ _ _ _ [.ref p1]
  refine v_getN (v := .int (gI m 290 p1)) (pc := 5) hX dX10_temperature_5 (find_k hb.f1 hN8 hq1) (ci := 9) (r := vwC9) rfl 2 (by decide) wd_100 rfl ?_
  exact v_iret (pc := 8) hX hZ dX10_temperature_8 (by decide) (by decide) ⟨(by simp only [X10_temperature_x, hq1]), (by simp only [X10_temperature_r, hq1]), rfl⟩
def X10_stages_r (g : mG) (m : mM) (b : Nat) (a : Int32) (N : Nat) : Int32 := (match X3_find_r g m (b + 1) a N with | none => 0 | some p1 => gI m 291 p1)
def X10_stages_x (g : mG) (m : mM) (b : Nat) (a : Int32) (N : Nat) : Option String := (match X3_find_r g m (b + 1) a N with | none => some "java/util/NoSuchElementException" | some p1 => none)

set_option maxHeartbeats 4000000 in
set_option maxRecDepth 100000 in
theorem c_X10_stages {l : Launch} {g : mG} (hO : mO l g) (m : mM) (b : Nat) (a : Int32) (N : Nat) (hb : SB m b) (hN : gI m 163 (b + 1) = nI N) (hN8 : N ≤ 8) : mT l g yX10_stages (.code yX10_stages cX10_stages 2 (Option.some FieldType.int)) 7 112 1 6 [.ref b, .int a] m (fun r m' => X10_stages_x g m b a N = none ∧ r = some (.int (X10_stages_r g m b a N)) ∧ m' = m) (fun E9 m9 => X10_stages_x g m b a N = some E9 ∧ ∃ n9, gN (m) ≤ n9 ∧ m9 = sN (m) n9) := by
  refine mT_of hO (by decide) (Nat.le_of_ble_eq_true rfl) (fun x hX hZ => ?_)
  show mV g x m 0 0 0 [(0, .ref b), (1, .int a)] []
  refine v_aload_n (pc := 0) hX dX10_stages_0 rfl ?_
  refine v_iload_n (pc := 1) hX dX10_stages_1 rfl ?_
  refine v_callV (z := yX10_required) (pc := 2) hX dX10_stages_2 (c_X10_required hO m b a N hb hN hN8) hb.k rfl wd_1163 wd_1165 wp_4 wd_1 wd_1166 ⟨by decide, by decide, (by decide +kernel : (parseMethodDescriptor yX10_required.desc).map (fun d => d.parameters.length) = some 1)⟩ rfl (Nat.le_of_ble_eq_true rfl) ⟨⟨by decide, by decide⟩, by decide, by decide⟩ (fun E9 m9 h9 => by obtain ⟨hx9, n9, hn9, rfl⟩ := h9; obtain ⟨hq9, rfl⟩ := req_x hx9; exact v_out hX hZ (by decide) (by decide) ⟨by simp only [X10_stages_x, hq9], n9, hn9, rfl⟩) (fun r9 m9 h9 => ?_)
  obtain ⟨hx1, rfl, h8⟩ := h9
  replace h8 := h8.symm
  subst h8
  obtain ⟨p1, hq1, hr9⟩ := req_p hx1
  rw [hr9]
  show mV g x _ _ _ _ _ [.ref p1]
  refine v_getN (v := .int (gI m 291 p1)) (pc := 5) hX dX10_stages_5 (find_k hb.f1 hN8 hq1) (ci := 9) (r := vwC9) rfl 3 (by decide) wd_103 rfl ?_
  exact v_iret (pc := 8) hX hZ dX10_stages_8 (by decide) (by decide) ⟨(by simp only [X10_stages_x, hq1]), (by simp only [X10_stages_r, hq1]), rfl⟩
def X10_hardness_r (g : mG) (m : mM) (b : Nat) (a : Int32) (N : Nat) : Int32 := (match X3_find_r g m (b + 1) a N with | none => 0 | some p1 => gI m 292 p1)
def X10_hardness_x (g : mG) (m : mM) (b : Nat) (a : Int32) (N : Nat) : Option String := (match X3_find_r g m (b + 1) a N with | none => some "java/util/NoSuchElementException" | some p1 => none)

set_option maxHeartbeats 4000000 in
set_option maxRecDepth 100000 in
theorem c_X10_hardness {l : Launch} {g : mG} (hO : mO l g) (m : mM) (b : Nat) (a : Int32) (N : Nat) (hb : SB m b) (hN : gI m 163 (b + 1) = nI N) (hN8 : N ≤ 8) : mT l g yX10_hardness (.code yX10_hardness cX10_hardness 2 (Option.some FieldType.int)) 7 112 1 6 [.ref b, .int a] m (fun r m' => X10_hardness_x g m b a N = none ∧ r = some (.int (X10_hardness_r g m b a N)) ∧ m' = m) (fun E9 m9 => X10_hardness_x g m b a N = some E9 ∧ ∃ n9, gN (m) ≤ n9 ∧ m9 = sN (m) n9) := by
  refine mT_of hO (by decide) (Nat.le_of_ble_eq_true rfl) (fun x hX hZ => ?_)
  show mV g x m 0 0 0 [(0, .ref b), (1, .int a)] []
  refine v_aload_n (pc := 0) hX dX10_hardness_0 rfl ?_
  refine v_iload_n (pc := 1) hX dX10_hardness_1 rfl ?_
  refine v_callV (z := yX10_required) (pc := 2) hX dX10_hardness_2 (c_X10_required hO m b a N hb hN hN8) hb.k rfl wd_1163 wd_1165 wp_4 wd_1 wd_1166 ⟨by decide, by decide, (by decide +kernel : (parseMethodDescriptor yX10_required.desc).map (fun d => d.parameters.length) = some 1)⟩ rfl (Nat.le_of_ble_eq_true rfl) ⟨⟨by decide, by decide⟩, by decide, by decide⟩ (fun E9 m9 h9 => by obtain ⟨hx9, n9, hn9, rfl⟩ := h9; obtain ⟨hq9, rfl⟩ := req_x hx9; exact v_out hX hZ (by decide) (by decide) ⟨by simp only [X10_hardness_x, hq9], n9, hn9, rfl⟩) (fun r9 m9 h9 => ?_)
  obtain ⟨hx1, rfl, h8⟩ := h9
  replace h8 := h8.symm
  subst h8
  obtain ⟨p1, hq1, hr9⟩ := req_p hx1
  rw [hr9]
  show mV g x _ _ _ _ _ [.ref p1]
  refine v_getN (v := .int (gI m 292 p1)) (pc := 5) hX dX10_hardness_5 (find_k hb.f1 hN8 hq1) (ci := 9) (r := vwC9) rfl 4 (by decide) wd_106 rfl ?_
  exact v_iret (pc := 8) hX hZ dX10_hardness_8 (by decide) (by decide) ⟨(by simp only [X10_hardness_x, hq1]), (by simp only [X10_hardness_r, hq1]), rfl⟩
def X10_isInFurnace_r (g : mG) (m : mM) (b : Nat) (a : Int32) (N : Nat) : Int32 := (match X3_find_r g m (b + 1) a N with | none => 0 | some p1 => gI m 293 p1)
def X10_isInFurnace_x (g : mG) (m : mM) (b : Nat) (a : Int32) (N : Nat) : Option String := (match X3_find_r g m (b + 1) a N with | none => some "java/util/NoSuchElementException" | some p1 => none)

set_option maxHeartbeats 4000000 in
set_option maxRecDepth 100000 in
theorem c_X10_isInFurnace {l : Launch} {g : mG} (hO : mO l g) (m : mM) (b : Nat) (a : Int32) (N : Nat) (hb : SB m b) (hN : gI m 163 (b + 1) = nI N) (hN8 : N ≤ 8) : mT l g yX10_isInFurnace (.code yX10_isInFurnace cX10_isInFurnace 2 (Option.some FieldType.boolean)) 7 112 1 6 [.ref b, .int a] m (fun r m' => X10_isInFurnace_x g m b a N = none ∧ r = some (.int (X10_isInFurnace_r g m b a N)) ∧ m' = m) (fun E9 m9 => X10_isInFurnace_x g m b a N = some E9 ∧ ∃ n9, gN (m) ≤ n9 ∧ m9 = sN (m) n9) := by
  refine mT_of hO (by decide) (Nat.le_of_ble_eq_true rfl) (fun x hX hZ => ?_)
  show mV g x m 0 0 0 [(0, .ref b), (1, .int a)] []
  refine v_aload_n (pc := 0) hX dX10_isInFurnace_0 rfl ?_
  refine v_iload_n (pc := 1) hX dX10_isInFurnace_1 rfl ?_
  refine v_callV (z := yX10_required) (pc := 2) hX dX10_isInFurnace_2 (c_X10_required hO m b a N hb hN hN8) hb.k rfl wd_1163 wd_1165 wp_4 wd_1 wd_1166 ⟨by decide, by decide, (by decide +kernel : (parseMethodDescriptor yX10_required.desc).map (fun d => d.parameters.length) = some 1)⟩ rfl (Nat.le_of_ble_eq_true rfl) ⟨⟨by decide, by decide⟩, by decide, by decide⟩ (fun E9 m9 h9 => by obtain ⟨hx9, n9, hn9, rfl⟩ := h9; obtain ⟨hq9, rfl⟩ := req_x hx9; exact v_out hX hZ (by decide) (by decide) ⟨by simp only [X10_isInFurnace_x, hq9], n9, hn9, rfl⟩) (fun r9 m9 h9 => ?_)
  obtain ⟨hx1, rfl, h8⟩ := h9
  replace h8 := h8.symm
  subst h8
  obtain ⟨p1, hq1, hr9⟩ := req_p hx1
  rw [hr9]
  show mV g x _ _ _ _ _ [.ref p1]
  refine v_getN (v := .int (gI m 293 p1)) (pc := 5) hX dX10_isInFurnace_5 (find_k hb.f1 hN8 hq1) (ci := 9) (r := vwC9) rfl 5 (by decide) wd_109 rfl ?_
  refine mV_ok (find_k hb.f1 hN8 hq1) (r := vwC9) rfl 5 (by decide) (fun n9 f9 => ?_)
  exact v_zret (pc := 8) hX hZ dX10_isInFurnace_8 n9 (by decide) (by decide) ⟨(by simp only [X10_isInFurnace_x, hq1]), (by simp only [X10_isInFurnace_r, hq1]), rfl⟩
def X10_isQuenched_r (g : mG) (m : mM) (b : Nat) (a : Int32) (N : Nat) : Int32 := (match X3_find_r g m (b + 1) a N with | none => 0 | some p1 => gI m 294 p1)
def X10_isQuenched_x (g : mG) (m : mM) (b : Nat) (a : Int32) (N : Nat) : Option String := (match X3_find_r g m (b + 1) a N with | none => some "java/util/NoSuchElementException" | some p1 => none)

set_option maxHeartbeats 4000000 in
set_option maxRecDepth 100000 in
theorem c_X10_isQuenched {l : Launch} {g : mG} (hO : mO l g) (m : mM) (b : Nat) (a : Int32) (N : Nat) (hb : SB m b) (hN : gI m 163 (b + 1) = nI N) (hN8 : N ≤ 8) : mT l g yX10_isQuenched (.code yX10_isQuenched cX10_isQuenched 2 (Option.some FieldType.boolean)) 7 112 1 6 [.ref b, .int a] m (fun r m' => X10_isQuenched_x g m b a N = none ∧ r = some (.int (X10_isQuenched_r g m b a N)) ∧ m' = m) (fun E9 m9 => X10_isQuenched_x g m b a N = some E9 ∧ ∃ n9, gN (m) ≤ n9 ∧ m9 = sN (m) n9) := by
  refine mT_of hO (by decide) (Nat.le_of_ble_eq_true rfl) (fun x hX hZ => ?_)
  show mV g x m 0 0 0 [(0, .ref b), (1, .int a)] []
  refine v_aload_n (pc := 0) hX dX10_isQuenched_0 rfl ?_
  refine v_iload_n (pc := 1) hX dX10_isQuenched_1 rfl ?_
  refine v_callV (z := yX10_required) (pc := 2) hX dX10_isQuenched_2 (c_X10_required hO m b a N hb hN hN8) hb.k rfl wd_1163 wd_1165 wp_4 wd_1 wd_1166 ⟨by decide, by decide, (by decide +kernel : (parseMethodDescriptor yX10_required.desc).map (fun d => d.parameters.length) = some 1)⟩ rfl (Nat.le_of_ble_eq_true rfl) ⟨⟨by decide, by decide⟩, by decide, by decide⟩ (fun E9 m9 h9 => by obtain ⟨hx9, n9, hn9, rfl⟩ := h9; obtain ⟨hq9, rfl⟩ := req_x hx9; exact v_out hX hZ (by decide) (by decide) ⟨by simp only [X10_isQuenched_x, hq9], n9, hn9, rfl⟩) (fun r9 m9 h9 => ?_)
  obtain ⟨hx1, rfl, h8⟩ := h9
  replace h8 := h8.symm
  subst h8
  obtain ⟨p1, hq1, hr9⟩ := req_p hx1
  rw [hr9]
  show mV g x _ _ _ _ _ [.ref p1]
  refine v_getN (v := .int (gI m 294 p1)) (pc := 5) hX dX10_isQuenched_5 (find_k hb.f1 hN8 hq1) (ci := 9) (r := vwC9) rfl 6 (by decide) wd_112 rfl ?_
  refine mV_ok (find_k hb.f1 hN8 hq1) (r := vwC9) rfl 6 (by decide) (fun n9 f9 => ?_)
  exact v_zret (pc := 8) hX hZ dX10_isQuenched_8 n9 (by decide) (by decide) ⟨(by simp only [X10_isQuenched_x, hq1]), (by simp only [X10_isQuenched_r, hq1]), rfl⟩
def X10_hasPassed_r (g : mG) (m : mM) (b : Nat) (a : Int32) (N : Nat) : Int32 := (match X3_find_r g m (b + 1) a N with | none => 0 | some p1 => if (gR m 295 p1) = (some (vdA g 1)) then 1 else 0)
def X10_hasPassed_x (g : mG) (m : mM) (b : Nat) (a : Int32) (N : Nat) : Option String := (match X3_find_r g m (b + 1) a N with | none => some "java/util/NoSuchElementException" | some p1 => if (gR m 295 p1) = (some (vdA g 1)) then none else none)

set_option maxHeartbeats 4000000 in
set_option maxRecDepth 100000 in
theorem c_X10_hasPassed {l : Launch} {g : mG} (hO : mO l g) (m : mM) (b : Nat) (a : Int32) (N : Nat) (hb : SB m b) (hN : gI m 163 (b + 1) = nI N) (hN8 : N ≤ 8) : mT l g yX10_hasPassed (.code yX10_hasPassed cX10_hasPassed 2 (Option.some FieldType.boolean)) 7 112 1 6 [.ref b, .int a] m (fun r m' => X10_hasPassed_x g m b a N = none ∧ r = some (.int (X10_hasPassed_r g m b a N)) ∧ m' = m) (fun E9 m9 => X10_hasPassed_x g m b a N = some E9 ∧ ∃ n9, gN (m) ≤ n9 ∧ m9 = sN (m) n9) := by
  refine mT_of hO (by decide) (Nat.le_of_ble_eq_true rfl) (fun x hX hZ => ?_)
  show mV g x m 0 0 0 [(0, .ref b), (1, .int a)] []
  refine v_aload_n (pc := 0) hX dX10_hasPassed_0 rfl ?_
  refine v_iload_n (pc := 1) hX dX10_hasPassed_1 rfl ?_
  refine v_callV (z := yX10_required) (pc := 2) hX dX10_hasPassed_2 (c_X10_required hO m b a N hb hN hN8) hb.k rfl wd_1163 wd_1165 wp_4 wd_1 wd_1166 ⟨by decide, by decide, (by decide +kernel : (parseMethodDescriptor yX10_required.desc).map (fun d => d.parameters.length) = some 1)⟩ rfl (Nat.le_of_ble_eq_true rfl) ⟨⟨by decide, by decide⟩, by decide, by decide⟩ (fun E9 m9 h9 => by obtain ⟨hx9, n9, hn9, rfl⟩ := h9; obtain ⟨hq9, rfl⟩ := req_x hx9; exact v_out hX hZ (by decide) (by decide) ⟨by simp only [X10_hasPassed_x, hq9], n9, hn9, rfl⟩) (fun r9 m9 h9 => ?_)
  obtain ⟨hx1, rfl, h8⟩ := h9
  replace h8 := h8.symm
  subst h8
  obtain ⟨p1, hq1, hr9⟩ := req_p hx1
  rw [hr9]
  show mV g x _ _ _ _ _ [.ref p1]
  refine v_getN (v := va_rf (gR m 295 p1)) (pc := 5) hX dX10_hasPassed_5 (find_k hb.f1 hN8 hq1) (ci := 9) (r := vwC9) rfl 7 (by decide) wd_115 rfl ?_
  refine v_gets (pc := 8) hX dX10_hasPassed_8 (vd_Z1 hO) wd_1209 ?_
  refine v_acmp_ne (a := gR m 295 p1) (b := some (vdA g 1)) (tgt := 18) (pc := 11) hX dX10_hasPassed_11 (by decide) (fun c1 => ?_) (fun c1 => ?_)
  ·
    refine v_iconst (v := 0) (pc := 18) hX dX10_hasPassed_18 (by decide) ?_
    exact v_zret (pc := 19) hX hZ dX10_hasPassed_19 rfl (by decide) (by decide) ⟨(by simp only [X10_hasPassed_x, hq1, if_neg c1]), (by simp only [X10_hasPassed_r, hq1, if_neg c1]), rfl⟩
  ·
    refine v_iconst (v := 1) (pc := 14) hX dX10_hasPassed_14 (by decide) ?_
    refine v_goto (tgt := 19) (pc := 15) hX dX10_hasPassed_15 (by decide) ?_
    exact v_zret (pc := 19) hX hZ dX10_hasPassed_19 rfl (by decide) (by decide) ⟨(by simp only [X10_hasPassed_x, hq1, if_pos c1]), (by simp only [X10_hasPassed_r, hq1, if_pos c1]), rfl⟩
def X10_weight_r (g : mG) (m : mM) (b : Nat) (a : Int32) (H : Nat) : Int32 := (match X3_hammerIn_r g m (b + 1) a H with | none => 0 | some p1 => gI m 224 p1)
def X10_weight_x (g : mG) (m : mM) (b : Nat) (a : Int32) (H : Nat) : Option String := (match X3_hammerIn_r g m (b + 1) a H with | none => some "java/lang/IndexOutOfBoundsException" | some p1 => none)

set_option maxHeartbeats 4000000 in
set_option maxRecDepth 100000 in
theorem c_X10_weight {l : Launch} {g : mG} (hO : mO l g) (m : mM) (b : Nat) (a : Int32) (H : Nat) (hb : SB m b) (hH : gI m 164 (b + 1) = nI H) (hH4 : H ≤ 4) : mT l g yX10_weight (.code yX10_weight cX10_weight 2 (Option.some FieldType.int)) 7 112 1 6 [.ref b, .int a] m (fun r m' => X10_weight_x g m b a H = none ∧ r = some (.int (X10_weight_r g m b a H)) ∧ m' = m) (fun E9 m9 => X10_weight_x g m b a H = some E9 ∧ ∃ n9, gN (m) ≤ n9 ∧ m9 = sN (m) n9) := by
  refine mT_of hO (by decide) (Nat.le_of_ble_eq_true rfl) (fun x hX hZ => ?_)
  show mV g x m 0 0 0 [(0, .ref b), (1, .int a)] []
  refine v_aload_n (pc := 0) hX dX10_weight_0 rfl ?_
  refine v_iload_n (pc := 1) hX dX10_weight_1 rfl ?_
  refine v_callV (z := yX10_requiredHammer) (pc := 2) hX dX10_weight_2 (c_X10_requiredHammer hO m b a H hb hH hH4) hb.k rfl wd_1217 wd_1219 wp_5 wd_1 wd_1220 ⟨by decide, by decide, (by decide +kernel : (parseMethodDescriptor yX10_requiredHammer.desc).map (fun d => d.parameters.length) = some 1)⟩ rfl (Nat.le_of_ble_eq_true rfl) ⟨⟨by decide, by decide⟩, by decide, by decide⟩ (fun E9 m9 h9 => by obtain ⟨hx9, n9, hn9, rfl⟩ := h9; obtain ⟨hq9, rfl⟩ := reqH_x hx9; exact v_out hX hZ (by decide) (by decide) ⟨by simp only [X10_weight_x, hq9], n9, hn9, rfl⟩) (fun r9 m9 h9 => ?_)
  obtain ⟨hx1, rfl, h8⟩ := h9
  replace h8 := h8.symm
  subst h8
  obtain ⟨p1, hq1, hr9⟩ := reqH_p hx1
  rw [hr9]
  show mV g x _ _ _ _ _ [.ref p1]
  refine v_getN (v := .int (gI m 224 p1)) (pc := 5) hX dX10_weight_5 (hamIn_k hb.f1 hH4 hq1) (ci := 7) (r := vwC7) rfl 0 (by decide) wd_140 rfl ?_
  exact v_iret (pc := 8) hX hZ dX10_weight_8 (by decide) (by decide) ⟨(by simp only [X10_weight_x, hq1]), (by simp only [X10_weight_r, hq1]), rfl⟩
def X10_wear_r (g : mG) (m : mM) (b : Nat) (a : Int32) (H : Nat) : Int32 := (match X3_hammerIn_r g m (b + 1) a H with | none => 0 | some p1 => gI m 225 p1)
def X10_wear_x (g : mG) (m : mM) (b : Nat) (a : Int32) (H : Nat) : Option String := (match X3_hammerIn_r g m (b + 1) a H with | none => some "java/lang/IndexOutOfBoundsException" | some p1 => none)

set_option maxHeartbeats 4000000 in
set_option maxRecDepth 100000 in
theorem c_X10_wear {l : Launch} {g : mG} (hO : mO l g) (m : mM) (b : Nat) (a : Int32) (H : Nat) (hb : SB m b) (hH : gI m 164 (b + 1) = nI H) (hH4 : H ≤ 4) : mT l g yX10_wear (.code yX10_wear cX10_wear 2 (Option.some FieldType.int)) 7 112 1 6 [.ref b, .int a] m (fun r m' => X10_wear_x g m b a H = none ∧ r = some (.int (X10_wear_r g m b a H)) ∧ m' = m) (fun E9 m9 => X10_wear_x g m b a H = some E9 ∧ ∃ n9, gN (m) ≤ n9 ∧ m9 = sN (m) n9) := by
  refine mT_of hO (by decide) (Nat.le_of_ble_eq_true rfl) (fun x hX hZ => ?_)
  show mV g x m 0 0 0 [(0, .ref b), (1, .int a)] []
  refine v_aload_n (pc := 0) hX dX10_wear_0 rfl ?_
  refine v_iload_n (pc := 1) hX dX10_wear_1 rfl ?_
  refine v_callV (z := yX10_requiredHammer) (pc := 2) hX dX10_wear_2 (c_X10_requiredHammer hO m b a H hb hH hH4) hb.k rfl wd_1217 wd_1219 wp_5 wd_1 wd_1220 ⟨by decide, by decide, (by decide +kernel : (parseMethodDescriptor yX10_requiredHammer.desc).map (fun d => d.parameters.length) = some 1)⟩ rfl (Nat.le_of_ble_eq_true rfl) ⟨⟨by decide, by decide⟩, by decide, by decide⟩ (fun E9 m9 h9 => by obtain ⟨hx9, n9, hn9, rfl⟩ := h9; obtain ⟨hq9, rfl⟩ := reqH_x hx9; exact v_out hX hZ (by decide) (by decide) ⟨by simp only [X10_wear_x, hq9], n9, hn9, rfl⟩) (fun r9 m9 h9 => ?_)
  obtain ⟨hx1, rfl, h8⟩ := h9
  replace h8 := h8.symm
  subst h8
  obtain ⟨p1, hq1, hr9⟩ := reqH_p hx1
  rw [hr9]
  show mV g x _ _ _ _ _ [.ref p1]
  refine v_getN (v := .int (gI m 225 p1)) (pc := 5) hX dX10_wear_5 (hamIn_k hb.f1 hH4 hq1) (ci := 7) (r := vwC7) rfl 1 (by decide) wd_143 rfl ?_
  exact v_iret (pc := 8) hX hZ dX10_wear_8 (by decide) (by decide) ⟨(by simp only [X10_wear_x, hq1]), (by simp only [X10_wear_r, hq1]), rfl⟩
def X10_test_r (g : mG) (m : mM) (b : Nat) (a : Int32) (N : Nat) (nx : Nat) : Int32 := (match X10_settle_x g ((X3_examine_m g ((X6_prepare_m g m (b + 49) (b + 1) nx)) (b + 1) a N)) b (X3_examine_r g ((X6_prepare_m g m (b + 49) (b + 1) nx)) (b + 1) a N)  with | some _ => 0 | none => if (X10_settle_r g ((X3_examine_m g ((X6_prepare_m g m (b + 49) (b + 1) nx)) (b + 1) a N)) b (X3_examine_r g ((X6_prepare_m g m (b + 49) (b + 1) nx)) (b + 1) a N) ) = 1 then 1 else 0)
def X10_test_m (g : mG) (m : mM) (b : Nat) (a : Int32) (N : Nat) (nx : Nat) : mM := (match X10_settle_x g ((X3_examine_m g ((X6_prepare_m g m (b + 49) (b + 1) nx)) (b + 1) a N)) b (X3_examine_r g ((X6_prepare_m g m (b + 49) (b + 1) nx)) (b + 1) a N)  with | some _ => (X10_settle_m g ((X3_examine_m g ((X6_prepare_m g m (b + 49) (b + 1) nx)) (b + 1) a N)) b (X3_examine_r g ((X6_prepare_m g m (b + 49) (b + 1) nx)) (b + 1) a N) ) | none => if (X10_settle_r g ((X3_examine_m g ((X6_prepare_m g m (b + 49) (b + 1) nx)) (b + 1) a N)) b (X3_examine_r g ((X6_prepare_m g m (b + 49) (b + 1) nx)) (b + 1) a N) ) = 1 then ((X10_settle_m g ((X3_examine_m g ((X6_prepare_m g m (b + 49) (b + 1) nx)) (b + 1) a N)) b (X3_examine_r g ((X6_prepare_m g m (b + 49) (b + 1) nx)) (b + 1) a N) )) else ((X10_settle_m g ((X3_examine_m g ((X6_prepare_m g m (b + 49) (b + 1) nx)) (b + 1) a N)) b (X3_examine_r g ((X6_prepare_m g m (b + 49) (b + 1) nx)) (b + 1) a N) )))
def X10_test_x (g : mG) (m : mM) (b : Nat) (a : Int32) (N : Nat) (nx : Nat) : Option String := (match X10_settle_x g ((X3_examine_m g ((X6_prepare_m g m (b + 49) (b + 1) nx)) (b + 1) a N)) b (X3_examine_r g ((X6_prepare_m g m (b + 49) (b + 1) nx)) (b + 1) a N)  with | some e9 => some e9 | none => if (X10_settle_r g ((X3_examine_m g ((X6_prepare_m g m (b + 49) (b + 1) nx)) (b + 1) a N)) b (X3_examine_r g ((X6_prepare_m g m (b + 49) (b + 1) nx)) (b + 1) a N) ) = 1 then none else none)
theorem kK_X10_test (g : mG) (m : mM) (b : Nat) (a : Int32) (N : Nat) (nx : Nat) : gK (X10_test_m g m b a N nx) = gK m := by
  unfold X10_test_m
  repeat' split
  all_goals simp only [mm, kK_X10_settle, kK_X3_examine, kK_X6_prepare]
theorem kN_X10_test (g : mG) (m : mM) (b : Nat) (a : Int32) (N : Nat) (nx : Nat) : gN (X10_test_m g m b a N nx) = gN m := by
  unfold X10_test_m
  repeat' split
  all_goals simp only [mm, kN_X10_settle, kN_X3_examine, kN_X6_prepare]
theorem kI_X10_test (g : mG) (m : mM) (b : Nat) (a : Int32) (N : Nat) (nx : Nat) (k a9 : Nat) (h0 : k ≠ 163) (h1 : k ≠ 164) (h2 : k ≠ 165) (h3 : k ≠ 166) (h4 : k ≠ 167) (h5 : k ≠ 168) (h6 : k ≠ 169) (h7 : k ≠ 170) (h8 : k ≠ 192) (h9 : k ≠ 193) (h10 : k ≠ 194) (h11 : k ≠ 224) (h12 : k ≠ 225) (h13 : k ≠ 257) (h14 : k ≠ 258) (h15 : k ≠ 288) (h16 : k ≠ 289) (h17 : k ≠ 290) (h18 : k ≠ 291) (h19 : k ≠ 292) (h20 : k ≠ 293) (h21 : k ≠ 294) : gI (X10_test_m g m b a N nx) k a9 = gI m k a9 := by
  unfold X10_test_m
  repeat' split
  all_goals simp [mm, kI_X10_settle, kI_X3_examine, kI_X6_prepare, h0, h1, h2, h3, h4, h5, h6, h7, h8, h9, h10, h11, h12, h13, h14, h15, h16, h17, h18, h19, h20, h21]
theorem kJ_X10_test (g : mG) (m : mM) (b : Nat) (a : Int32) (N : Nat) (nx : Nat) (k a9 : Nat) (h0 : k ≠ 171) (h1 : k ≠ 195) : gJ (X10_test_m g m b a N nx) k a9 = gJ m k a9 := by
  unfold X10_test_m
  repeat' split
  all_goals simp [mm, kJ_X10_settle, kJ_X3_examine, kJ_X6_prepare, h0, h1]
theorem kR_X10_test (g : mG) (m : mM) (b : Nat) (a : Int32) (N : Nat) (nx : Nat) (k a9 : Nat) (h0 : k ≠ 295) : gR (X10_test_m g m b a N nx) k a9 = gR m k a9 := by
  unfold X10_test_m
  repeat' split
  all_goals simp [mm, kR_X10_settle, kR_X3_examine, kR_X6_prepare, h0]
theorem kA_X10_test (g : mG) (m : mM) (b : Nat) (a : Int32) (N : Nat) (nx : Nat) : gA (X10_test_m g m b a N nx) = gA m := by
  unfold X10_test_m
  repeat' split
  all_goals simp only [mm, kA_X10_settle, kA_X3_examine, kA_X6_prepare]
theorem kQ_X10_test (g : mG) (m : mM) (b : Nat) (a : Int32) (N : Nat) (nx : Nat) : gQ (X10_test_m g m b a N nx) = gQ m := by
  unfold X10_test_m
  repeat' split
  all_goals simp only [mm, kQ_X10_settle, kQ_X3_examine, kQ_X6_prepare]
theorem kL_X10_test (g : mG) (m : mM) (b : Nat) (a : Int32) (N : Nat) (nx : Nat) : gL (X10_test_m g m b a N nx) = gL m := by
  unfold X10_test_m
  repeat' split
  all_goals simp only [mm, kL_X10_settle, kL_X3_examine, kL_X6_prepare]
theorem kD_X10_test (g : mG) (m : mM) (b : Nat) (a : Int32) (N : Nat) (nx : Nat) : gD (X10_test_m g m b a N nx) = gD m := by
  unfold X10_test_m
  repeat' split
  all_goals simp only [mm, kD_X10_settle, kD_X3_examine, kD_X6_prepare]
set_option maxHeartbeats 4000000 in
set_option maxRecDepth 100000 in
theorem c_X10_test {l : Launch} {g : mG} (hO : mO l g) (m : mM) (b : Nat) (a : Int32) (N : Nat) (nx : Nat) (hb : SB m b) (hN : gI m 163 (b + 1) = nI N) (hN8 : N ≤ 8) (hn : gI m 257 (b + 49) = nI nx) (hn9 : nx < 9) : mT l g yX10_test (.code yX10_test cX10_test 2 (Option.some FieldType.boolean)) 7 111 1 6 [.ref b, .int a] m (fun r m' => X10_test_x g m b a N nx = none ∧ r = some (.int (X10_test_r g m b a N nx)) ∧ m' = X10_test_m g m b a N nx) (fun E9 m9 => X10_test_x g m b a N nx = some E9 ∧ ∃ n9, gN (X10_test_m g m b a N nx) ≤ n9 ∧ m9 = sN (X10_test_m g m b a N nx) n9) := by
  refine mT_of hO (by decide) (Nat.le_of_ble_eq_true rfl) (fun x hX hZ => ?_)
  show mV g x m 0 0 0 [(0, .ref b), (1, .int a)] []
  refine v_aload_n (pc := 0) hX dX10_test_0 rfl ?_
  refine v_get (v := .ref (b + 49)) (pc := 1) hX dX10_test_1 hb.k (ci := 11) (r := vwC11) rfl 3 (by decide) wd_309 (fvR hb.r3) ?_
  refine v_aload_n (pc := 4) hX dX10_test_4 rfl ?_
  refine v_get (v := .ref (b + 1)) (pc := 5) hX dX10_test_5 hb.k (ci := 11) (r := vwC11) rfl 0 (by decide) wd_306 (fvR hb.r0) ?_
  refine v_callV (z := yX6_prepare) (pc := 8) hX dX10_test_8 (c_X6_prepare hO m (b + 49) (b + 1) nx hb.h hn hn9 hb.f1) hb.h.k rfl wd_855 wd_856 wd_857 wd_8 wd_858 ⟨by decide, by decide, (by decide +kernel : (parseMethodDescriptor yX6_prepare.desc).map (fun d => d.parameters.length) = some 1)⟩ rfl (Nat.le_of_ble_eq_true rfl) ⟨⟨by decide, by decide⟩, by decide, by decide⟩ (fun E m9 h9 => h9.elim) (fun r9 m9 h9 => ?_)
  obtain ⟨rfl, h8⟩ := h9
  replace h8 := h8.symm
  subst h8
  show mV g x _ _ _ _ _ []
  refine v_aload_n (pc := 11) hX dX10_test_11 rfl ?_
  refine v_aload_n (pc := 12) hX dX10_test_12 rfl ?_
  refine v_get (v := .ref (b + 1)) (pc := 13) hX dX10_test_13 (by simp only [mm, kK_X6_prepare]; exact hb.k) (ci := 11) (r := vwC11) rfl 0 (by decide) wd_306 (fvR (by simp [mm, kR_X6_prepare, hb.r0])) ?_
  refine v_iload_n (pc := 16) hX dX10_test_16 rfl ?_
  refine v_callV (z := yX3_examine) (pc := 17) hX dX10_test_17 (c_X3_examine hO ((X6_prepare_m g m (b + 49) (b + 1) nx)) (b + 1) a N (hb.f1.to (by simp only [mm, kK_X6_prepare]) (by simp [mm, kR_X6_prepare]) (by simp [mm, kR_X6_prepare]) (by simp [mm, kR_X6_prepare]) (by simp only [mm, kQ_X6_prepare])) (((show Fr (b + 49) (b + 195) m ((X6_prepare_m g m (b + 49) (b + 1) nx)) from ((Fr.rf).tr (fr_X6_prepare g m (b + 49) (b + 1) nx hb.h hn9 hb.f1) (by omega) (by omega))).gI (k := 163) (a := (b + 1)) (by omega)).trans hN) hN8) (by simp only [mm, kK_X6_prepare]; exact hb.f1.k) rfl wd_1065 wd_1066 wd_1067 wd_2 wd_1068 ⟨by decide, by decide, (by decide +kernel : (parseMethodDescriptor yX3_examine.desc).map (fun d => d.parameters.length) = some 1)⟩ rfl (Nat.le_of_ble_eq_true rfl) ⟨⟨by decide, by decide⟩, by decide, by decide⟩ (fun E m9 h9 => h9.elim) (fun r9 m9 h9 => ?_)
  obtain ⟨rfl, h8⟩ := h9
  replace h8 := h8.symm
  subst h8
  show mV g x _ _ _ _ _ [.int (X3_examine_r g ((X6_prepare_m g m (b + 49) (b + 1) nx)) (b + 1) a N), .ref b]
  refine v_callV (z := yX10_settle) (pc := 20) hX dX10_test_20 (c_X10_settle hO ((X3_examine_m g ((X6_prepare_m g m (b + 49) (b + 1) nx)) (b + 1) a N)) b (X3_examine_r g ((X6_prepare_m g m (b + 49) (b + 1) nx)) (b + 1) a N)  (hb.to (by simp only [mm, kK_X3_examine, kK_X6_prepare]) (fun k hk a => by simp [mm, kR_X3_examine, kR_X6_prepare, hk]) (by simp only [mm, kQ_X3_examine, kQ_X6_prepare]))) (by simp only [mm, kK_X3_examine, kK_X6_prepare]; exact hb.k) rfl wd_864 wd_866 wp_2 wd_1 wd_867 ⟨by decide, by decide, (by decide +kernel : (parseMethodDescriptor yX10_settle.desc).map (fun d => d.parameters.length) = some 1)⟩ rfl (Nat.le_of_ble_eq_true rfl) ⟨⟨by decide, by decide⟩, by decide, by decide⟩ (fun E9 m9 h9 => by obtain ⟨hx9, n9, hn9, rfl⟩ := h9; exact v_out hX hZ (by decide) (by decide) ⟨by simp only [X10_test_x, hx9], n9, (by simp only [X10_test_m, hx9]; exact hn9), (by simp only [X10_test_m, hx9])⟩) (fun r9 m9 h9 => ?_)
  obtain ⟨hx1, rfl, h8⟩ := h9
  replace h8 := h8.symm
  subst h8
  show mV g x _ _ _ _ _ [.int (X10_settle_r g ((X3_examine_m g ((X6_prepare_m g m (b + 49) (b + 1) nx)) (b + 1) a N)) b (X3_examine_r g ((X6_prepare_m g m (b + 49) (b + 1) nx)) (b + 1) a N) )]
  refine v_iconst (v := 1) (pc := 23) hX dX10_test_23 (by decide) ?_
  refine v_icmp_ne (tgt := 31) (pc := 24) hX dX10_test_24 (by decide) (fun c1 => ?_) (fun c1 => ?_)
  ·
    refine v_iconst (v := 0) (pc := 31) hX dX10_test_31 (by decide) ?_
    exact v_zret (pc := 32) hX hZ dX10_test_32 rfl (by decide) (by decide) ⟨(by simp only [X10_test_x, hx1, if_neg c1]), (by simp only [X10_test_r, hx1, if_neg c1]), (by simp only [X10_test_m, hx1, if_neg c1])⟩
  ·
    refine v_iconst (v := 1) (pc := 27) hX dX10_test_27 (by decide) ?_
    refine v_goto (tgt := 32) (pc := 28) hX dX10_test_28 (by decide) ?_
    exact v_zret (pc := 32) hX hZ dX10_test_32 rfl (by decide) (by decide) ⟨(by simp only [X10_test_x, hx1, if_pos c1]), (by simp only [X10_test_r, hx1, if_pos c1]), (by simp only [X10_test_m, hx1, if_pos c1])⟩
def X10_piecesInFurnace_r (g : mG) (m : mM) (b : Nat) (N : Nat) : Int32 := X3_countInFurnace_r g m (b + 1) N

set_option maxHeartbeats 4000000 in
set_option maxRecDepth 100000 in
theorem c_X10_piecesInFurnace {l : Launch} {g : mG} (hO : mO l g) (m : mM) (b : Nat) (N : Nat) (hb : SB m b) (hN : gI m 163 (b + 1) = nI N) (hN8 : N ≤ 8) : mT l g yX10_piecesInFurnace (.code yX10_piecesInFurnace cX10_piecesInFurnace 1 (Option.some FieldType.int)) 2 42 0 0 [.ref b] m (fun r m' => r = some (.int (X10_piecesInFurnace_r g m b N)) ∧ m' = m) nX := by
  refine mT_of hO (by decide) (Nat.le_of_ble_eq_true rfl) (fun x hX hZ => ?_)
  show mV g x m 0 0 0 [(0, .ref b)] []
  refine v_aload_n (pc := 0) hX dX10_piecesInFurnace_0 rfl ?_
  refine v_get (v := .ref (b + 1)) (pc := 1) hX dX10_piecesInFurnace_1 hb.k (ci := 11) (r := vwC11) rfl 0 (by decide) wd_306 (fvR hb.r0) ?_
  refine v_callV (z := yX3_countInFurnace) (pc := 4) hX dX10_piecesInFurnace_4 (c_X3_countInFurnace hO m (b + 1) N hb.f1 hN hN8) hb.f1.k rfl wd_357 wd_358 wd_359 wd_2 wd_360 ⟨by decide, by decide, (by decide +kernel : (parseMethodDescriptor yX3_countInFurnace.desc).map (fun d => d.parameters.length) = some 0)⟩ rfl (Nat.le_of_ble_eq_true rfl) ⟨⟨by decide, by decide⟩, by decide, by decide⟩ (fun E m9 h9 => h9.elim) (fun r9 m9 h9 => ?_)
  obtain ⟨rfl, h8⟩ := h9
  replace h8 := h8.symm
  subst h8
  show mV g x _ _ _ _ _ [.int (X3_countInFurnace_r g m (b + 1) N)]
  exact v_iret (pc := 7) hX hZ dX10_piecesInFurnace_7 (by decide) (by decide) ⟨(by rw [X10_piecesInFurnace_r]), rfl⟩
def X10_coalMinutes_r (g : mG) (m : mM) (b : Nat)  : Int32 := if (gI m 193 (b + 1 + 1)) = 0 then 0 else ((gI m 194 (b + 1 + 1)) / (gI m 193 (b + 1 + 1)))
def X10_coalMinutes_x (g : mG) (m : mM) (b : Nat)  : Option String := if (gI m 193 (b + 1 + 1)) = 0 then (some "java/lang/ArithmeticException") else none

set_option maxHeartbeats 4000000 in
set_option maxRecDepth 100000 in
theorem c_X10_coalMinutes {l : Launch} {g : mG} (hO : mO l g) (m : mM) (b : Nat)  (hb : SB m b) : mT l g yX10_coalMinutes (.code yX10_coalMinutes cX10_coalMinutes 2 (Option.some FieldType.int)) 6 90 1 6 [.ref b] m (fun r m' => X10_coalMinutes_x g m b  = none ∧ r = some (.int (X10_coalMinutes_r g m b )) ∧ m' = m) (fun E9 m9 => X10_coalMinutes_x g m b  = some E9 ∧ ∃ n9, gN (m) ≤ n9 ∧ m9 = sN (m) n9) := by
  refine mT_of hO (by decide) (Nat.le_of_ble_eq_true rfl) (fun x hX hZ => ?_)
  show mV g x m 0 0 0 [(0, .ref b)] []
  refine v_aload_n (pc := 0) hX dX10_coalMinutes_0 rfl ?_
  refine v_get (v := .ref (b + 1)) (pc := 1) hX dX10_coalMinutes_1 hb.k (ci := 11) (r := vwC11) rfl 0 (by decide) wd_306 (fvR hb.r0) ?_
  refine v_getN (v := .ref (b + 1 + 1)) (pc := 4) hX dX10_coalMinutes_4 hb.f1.k (ci := 5) (r := vwC5) rfl 0 (by decide) wd_151 (fvR hb.f1.r0) ?_
  refine v_getN (v := .int (gI m 193 (b + 1 + 1))) (pc := 7) hX dX10_coalMinutes_7 hb.f1.k1 (ci := 6) (r := vwC6) rfl 1 (by decide) wd_63 rfl ?_
  refine v_istore_n (pc := 10) hX dX10_coalMinutes_10 (by decide) rfl ?_
  refine v_iload_n (pc := 11) hX dX10_coalMinutes_11 rfl ?_
  refine v_if_ne (tgt := 25) (pc := 12) hX dX10_coalMinutes_12 (by decide) (fun c1 => ?_) (fun c1 => ?_)
  ·
    refine v_aload_n (pc := 25) hX dX10_coalMinutes_25 rfl ?_
    refine v_get (v := .ref (b + 1)) (pc := 26) hX dX10_coalMinutes_26 hb.k (ci := 11) (r := vwC11) rfl 0 (by decide) wd_306 (fvR hb.r0) ?_
    refine v_getN (v := .ref (b + 1 + 1)) (pc := 29) hX dX10_coalMinutes_29 hb.f1.k (ci := 5) (r := vwC5) rfl 0 (by decide) wd_151 (fvR hb.f1.r0) ?_
    refine v_getN (v := .int (gI m 194 (b + 1 + 1))) (pc := 32) hX dX10_coalMinutes_32 hb.f1.k1 (ci := 6) (r := vwC6) rfl 2 (by decide) wd_66 rfl ?_
    refine v_iload_n (pc := 35) hX dX10_coalMinutes_35 rfl ?_
    refine v_idiv (pc := 36) hX dX10_coalMinutes_36 (by assumption) ?_
    exact v_iret (pc := 37) hX hZ dX10_coalMinutes_37 (by decide) (by decide) ⟨(by rw [X10_coalMinutes_x, if_neg c1]), (by rw [X10_coalMinutes_r, if_neg c1]), rfl⟩
  ·
    exact v_throw (E := "java/lang/ArithmeticException") (text := "the bellows level is 0") (names := exN) (ix := 7) (rx := ex_Arith_c) (wd := 2) (pc := 15) hX hZ dX10_coalMinutes_15 dX10_coalMinutes_18 (.inl ⟨rfl, dX10_coalMinutes_19⟩) dX10_coalMinutes_21 dX10_coalMinutes_24 ex_Arith_0 ex_Arith_1 ex_Arith_2 ex_Arith_5 ex_Arith_f exN_f wd_1129 wd_27 (ex_Arith wd_1131) wd_1130 (Nat.le_of_ble_eq_true rfl) ⟨by decide, by decide⟩ ⟨by decide, by decide⟩ (by decide) (by decide) (fun n9 hn9 => ⟨by rw [X10_coalMinutes_x, if_pos c1], n9, hn9, rfl⟩)
def X10_exists_r (g : mG) (m : mM) (b : Nat) (a : Int32) (N : Nat) : Int32 := (match X3_find_r g m (b + 1) a N with | none => 0 | some p1 => 1)

set_option maxHeartbeats 4000000 in
set_option maxRecDepth 100000 in
theorem c_X10_exists {l : Launch} {g : mG} (hO : mO l g) (m : mM) (b : Nat) (a : Int32) (N : Nat) (hb : SB m b) (hN : gI m 163 (b + 1) = nI N) (hN8 : N ≤ 8) : mT l g yX10_exists (.code yX10_exists cX10_exists 2 (Option.some FieldType.boolean)) 2 42 0 0 [.ref b, .int a] m (fun r m' => r = some (.int (X10_exists_r g m b a N)) ∧ m' = m) nX := by
  refine mT_of hO (by decide) (Nat.le_of_ble_eq_true rfl) (fun x hX hZ => ?_)
  show mV g x m 0 0 0 [(0, .ref b), (1, .int a)] []
  refine v_aload_n (pc := 0) hX dX10_exists_0 rfl ?_
  refine v_get (v := .ref (b + 1)) (pc := 1) hX dX10_exists_1 hb.k (ci := 11) (r := vwC11) rfl 0 (by decide) wd_306 (fvR hb.r0) ?_
  refine v_iload_n (pc := 4) hX dX10_exists_4 rfl ?_
  refine v_callV (z := yX3_find) (pc := 5) hX dX10_exists_5 (c_X3_find hO m (b + 1) a N hb.f1 hN hN8) hb.f1.k rfl wd_369 wd_370 wd_371 wd_2 wd_372 ⟨by decide, by decide, (by decide +kernel : (parseMethodDescriptor yX3_find.desc).map (fun d => d.parameters.length) = some 1)⟩ rfl (Nat.le_of_ble_eq_true rfl) ⟨⟨by decide, by decide⟩, by decide, by decide⟩ (fun E m9 h9 => h9.elim) (fun r9 m9 h9 => ?_)
  obtain ⟨rfl, h8⟩ := h9
  replace h8 := h8.symm
  subst h8
  show mV g x _ _ _ _ _ [va_rf (X3_find_r g m (b + 1) a N)]
  rcases hq1 : X3_find_r g m (b + 1) a N with _ | p1
  ·
    show mV g x _ _ _ _ _ [.null]
    refine v_ifnull_n (tgt := 15) (pc := 8) hX dX10_exists_8 (by decide) ?_
    refine v_iconst (v := 0) (pc := 15) hX dX10_exists_15 (by decide) ?_
    exact v_zret (pc := 16) hX hZ dX10_exists_16 rfl (by decide) (by decide) ⟨(by simp only [X10_exists_r, hq1]), rfl⟩
  ·
    show mV g x _ _ _ _ _ [.ref p1]
    refine v_ifnull_s (pc := 8) hX dX10_exists_8 ?_
    refine v_iconst (v := 1) (pc := 11) hX dX10_exists_11 (by decide) ?_
    refine v_goto (tgt := 16) (pc := 12) hX dX10_exists_12 (by decide) ?_
    exact v_zret (pc := 16) hX hZ dX10_exists_16 rfl (by decide) (by decide) ⟨(by simp only [X10_exists_r, hq1]), rfl⟩
def X10_pieceAt_r (g : mG) (m : mM) (b : Nat) (a : Int32) (N : Nat) : Int32 := (match X3_pieceIn_r g m (b + 1) a N with | none => 0 | some p1 => gI m 288 p1)
def X10_pieceAt_x (g : mG) (m : mM) (b : Nat) (a : Int32) (N : Nat) : Option String := (match X3_pieceIn_r g m (b + 1) a N with | none => some "java/lang/IndexOutOfBoundsException" | some p1 => none)

set_option maxHeartbeats 4000000 in
set_option maxRecDepth 100000 in
theorem c_X10_pieceAt {l : Launch} {g : mG} (hO : mO l g) (m : mM) (b : Nat) (a : Int32) (N : Nat) (hb : SB m b) (hN : gI m 163 (b + 1) = nI N) (hN8 : N ≤ 8) : mT l g yX10_pieceAt (.code yX10_pieceAt cX10_pieceAt 3 (Option.some FieldType.int)) 6 90 1 6 [.ref b, .int a] m (fun r m' => X10_pieceAt_x g m b a N = none ∧ r = some (.int (X10_pieceAt_r g m b a N)) ∧ m' = m) (fun E9 m9 => X10_pieceAt_x g m b a N = some E9 ∧ ∃ n9, gN (m) ≤ n9 ∧ m9 = sN (m) n9) := by
  refine mT_of hO (by decide) (Nat.le_of_ble_eq_true rfl) (fun x hX hZ => ?_)
  show mV g x m 0 0 0 [(0, .ref b), (1, .int a)] []
  refine v_aload_n (pc := 0) hX dX10_pieceAt_0 rfl ?_
  refine v_get (v := .ref (b + 1)) (pc := 1) hX dX10_pieceAt_1 hb.k (ci := 11) (r := vwC11) rfl 0 (by decide) wd_306 (fvR hb.r0) ?_
  refine v_iload_n (pc := 4) hX dX10_pieceAt_4 rfl ?_
  refine v_callV (z := yX3_pieceIn) (pc := 5) hX dX10_pieceAt_5 (c_X3_pieceIn hO m (b + 1) a N hb.f1 hN hN8) hb.f1.k rfl wd_1151 wd_1152 wd_1153 wd_2 wd_1154 ⟨by decide, by decide, (by decide +kernel : (parseMethodDescriptor yX3_pieceIn.desc).map (fun d => d.parameters.length) = some 1)⟩ rfl (Nat.le_of_ble_eq_true rfl) ⟨⟨by decide, by decide⟩, by decide, by decide⟩ (fun E m9 h9 => h9.elim) (fun r9 m9 h9 => ?_)
  obtain ⟨rfl, h8⟩ := h9
  replace h8 := h8.symm
  subst h8
  show mV g x _ _ _ _ _ [va_rf (X3_pieceIn_r g m (b + 1) a N)]
  rcases hq1 : X3_pieceIn_r g m (b + 1) a N with _ | p1
  ·
    show mV g x _ _ _ _ _ [.null]
    refine v_astore_nN (pc := 8) hX dX10_pieceAt_8 (by decide) rfl ?_
    refine v_aload_nN (pc := 9) hX dX10_pieceAt_9 rfl ?_
    refine v_ifnonnull_n (pc := 10) hX dX10_pieceAt_10 ?_
    exact v_throw (E := "java/lang/IndexOutOfBoundsException") (text := "there is no such position") (names := exN) (ix := 7) (rx := ex_IndexOut_c) (wd := 2) (pc := 13) hX hZ dX10_pieceAt_13 dX10_pieceAt_16 (.inl ⟨rfl, dX10_pieceAt_17⟩) dX10_pieceAt_19 dX10_pieceAt_22 ex_IndexOut_0 ex_IndexOut_1 ex_IndexOut_2 ex_IndexOut_5 ex_IndexOut_f exN_f wd_884 wd_21 (ex_IndexOut wd_894) wd_1155 (Nat.le_of_ble_eq_true rfl) ⟨by decide, by decide⟩ ⟨by decide, by decide⟩ (by decide) (by decide) (fun n9 hn9 => ⟨by simp only [X10_pieceAt_x, hq1], n9, hn9, rfl⟩)
  ·
    show mV g x _ _ _ _ _ [.ref p1]
    refine v_astore_n (pc := 8) hX dX10_pieceAt_8 (by decide) rfl ?_
    refine v_aload_n (pc := 9) hX dX10_pieceAt_9 rfl ?_
    refine v_ifnonnull_s (tgt := 23) (pc := 10) hX dX10_pieceAt_10 (by decide) ?_
    refine v_aload_n (pc := 23) hX dX10_pieceAt_23 rfl ?_
    refine v_getN (v := .int (gI m 288 p1)) (pc := 24) hX dX10_pieceAt_24 (pieIn_k hb.f1 hN8 hq1) (ci := 9) (r := vwC9) rfl 0 (by decide) wd_93 rfl ?_
    exact v_iret (pc := 27) hX hZ dX10_pieceAt_27 (by decide) (by decide) ⟨(by simp only [X10_pieceAt_x, hq1]), (by simp only [X10_pieceAt_r, hq1]), rfl⟩
def X10_pieceAtRank_r (g : mG) (m : mM) (b : Nat) (a : Int32) (N : Nat) : Int32 := (match X3_pieceRanked_r g m (b + 1) a N with | none => 0 | some p1 => gI m 288 p1)
def X10_pieceAtRank_x (g : mG) (m : mM) (b : Nat) (a : Int32) (N : Nat) : Option String := (match X3_pieceRanked_r g m (b + 1) a N with | none => some "java/lang/IndexOutOfBoundsException" | some p1 => none)

set_option maxHeartbeats 4000000 in
set_option maxRecDepth 100000 in
theorem c_X10_pieceAtRank {l : Launch} {g : mG} (hO : mO l g) (m : mM) (b : Nat) (a : Int32) (N : Nat) (hb : SB m b) (hN : gI m 163 (b + 1) = nI N) (hN8 : N ≤ 8) : mT l g yX10_pieceAtRank (.code yX10_pieceAtRank cX10_pieceAtRank 3 (Option.some FieldType.int)) 6 90 1 6 [.ref b, .int a] m (fun r m' => X10_pieceAtRank_x g m b a N = none ∧ r = some (.int (X10_pieceAtRank_r g m b a N)) ∧ m' = m) (fun E9 m9 => X10_pieceAtRank_x g m b a N = some E9 ∧ ∃ n9, gN (m) ≤ n9 ∧ m9 = sN (m) n9) := by
  refine mT_of hO (by decide) (Nat.le_of_ble_eq_true rfl) (fun x hX hZ => ?_)
  show mV g x m 0 0 0 [(0, .ref b), (1, .int a)] []
  refine v_aload_n (pc := 0) hX dX10_pieceAtRank_0 rfl ?_
  refine v_get (v := .ref (b + 1)) (pc := 1) hX dX10_pieceAtRank_1 hb.k (ci := 11) (r := vwC11) rfl 0 (by decide) wd_306 (fvR hb.r0) ?_
  refine v_iload_n (pc := 4) hX dX10_pieceAtRank_4 rfl ?_
  refine v_callV (z := yX3_pieceRanked) (pc := 5) hX dX10_pieceAtRank_5 (c_X3_pieceRanked hO m (b + 1) a N hb.f1 hN hN8) hb.f1.k rfl wd_1256 wd_1257 wd_1258 wd_2 wd_1259 ⟨by decide, by decide, (by decide +kernel : (parseMethodDescriptor yX3_pieceRanked.desc).map (fun d => d.parameters.length) = some 1)⟩ rfl (Nat.le_of_ble_eq_true rfl) ⟨⟨by decide, by decide⟩, by decide, by decide⟩ (fun E m9 h9 => h9.elim) (fun r9 m9 h9 => ?_)
  obtain ⟨rfl, h8⟩ := h9
  replace h8 := h8.symm
  subst h8
  show mV g x _ _ _ _ _ [va_rf (X3_pieceRanked_r g m (b + 1) a N)]
  rcases hq1 : X3_pieceRanked_r g m (b + 1) a N with _ | p1
  ·
    show mV g x _ _ _ _ _ [.null]
    refine v_astore_nN (pc := 8) hX dX10_pieceAtRank_8 (by decide) rfl ?_
    refine v_aload_nN (pc := 9) hX dX10_pieceAtRank_9 rfl ?_
    refine v_ifnonnull_n (pc := 10) hX dX10_pieceAtRank_10 ?_
    exact v_throw (E := "java/lang/IndexOutOfBoundsException") (text := "there is no such rank") (names := exN) (ix := 7) (rx := ex_IndexOut_c) (wd := 2) (pc := 13) hX hZ dX10_pieceAtRank_13 dX10_pieceAtRank_16 (.inl ⟨rfl, dX10_pieceAtRank_17⟩) dX10_pieceAtRank_19 dX10_pieceAtRank_22 ex_IndexOut_0 ex_IndexOut_1 ex_IndexOut_2 ex_IndexOut_5 ex_IndexOut_f exN_f wd_884 wd_21 (ex_IndexOut wd_894) wd_1268 (Nat.le_of_ble_eq_true rfl) ⟨by decide, by decide⟩ ⟨by decide, by decide⟩ (by decide) (by decide) (fun n9 hn9 => ⟨by simp only [X10_pieceAtRank_x, hq1], n9, hn9, rfl⟩)
  ·
    show mV g x _ _ _ _ _ [.ref p1]
    refine v_astore_n (pc := 8) hX dX10_pieceAtRank_8 (by decide) rfl ?_
    refine v_aload_n (pc := 9) hX dX10_pieceAtRank_9 rfl ?_
    refine v_ifnonnull_s (tgt := 23) (pc := 10) hX dX10_pieceAtRank_10 (by decide) ?_
    refine v_aload_n (pc := 23) hX dX10_pieceAtRank_23 rfl ?_
    refine v_getN (v := .int (gI m 288 p1)) (pc := 24) hX dX10_pieceAtRank_24 (pieR_k hb.f1 hN8 hq1) (ci := 9) (r := vwC9) rfl 0 (by decide) wd_93 rfl ?_
    exact v_iret (pc := 27) hX hZ dX10_pieceAtRank_27 (by decide) (by decide) ⟨(by simp only [X10_pieceAtRank_x, hq1]), (by simp only [X10_pieceAtRank_r, hq1]), rfl⟩
def X10_stroke_r (g : mG) (m : mM) (b : Nat) (a : Int32) (a2 : Int32) (N : Nat) (H : Nat) : Int32 := (match X3_find_r g m (b + 1) a N with | none => 0 | some p1 => (match X3_hammerIn_r g m (b + 1) a2 H with | none => 0 | some p2 => X7_stagesGained_r g m p1 (gI m 224 p2)))
def X10_stroke_x (g : mG) (m : mM) (b : Nat) (a : Int32) (a2 : Int32) (N : Nat) (H : Nat) : Option String := (match X3_find_r g m (b + 1) a N with | none => some "java/util/NoSuchElementException" | some p1 => (match X3_hammerIn_r g m (b + 1) a2 H with | none => some "java/lang/IndexOutOfBoundsException" | some p2 => none))

set_option maxHeartbeats 4000000 in
set_option maxRecDepth 100000 in
theorem c_X10_stroke {l : Launch} {g : mG} (hO : mO l g) (m : mM) (b : Nat) (a : Int32) (a2 : Int32) (N : Nat) (H : Nat) (hb : SB m b) (hN : gI m 163 (b + 1) = nI N) (hN8 : N ≤ 8) (hH : gI m 164 (b + 1) = nI H) (hH4 : H ≤ 4) : mT l g yX10_stroke (.code yX10_stroke cX10_stroke 4 (Option.some FieldType.int)) 7 112 2 12 [.ref b, .int a, .int a2] m (fun r m' => X10_stroke_x g m b a a2 N H = none ∧ r = some (.int (X10_stroke_r g m b a a2 N H)) ∧ m' = m) (fun E9 m9 => X10_stroke_x g m b a a2 N H = some E9 ∧ ∃ n9, gN (m) ≤ n9 ∧ m9 = sN (m) n9) := by
  refine mT_of hO (by decide) (Nat.le_of_ble_eq_true rfl) (fun x hX hZ => ?_)
  show mV g x m 0 0 0 [(0, .ref b), (1, .int a), (2, .int a2)] []
  refine v_aload_n (pc := 0) hX dX10_stroke_0 rfl ?_
  refine v_iload_n (pc := 1) hX dX10_stroke_1 rfl ?_
  refine v_callV (z := yX10_required) (pc := 2) hX dX10_stroke_2 (c_X10_required hO m b a N hb hN hN8) hb.k rfl wd_1163 wd_1165 wp_4 wd_1 wd_1166 ⟨by decide, by decide, (by decide +kernel : (parseMethodDescriptor yX10_required.desc).map (fun d => d.parameters.length) = some 1)⟩ rfl (Nat.le_of_ble_eq_true rfl) ⟨⟨by decide, by decide⟩, by decide, by decide⟩ (fun E9 m9 h9 => by obtain ⟨hx9, n9, hn9, rfl⟩ := h9; obtain ⟨hq9, rfl⟩ := req_x hx9; exact v_out hX hZ (by decide) (by decide) ⟨by simp only [X10_stroke_x, hq9], n9, hn9, rfl⟩) (fun r9 m9 h9 => ?_)
  obtain ⟨hx1, rfl, h8⟩ := h9
  replace h8 := h8.symm
  subst h8
  obtain ⟨p1, hq1, hr9⟩ := req_p hx1
  rw [hr9]
  show mV g x _ _ _ _ _ [.ref p1]
  refine v_astore_n (pc := 5) hX dX10_stroke_5 (by decide) rfl ?_
  refine v_aload_n (pc := 6) hX dX10_stroke_6 rfl ?_
  refine v_aload_n (pc := 7) hX dX10_stroke_7 rfl ?_
  refine v_iload_n (pc := 8) hX dX10_stroke_8 rfl ?_
  refine v_callV (z := yX10_requiredHammer) (pc := 9) hX dX10_stroke_9 (c_X10_requiredHammer hO m b a2 H hb hH hH4) hb.k rfl wd_1217 wd_1219 wp_5 wd_1 wd_1220 ⟨by decide, by decide, (by decide +kernel : (parseMethodDescriptor yX10_requiredHammer.desc).map (fun d => d.parameters.length) = some 1)⟩ rfl (Nat.le_of_ble_eq_true rfl) ⟨⟨by decide, by decide⟩, by decide, by decide⟩ (fun E9 m9 h9 => by obtain ⟨hx9, n9, hn9, rfl⟩ := h9; obtain ⟨hq9, rfl⟩ := reqH_x hx9; exact v_out hX hZ (by decide) (by decide) ⟨by simp only [X10_stroke_x, hq1, hq9], n9, hn9, rfl⟩) (fun r9 m9 h9 => ?_)
  obtain ⟨hx2, rfl, h8⟩ := h9
  replace h8 := h8.symm
  subst h8
  obtain ⟨p2, hq2, hr9⟩ := reqH_p hx2
  rw [hr9]
  show mV g x _ _ _ _ _ [.ref p2, .ref p1]
  refine v_getN (v := .int (gI m 224 p2)) (pc := 12) hX dX10_stroke_12 (hamIn_k hb.f1 hH4 hq2) (ci := 7) (r := vwC7) rfl 0 (by decide) wd_140 rfl ?_
  refine v_callV (z := yX7_stagesGained) (pc := 15) hX dX10_stroke_15 (c_X7_stagesGained hO m p1 (gI m 224 p2) (by exact (find_k hb.f1 hN8 hq1))) (find_k hb.f1 hN8 hq1) rfl wd_1222 wd_1039 wd_1040 wd_4 wd_1041 ⟨by decide, by decide, (by decide +kernel : (parseMethodDescriptor yX7_stagesGained.desc).map (fun d => d.parameters.length) = some 1)⟩ rfl (Nat.le_of_ble_eq_true rfl) ⟨⟨by decide, by decide⟩, by decide, by decide⟩ (fun E m9 h9 => h9.elim) (fun r9 m9 h9 => ?_)
  obtain ⟨rfl, h8⟩ := h9
  replace h8 := h8.symm
  subst h8
  show mV g x _ _ _ _ _ [.int (X7_stagesGained_r g m p1 (gI m 224 p2))]
  exact v_iret (pc := 18) hX hZ dX10_stroke_18 (by decide) (by decide) ⟨(by simp only [X10_stroke_x, hq1, hq2]), (by simp only [X10_stroke_r, hq1, hq2]), rfl⟩
def X10_heaviestHammer_r (g : mG) (m : mM) (b : Nat) (H : Nat) : Int32 := if (X3_bestHammer_r g m (b + 1) H) = ((-1)) then 0 else (X3_bestHammer_r g m (b + 1) H)
def X10_heaviestHammer_x (g : mG) (m : mM) (b : Nat) (H : Nat) : Option String := if (X3_bestHammer_r g m (b + 1) H) = ((-1)) then (some "java/util/NoSuchElementException") else none

set_option maxHeartbeats 4000000 in
set_option maxRecDepth 100000 in
theorem c_X10_heaviestHammer {l : Launch} {g : mG} (hO : mO l g) (m : mM) (b : Nat) (H : Nat) (hb : SB m b) (hH : gI m 164 (b + 1) = nI H) (hH4 : H ≤ 4) : mT l g yX10_heaviestHammer (.code yX10_heaviestHammer cX10_heaviestHammer 2 (Option.some FieldType.int)) 6 90 1 6 [.ref b] m (fun r m' => X10_heaviestHammer_x g m b H = none ∧ r = some (.int (X10_heaviestHammer_r g m b H)) ∧ m' = m) (fun E9 m9 => X10_heaviestHammer_x g m b H = some E9 ∧ ∃ n9, gN (m) ≤ n9 ∧ m9 = sN (m) n9) := by
  refine mT_of hO (by decide) (Nat.le_of_ble_eq_true rfl) (fun x hX hZ => ?_)
  show mV g x m 0 0 0 [(0, .ref b)] []
  refine v_aload_n (pc := 0) hX dX10_heaviestHammer_0 rfl ?_
  refine v_get (v := .ref (b + 1)) (pc := 1) hX dX10_heaviestHammer_1 hb.k (ci := 11) (r := vwC11) rfl 0 (by decide) wd_306 (fvR hb.r0) ?_
  refine v_callV (z := yX3_bestHammer) (pc := 4) hX dX10_heaviestHammer_4 (c_X3_bestHammer hO m (b + 1) H hb.f1 hH hH4) hb.f1.k rfl wd_1290 wd_1291 wd_1292 wd_2 wd_1293 ⟨by decide, by decide, (by decide +kernel : (parseMethodDescriptor yX3_bestHammer.desc).map (fun d => d.parameters.length) = some 0)⟩ rfl (Nat.le_of_ble_eq_true rfl) ⟨⟨by decide, by decide⟩, by decide, by decide⟩ (fun E m9 h9 => h9.elim) (fun r9 m9 h9 => ?_)
  obtain ⟨rfl, h8⟩ := h9
  replace h8 := h8.symm
  subst h8
  show mV g x _ _ _ _ _ [.int (X3_bestHammer_r g m (b + 1) H)]
  refine v_istore_n (pc := 7) hX dX10_heaviestHammer_7 (by decide) rfl ?_
  refine v_iload_n (pc := 8) hX dX10_heaviestHammer_8 rfl ?_
  refine v_iconst (v := (-1)) (pc := 9) hX dX10_heaviestHammer_9 (by decide) ?_
  refine v_icmp_ne (tgt := 24) (pc := 10) hX dX10_heaviestHammer_10 (by decide) (fun c1 => ?_) (fun c1 => ?_)
  ·
    refine v_iload_n (pc := 24) hX dX10_heaviestHammer_24 rfl ?_
    exact v_iret (pc := 25) hX hZ dX10_heaviestHammer_25 (by decide) (by decide) ⟨(by rw [X10_heaviestHammer_x, if_neg c1]), (by rw [X10_heaviestHammer_r, if_neg c1]), rfl⟩
  ·
    exact v_throw (E := "java/util/NoSuchElementException") (text := "there is no hammer that is not worn out") (names := exN) (ix := 13) (rx := ex_NoSuch_c) (wd := 3) (pc := 13) hX hZ dX10_heaviestHammer_13 dX10_heaviestHammer_16 (.inr ⟨rfl, dX10_heaviestHammer_17⟩) dX10_heaviestHammer_20 dX10_heaviestHammer_23 ex_NoSuch_0 ex_NoSuch_1 ex_NoSuch_2 ex_NoSuch_5 ex_NoSuch_f exN_f wd_868 wd_20 (ex_NoSuch wd_878) wd_1298 (Nat.le_of_ble_eq_true rfl) ⟨by decide, by decide⟩ ⟨by decide, by decide⟩ (by decide) (by decide) (fun n9 hn9 => ⟨by rw [X10_heaviestHammer_x, if_pos c1], n9, hn9, rfl⟩)
def X10_checkCooling_x (g : mG) (m : mM) (b : Nat) (a : Int32) (a2 : Int32) (N : Nat) : Option String := (match X3_find_r g m (b + 1) a N with | none => some "java/util/NoSuchElementException" | some p1 => if a2 < 20 then (some "java/lang/IllegalArgumentException") else (if a2 ≤ 1200 then none else (some "java/lang/IllegalArgumentException")))

set_option maxHeartbeats 4000000 in
set_option maxRecDepth 100000 in
theorem c_X10_checkCooling {l : Launch} {g : mG} (hO : mO l g) (m : mM) (b : Nat) (a : Int32) (a2 : Int32) (N : Nat) (hb : SB m b) (hN : gI m 163 (b + 1) = nI N) (hN8 : N ≤ 8) : mT l g yX10_checkCooling (.code yX10_checkCooling cX10_checkCooling 3 (Option.none : Option FieldType)) 6 90 1 6 [.ref b, .int a, .int a2] m (fun r m' => X10_checkCooling_x g m b a a2 N = none ∧ r = none ∧ m' = m) (fun E9 m9 => X10_checkCooling_x g m b a a2 N = some E9 ∧ ∃ n9, gN (m) ≤ n9 ∧ m9 = sN (m) n9) := by
  refine mT_of hO (by decide) (Nat.le_of_ble_eq_true rfl) (fun x hX hZ => ?_)
  show mV g x m 0 0 0 [(0, .ref b), (1, .int a), (2, .int a2)] []
  refine v_aload_n (pc := 0) hX dX10_checkCooling_0 rfl ?_
  refine v_get (v := .ref (b + 1)) (pc := 1) hX dX10_checkCooling_1 hb.k (ci := 11) (r := vwC11) rfl 0 (by decide) wd_306 (fvR hb.r0) ?_
  refine v_iload_n (pc := 4) hX dX10_checkCooling_4 rfl ?_
  refine v_callV (z := yX3_find) (pc := 5) hX dX10_checkCooling_5 (c_X3_find hO m (b + 1) a N hb.f1 hN hN8) hb.f1.k rfl wd_369 wd_370 wd_371 wd_2 wd_372 ⟨by decide, by decide, (by decide +kernel : (parseMethodDescriptor yX3_find.desc).map (fun d => d.parameters.length) = some 1)⟩ rfl (Nat.le_of_ble_eq_true rfl) ⟨⟨by decide, by decide⟩, by decide, by decide⟩ (fun E m9 h9 => h9.elim) (fun r9 m9 h9 => ?_)
  obtain ⟨rfl, h8⟩ := h9
  replace h8 := h8.symm
  subst h8
  show mV g x _ _ _ _ _ [va_rf (X3_find_r g m (b + 1) a N)]
  rcases hq1 : X3_find_r g m (b + 1) a N with _ | p1
  ·
    show mV g x _ _ _ _ _ [.null]
    refine v_ifnonnull_n (pc := 8) hX dX10_checkCooling_8 ?_
    exact v_throw (E := "java/util/NoSuchElementException") (text := "there is no such piece") (names := exN) (ix := 13) (rx := ex_NoSuch_c) (wd := 2) (pc := 11) hX hZ dX10_checkCooling_11 dX10_checkCooling_14 (.inl ⟨rfl, dX10_checkCooling_15⟩) dX10_checkCooling_17 dX10_checkCooling_20 ex_NoSuch_0 ex_NoSuch_1 ex_NoSuch_2 ex_NoSuch_5 ex_NoSuch_f exN_f wd_868 wd_20 (ex_NoSuch wd_878) wd_877 (Nat.le_of_ble_eq_true rfl) ⟨by decide, by decide⟩ ⟨by decide, by decide⟩ (by decide) (by decide) (fun n9 hn9 => ⟨by simp only [X10_checkCooling_x, hq1], n9, hn9, rfl⟩)
  ·
    show mV g x _ _ _ _ _ [.ref p1]
    refine v_ifnonnull_s (tgt := 21) (pc := 8) hX dX10_checkCooling_8 (by decide) ?_
    refine v_iload_n (pc := 21) hX dX10_checkCooling_21 rfl ?_
    refine v_bipush (v := 20) (pc := 22) hX dX10_checkCooling_22 (by decide) ?_
    refine v_icmp_lt (tgt := 34) (pc := 24) hX dX10_checkCooling_24 (by decide) (fun c1 => ?_) (fun c1 => ?_)
    ·
      exact v_throw (E := "java/lang/IllegalArgumentException") (text := "the temperature is out of range") (names := exN) (ix := 7) (rx := ex_IllArg_c) (wd := 2) (pc := 34) hX hZ dX10_checkCooling_34 dX10_checkCooling_37 (.inl ⟨rfl, dX10_checkCooling_38⟩) dX10_checkCooling_40 dX10_checkCooling_43 ex_IllArg_0 ex_IllArg_1 ex_IllArg_2 ex_IllArg_5 ex_IllArg_f exN_f wd_897 wd_22 (ex_IllArg wd_899) wd_1234 (Nat.le_of_ble_eq_true rfl) ⟨by decide, by decide⟩ ⟨by decide, by decide⟩ (by decide) (by decide) (fun n9 hn9 => ⟨by simp only [X10_checkCooling_x, hq1, if_pos c1], n9, hn9, rfl⟩)
    ·
      refine v_iload_n (pc := 27) hX dX10_checkCooling_27 rfl ?_
      refine v_sipush (v := 1200) (pc := 28) hX dX10_checkCooling_28 (by decide) ?_
      refine v_icmp_le (tgt := 44) (pc := 31) hX dX10_checkCooling_31 (by decide) (fun c2 => ?_) (fun c2 => ?_)
      ·
        exact v_vret (pc := 44) hX hZ dX10_checkCooling_44 (by decide) (by decide) ⟨(by simp only [X10_checkCooling_x, hq1, if_neg c1, if_pos c2]), rfl, rfl⟩
      ·
        exact v_throw (E := "java/lang/IllegalArgumentException") (text := "the temperature is out of range") (names := exN) (ix := 7) (rx := ex_IllArg_c) (wd := 2) (pc := 34) hX hZ dX10_checkCooling_34 dX10_checkCooling_37 (.inl ⟨rfl, dX10_checkCooling_38⟩) dX10_checkCooling_40 dX10_checkCooling_43 ex_IllArg_0 ex_IllArg_1 ex_IllArg_2 ex_IllArg_5 ex_IllArg_f exN_f wd_897 wd_22 (ex_IllArg wd_899) wd_1234 (Nat.le_of_ble_eq_true rfl) ⟨by decide, by decide⟩ ⟨by decide, by decide⟩ (by decide) (by decide) (fun n9 hn9 => ⟨by simp only [X10_checkCooling_x, hq1, if_neg c1, if_neg c2], n9, hn9, rfl⟩)
def X10_foundMinutes_r (g : mG) (m : mM) (b : Nat) (a : Int32)  : Int32 := if a = ((-1)) then 0 else a
def X10_foundMinutes_x (g : mG) (m : mM) (b : Nat) (a : Int32)  : Option String := if a = ((-1)) then (some "java/lang/IllegalStateException") else none

set_option maxHeartbeats 4000000 in
set_option maxRecDepth 100000 in
theorem c_X10_foundMinutes {l : Launch} {g : mG} (hO : mO l g) (m : mM) (b : Nat) (a : Int32)  (hb : SB m b) : mT l g yX10_foundMinutes (.code yX10_foundMinutes cX10_foundMinutes 2 (Option.some FieldType.int)) 6 90 1 6 [.ref b, .int a] m (fun r m' => X10_foundMinutes_x g m b a  = none ∧ r = some (.int (X10_foundMinutes_r g m b a )) ∧ m' = m) (fun E9 m9 => X10_foundMinutes_x g m b a  = some E9 ∧ ∃ n9, gN (m) ≤ n9 ∧ m9 = sN (m) n9) := by
  refine mT_of hO (by decide) (Nat.le_of_ble_eq_true rfl) (fun x hX hZ => ?_)
  show mV g x m 0 0 0 [(0, .ref b), (1, .int a)] []
  refine v_iload_n (pc := 0) hX dX10_foundMinutes_0 rfl ?_
  refine v_iconst (v := (-1)) (pc := 1) hX dX10_foundMinutes_1 (by decide) ?_
  refine v_icmp_ne (tgt := 15) (pc := 2) hX dX10_foundMinutes_2 (by decide) (fun c1 => ?_) (fun c1 => ?_)
  ·
    refine v_iload_n (pc := 15) hX dX10_foundMinutes_15 rfl ?_
    exact v_iret (pc := 16) hX hZ dX10_foundMinutes_16 (by decide) (by decide) ⟨(by rw [X10_foundMinutes_x, if_neg c1]), (by rw [X10_foundMinutes_r, if_neg c1]), rfl⟩
  ·
    exact v_throw (E := "java/lang/IllegalStateException") (text := "the piece stays hotter during the next 200 minutes") (names := exN) (ix := 7) (rx := ex_IllState_c) (wd := 2) (pc := 5) hX hZ dX10_foundMinutes_5 dX10_foundMinutes_8 (.inl ⟨rfl, dX10_foundMinutes_9⟩) dX10_foundMinutes_11 dX10_foundMinutes_14 ex_IllState_0 ex_IllState_1 ex_IllState_2 ex_IllState_5 ex_IllState_f exN_f wd_900 wd_23 (ex_IllState wd_910) wd_1240 (Nat.le_of_ble_eq_true rfl) ⟨by decide, by decide⟩ ⟨by decide, by decide⟩ (by decide) (by decide) (fun n9 hn9 => ⟨by rw [X10_foundMinutes_x, if_pos c1], n9, hn9, rfl⟩)
def X10_minutesToCool_r (g : mG) (m : mM) (b : Nat) (a : Int32) (a2 : Int32) (N : Nat) : Int32 := (match X10_checkCooling_x g m b a a2 N with | some _ => 0 | none => (match X10_foundMinutes_x g ((X2_minutesOnCopy_m g m (b + 195) (b + 1) a a2 N)) b (X2_minutesOnCopy_r g m (b + 195) (b + 1) a a2 N)  with | some _ => 0 | none => X10_foundMinutes_r g ((X2_minutesOnCopy_m g m (b + 195) (b + 1) a a2 N)) b (X2_minutesOnCopy_r g m (b + 195) (b + 1) a a2 N) ))
def X10_minutesToCool_m (g : mG) (m : mM) (b : Nat) (a : Int32) (a2 : Int32) (N : Nat) : mM := (match X10_checkCooling_x g m b a a2 N with | some _ => m | none => (match X10_foundMinutes_x g ((X2_minutesOnCopy_m g m (b + 195) (b + 1) a a2 N)) b (X2_minutesOnCopy_r g m (b + 195) (b + 1) a a2 N)  with | some _ => (X2_minutesOnCopy_m g m (b + 195) (b + 1) a a2 N) | none => (X2_minutesOnCopy_m g m (b + 195) (b + 1) a a2 N)))
def X10_minutesToCool_x (g : mG) (m : mM) (b : Nat) (a : Int32) (a2 : Int32) (N : Nat) : Option String := (match X10_checkCooling_x g m b a a2 N with | some e9 => some e9 | none => (match X10_foundMinutes_x g ((X2_minutesOnCopy_m g m (b + 195) (b + 1) a a2 N)) b (X2_minutesOnCopy_r g m (b + 195) (b + 1) a a2 N)  with | some e9 => some e9 | none => none))
theorem kK_X10_minutesToCool (g : mG) (m : mM) (b : Nat) (a : Int32) (a2 : Int32) (N : Nat) : gK (X10_minutesToCool_m g m b a a2 N) = gK m := by
  unfold X10_minutesToCool_m
  repeat' split
  all_goals simp only [mm, kK_X2_minutesOnCopy]
theorem kN_X10_minutesToCool (g : mG) (m : mM) (b : Nat) (a : Int32) (a2 : Int32) (N : Nat) : gN (X10_minutesToCool_m g m b a a2 N) = gN m := by
  unfold X10_minutesToCool_m
  repeat' split
  all_goals simp only [mm, kN_X2_minutesOnCopy]
theorem kI_X10_minutesToCool (g : mG) (m : mM) (b : Nat) (a : Int32) (a2 : Int32) (N : Nat) (k a9 : Nat) (h0 : k ≠ 163) (h1 : k ≠ 164) (h2 : k ≠ 165) (h3 : k ≠ 166) (h4 : k ≠ 167) (h5 : k ≠ 168) (h6 : k ≠ 169) (h7 : k ≠ 170) (h8 : k ≠ 192) (h9 : k ≠ 193) (h10 : k ≠ 194) (h11 : k ≠ 224) (h12 : k ≠ 225) (h13 : k ≠ 288) (h14 : k ≠ 289) (h15 : k ≠ 290) (h16 : k ≠ 291) (h17 : k ≠ 292) (h18 : k ≠ 293) (h19 : k ≠ 294) : gI (X10_minutesToCool_m g m b a a2 N) k a9 = gI m k a9 := by
  unfold X10_minutesToCool_m
  repeat' split
  all_goals simp [mm, kI_X2_minutesOnCopy, h0, h1, h2, h3, h4, h5, h6, h7, h8, h9, h10, h11, h12, h13, h14, h15, h16, h17, h18, h19]
theorem kJ_X10_minutesToCool (g : mG) (m : mM) (b : Nat) (a : Int32) (a2 : Int32) (N : Nat) (k a9 : Nat) (h0 : k ≠ 171) (h1 : k ≠ 195) : gJ (X10_minutesToCool_m g m b a a2 N) k a9 = gJ m k a9 := by
  unfold X10_minutesToCool_m
  repeat' split
  all_goals simp [mm, kJ_X2_minutesOnCopy, h0, h1]
theorem kR_X10_minutesToCool (g : mG) (m : mM) (b : Nat) (a : Int32) (a2 : Int32) (N : Nat) (k a9 : Nat) (h0 : k ≠ 295) : gR (X10_minutesToCool_m g m b a a2 N) k a9 = gR m k a9 := by
  unfold X10_minutesToCool_m
  repeat' split
  all_goals simp [mm, kR_X2_minutesOnCopy, h0]
theorem kA_X10_minutesToCool (g : mG) (m : mM) (b : Nat) (a : Int32) (a2 : Int32) (N : Nat) : gA (X10_minutesToCool_m g m b a a2 N) = gA m := by
  unfold X10_minutesToCool_m
  repeat' split
  all_goals simp only [mm, kA_X2_minutesOnCopy]
theorem kQ_X10_minutesToCool (g : mG) (m : mM) (b : Nat) (a : Int32) (a2 : Int32) (N : Nat) : gQ (X10_minutesToCool_m g m b a a2 N) = gQ m := by
  unfold X10_minutesToCool_m
  repeat' split
  all_goals simp only [mm, kQ_X2_minutesOnCopy]
theorem kL_X10_minutesToCool (g : mG) (m : mM) (b : Nat) (a : Int32) (a2 : Int32) (N : Nat) : gL (X10_minutesToCool_m g m b a a2 N) = gL m := by
  unfold X10_minutesToCool_m
  repeat' split
  all_goals simp only [mm, kL_X2_minutesOnCopy]
theorem kD_X10_minutesToCool (g : mG) (m : mM) (b : Nat) (a : Int32) (a2 : Int32) (N : Nat) : gD (X10_minutesToCool_m g m b a a2 N) = gD m := by
  unfold X10_minutesToCool_m
  repeat' split
  all_goals simp only [mm, kD_X2_minutesOnCopy]
set_option maxHeartbeats 4000000 in
set_option maxRecDepth 100000 in
theorem c_X10_minutesToCool {l : Launch} {g : mG} (hO : mO l g) (m : mM) (b : Nat) (a : Int32) (a2 : Int32) (N : Nat) (hb : SB m b) (hN : gI m 163 (b + 1) = nI N) (hN8 : N ≤ 8) : mT l g yX10_minutesToCool (.code yX10_minutesToCool cX10_minutesToCool 3 (Option.some FieldType.int)) 7 112 2 12 [.ref b, .int a, .int a2] m (fun r m' => X10_minutesToCool_x g m b a a2 N = none ∧ r = some (.int (X10_minutesToCool_r g m b a a2 N)) ∧ m' = X10_minutesToCool_m g m b a a2 N) (fun E9 m9 => X10_minutesToCool_x g m b a a2 N = some E9 ∧ ∃ n9, gN (X10_minutesToCool_m g m b a a2 N) ≤ n9 ∧ m9 = sN (X10_minutesToCool_m g m b a a2 N) n9) := by
  refine mT_of hO (by decide) (Nat.le_of_ble_eq_true rfl) (fun x hX hZ => ?_)
  show mV g x m 0 0 0 [(0, .ref b), (1, .int a), (2, .int a2)] []
  refine v_aload_n (pc := 0) hX dX10_minutesToCool_0 rfl ?_
  refine v_iload_n (pc := 1) hX dX10_minutesToCool_1 rfl ?_
  refine v_iload_n (pc := 2) hX dX10_minutesToCool_2 rfl ?_
  refine v_callV (z := yX10_checkCooling) (pc := 3) hX dX10_minutesToCool_3 (c_X10_checkCooling hO m b a a2 N hb hN hN8) hb.k rfl wd_1230 wd_1232 wp_6 wd_1 wd_1233 ⟨by decide, by decide, (by decide +kernel : (parseMethodDescriptor yX10_checkCooling.desc).map (fun d => d.parameters.length) = some 2)⟩ rfl (Nat.le_of_ble_eq_true rfl) ⟨⟨by decide, by decide⟩, by decide, by decide⟩ (fun E9 m9 h9 => by obtain ⟨hx9, n9, hn9, rfl⟩ := h9; exact v_out hX hZ (by decide) (by decide) ⟨by simp only [X10_minutesToCool_x, hx9], n9, (by simp only [X10_minutesToCool_m, hx9]; exact hn9), (by simp only [X10_minutesToCool_m, hx9])⟩) (fun r9 m9 h9 => ?_)
  obtain ⟨hx1, rfl, h8⟩ := h9
  replace h8 := h8.symm
  subst h8
  show mV g x _ _ _ _ _ []
  refine v_aload_n (pc := 6) hX dX10_minutesToCool_6 rfl ?_
  refine v_aload_n (pc := 7) hX dX10_minutesToCool_7 rfl ?_
  refine v_get (v := .ref (b + 195)) (pc := 8) hX dX10_minutesToCool_8 hb.k (ci := 11) (r := vwC11) rfl 4 (by decide) wd_310 (fvR hb.r4) ?_
  refine v_aload_n (pc := 11) hX dX10_minutesToCool_11 rfl ?_
  refine v_get (v := .ref (b + 1)) (pc := 12) hX dX10_minutesToCool_12 hb.k (ci := 11) (r := vwC11) rfl 0 (by decide) wd_306 (fvR hb.r0) ?_
  refine v_iload_n (pc := 15) hX dX10_minutesToCool_15 rfl ?_
  refine v_iload_n (pc := 16) hX dX10_minutesToCool_16 rfl ?_
  refine v_callV (z := yX2_minutesOnCopy) (pc := 17) hX dX10_minutesToCool_17 (c_X2_minutesOnCopy hO m (b + 195) (b + 1) a a2 N hb.c hb.f1 hN hN8) hb.c.k rfl wd_1235 wd_412 wd_413 wd_9 wd_414 ⟨by decide, by decide, (by decide +kernel : (parseMethodDescriptor yX2_minutesOnCopy.desc).map (fun d => d.parameters.length) = some 3)⟩ rfl (Nat.le_of_ble_eq_true rfl) ⟨⟨by decide, by decide⟩, by decide, by decide⟩ (fun E m9 h9 => h9.elim) (fun r9 m9 h9 => ?_)
  obtain ⟨rfl, h8⟩ := h9
  replace h8 := h8.symm
  subst h8
  show mV g x _ _ _ _ _ [.int (X2_minutesOnCopy_r g m (b + 195) (b + 1) a a2 N), .ref b]
  refine v_callV (z := yX10_foundMinutes) (pc := 20) hX dX10_minutesToCool_20 (c_X10_foundMinutes hO ((X2_minutesOnCopy_m g m (b + 195) (b + 1) a a2 N)) b (X2_minutesOnCopy_r g m (b + 195) (b + 1) a a2 N)  (hb.to (by simp only [mm, kK_X2_minutesOnCopy]) (fun k hk a => by simp [mm, kR_X2_minutesOnCopy, hk]) (by simp only [mm, kQ_X2_minutesOnCopy]))) (by simp only [mm, kK_X2_minutesOnCopy]; exact hb.k) rfl wd_1236 wd_1238 wp_7 wd_1 wd_1239 ⟨by decide, by decide, (by decide +kernel : (parseMethodDescriptor yX10_foundMinutes.desc).map (fun d => d.parameters.length) = some 1)⟩ rfl (Nat.le_of_ble_eq_true rfl) ⟨⟨by decide, by decide⟩, by decide, by decide⟩ (fun E9 m9 h9 => by obtain ⟨hx9, n9, hn9, rfl⟩ := h9; exact v_out hX hZ (by decide) (by decide) ⟨by simp only [X10_minutesToCool_x, hx1, hx9], n9, (by simp only [X10_minutesToCool_m, hx1, hx9]; exact hn9), (by simp only [X10_minutesToCool_m, hx1, hx9])⟩) (fun r9 m9 h9 => ?_)
  obtain ⟨hx2, rfl, h8⟩ := h9
  replace h8 := h8.symm
  subst h8
  show mV g x _ _ _ _ _ [.int (X10_foundMinutes_r g ((X2_minutesOnCopy_m g m (b + 195) (b + 1) a a2 N)) b (X2_minutesOnCopy_r g m (b + 195) (b + 1) a a2 N) )]
  exact v_iret (pc := 23) hX hZ dX10_minutesToCool_23 (by decide) (by decide) ⟨(by simp only [X10_minutesToCool_x, hx1, hx2]), (by simp only [X10_minutesToCool_r, hx1, hx2]), (by simp only [X10_minutesToCool_m, hx1, hx2])⟩
def X10_minutesToCoolAlone_r (g : mG) (m : mM) (b : Nat) (a : Int32) (a2 : Int32) (N : Nat) : Int32 := (match X10_checkCooling_x g m b a a2 N with | some _ => 0 | none => (match X10_foundMinutes_x g ((X2_minutesAlone_m g m (b + 195) (b + 1) a a2 N)) b (X2_minutesAlone_r g m (b + 195) (b + 1) a a2 N)  with | some _ => 0 | none => X10_foundMinutes_r g ((X2_minutesAlone_m g m (b + 195) (b + 1) a a2 N)) b (X2_minutesAlone_r g m (b + 195) (b + 1) a a2 N) ))
def X10_minutesToCoolAlone_m (g : mG) (m : mM) (b : Nat) (a : Int32) (a2 : Int32) (N : Nat) : mM := (match X10_checkCooling_x g m b a a2 N with | some _ => m | none => (match X10_foundMinutes_x g ((X2_minutesAlone_m g m (b + 195) (b + 1) a a2 N)) b (X2_minutesAlone_r g m (b + 195) (b + 1) a a2 N)  with | some _ => (X2_minutesAlone_m g m (b + 195) (b + 1) a a2 N) | none => (X2_minutesAlone_m g m (b + 195) (b + 1) a a2 N)))
def X10_minutesToCoolAlone_x (g : mG) (m : mM) (b : Nat) (a : Int32) (a2 : Int32) (N : Nat) : Option String := (match X10_checkCooling_x g m b a a2 N with | some e9 => some e9 | none => (match X10_foundMinutes_x g ((X2_minutesAlone_m g m (b + 195) (b + 1) a a2 N)) b (X2_minutesAlone_r g m (b + 195) (b + 1) a a2 N)  with | some e9 => some e9 | none => none))
theorem kK_X10_minutesToCoolAlone (g : mG) (m : mM) (b : Nat) (a : Int32) (a2 : Int32) (N : Nat) : gK (X10_minutesToCoolAlone_m g m b a a2 N) = gK m := by
  unfold X10_minutesToCoolAlone_m
  repeat' split
  all_goals simp only [mm, kK_X2_minutesAlone]
theorem kN_X10_minutesToCoolAlone (g : mG) (m : mM) (b : Nat) (a : Int32) (a2 : Int32) (N : Nat) : gN (X10_minutesToCoolAlone_m g m b a a2 N) = gN m := by
  unfold X10_minutesToCoolAlone_m
  repeat' split
  all_goals simp only [mm, kN_X2_minutesAlone]
theorem kI_X10_minutesToCoolAlone (g : mG) (m : mM) (b : Nat) (a : Int32) (a2 : Int32) (N : Nat) (k a9 : Nat) (h0 : k ≠ 192) (h1 : k ≠ 193) (h2 : k ≠ 194) (h3 : k ≠ 288) (h4 : k ≠ 289) (h5 : k ≠ 290) (h6 : k ≠ 291) (h7 : k ≠ 292) (h8 : k ≠ 293) (h9 : k ≠ 294) : gI (X10_minutesToCoolAlone_m g m b a a2 N) k a9 = gI m k a9 := by
  unfold X10_minutesToCoolAlone_m
  repeat' split
  all_goals simp [mm, kI_X2_minutesAlone, h0, h1, h2, h3, h4, h5, h6, h7, h8, h9]
theorem kJ_X10_minutesToCoolAlone (g : mG) (m : mM) (b : Nat) (a : Int32) (a2 : Int32) (N : Nat) (k a9 : Nat) (h0 : k ≠ 195) : gJ (X10_minutesToCoolAlone_m g m b a a2 N) k a9 = gJ m k a9 := by
  unfold X10_minutesToCoolAlone_m
  repeat' split
  all_goals simp [mm, kJ_X2_minutesAlone, h0]
theorem kR_X10_minutesToCoolAlone (g : mG) (m : mM) (b : Nat) (a : Int32) (a2 : Int32) (N : Nat) (k a9 : Nat) (h0 : k ≠ 295) : gR (X10_minutesToCoolAlone_m g m b a a2 N) k a9 = gR m k a9 := by
  unfold X10_minutesToCoolAlone_m
  repeat' split
  all_goals simp [mm, kR_X2_minutesAlone, h0]
theorem kA_X10_minutesToCoolAlone (g : mG) (m : mM) (b : Nat) (a : Int32) (a2 : Int32) (N : Nat) : gA (X10_minutesToCoolAlone_m g m b a a2 N) = gA m := by
  unfold X10_minutesToCoolAlone_m
  repeat' split
  all_goals simp only [mm, kA_X2_minutesAlone]
theorem kQ_X10_minutesToCoolAlone (g : mG) (m : mM) (b : Nat) (a : Int32) (a2 : Int32) (N : Nat) : gQ (X10_minutesToCoolAlone_m g m b a a2 N) = gQ m := by
  unfold X10_minutesToCoolAlone_m
  repeat' split
  all_goals simp only [mm, kQ_X2_minutesAlone]
theorem kL_X10_minutesToCoolAlone (g : mG) (m : mM) (b : Nat) (a : Int32) (a2 : Int32) (N : Nat) : gL (X10_minutesToCoolAlone_m g m b a a2 N) = gL m := by
  unfold X10_minutesToCoolAlone_m
  repeat' split
  all_goals simp only [mm, kL_X2_minutesAlone]
theorem kD_X10_minutesToCoolAlone (g : mG) (m : mM) (b : Nat) (a : Int32) (a2 : Int32) (N : Nat) : gD (X10_minutesToCoolAlone_m g m b a a2 N) = gD m := by
  unfold X10_minutesToCoolAlone_m
  repeat' split
  all_goals simp only [mm, kD_X2_minutesAlone]
set_option maxHeartbeats 4000000 in
set_option maxRecDepth 100000 in
theorem c_X10_minutesToCoolAlone {l : Launch} {g : mG} (hO : mO l g) (m : mM) (b : Nat) (a : Int32) (a2 : Int32) (N : Nat) (hb : SB m b) (hN : gI m 163 (b + 1) = nI N) (hN8 : N ≤ 8) : mT l g yX10_minutesToCoolAlone (.code yX10_minutesToCoolAlone cX10_minutesToCoolAlone 3 (Option.some FieldType.int)) 7 112 2 12 [.ref b, .int a, .int a2] m (fun r m' => X10_minutesToCoolAlone_x g m b a a2 N = none ∧ r = some (.int (X10_minutesToCoolAlone_r g m b a a2 N)) ∧ m' = X10_minutesToCoolAlone_m g m b a a2 N) (fun E9 m9 => X10_minutesToCoolAlone_x g m b a a2 N = some E9 ∧ ∃ n9, gN (X10_minutesToCoolAlone_m g m b a a2 N) ≤ n9 ∧ m9 = sN (X10_minutesToCoolAlone_m g m b a a2 N) n9) := by
  refine mT_of hO (by decide) (Nat.le_of_ble_eq_true rfl) (fun x hX hZ => ?_)
  show mV g x m 0 0 0 [(0, .ref b), (1, .int a), (2, .int a2)] []
  refine v_aload_n (pc := 0) hX dX10_minutesToCoolAlone_0 rfl ?_
  refine v_iload_n (pc := 1) hX dX10_minutesToCoolAlone_1 rfl ?_
  refine v_iload_n (pc := 2) hX dX10_minutesToCoolAlone_2 rfl ?_
  refine v_callV (z := yX10_checkCooling) (pc := 3) hX dX10_minutesToCoolAlone_3 (c_X10_checkCooling hO m b a a2 N hb hN hN8) hb.k rfl wd_1230 wd_1232 wp_6 wd_1 wd_1233 ⟨by decide, by decide, (by decide +kernel : (parseMethodDescriptor yX10_checkCooling.desc).map (fun d => d.parameters.length) = some 2)⟩ rfl (Nat.le_of_ble_eq_true rfl) ⟨⟨by decide, by decide⟩, by decide, by decide⟩ (fun E9 m9 h9 => by obtain ⟨hx9, n9, hn9, rfl⟩ := h9; exact v_out hX hZ (by decide) (by decide) ⟨by simp only [X10_minutesToCoolAlone_x, hx9], n9, (by simp only [X10_minutesToCoolAlone_m, hx9]; exact hn9), (by simp only [X10_minutesToCoolAlone_m, hx9])⟩) (fun r9 m9 h9 => ?_)
  obtain ⟨hx1, rfl, h8⟩ := h9
  replace h8 := h8.symm
  subst h8
  show mV g x _ _ _ _ _ []
  refine v_aload_n (pc := 6) hX dX10_minutesToCoolAlone_6 rfl ?_
  refine v_aload_n (pc := 7) hX dX10_minutesToCoolAlone_7 rfl ?_
  refine v_get (v := .ref (b + 195)) (pc := 8) hX dX10_minutesToCoolAlone_8 hb.k (ci := 11) (r := vwC11) rfl 4 (by decide) wd_310 (fvR hb.r4) ?_
  refine v_aload_n (pc := 11) hX dX10_minutesToCoolAlone_11 rfl ?_
  refine v_get (v := .ref (b + 1)) (pc := 12) hX dX10_minutesToCoolAlone_12 hb.k (ci := 11) (r := vwC11) rfl 0 (by decide) wd_306 (fvR hb.r0) ?_
  refine v_iload_n (pc := 15) hX dX10_minutesToCoolAlone_15 rfl ?_
  refine v_iload_n (pc := 16) hX dX10_minutesToCoolAlone_16 rfl ?_
  refine v_callV (z := yX2_minutesAlone) (pc := 17) hX dX10_minutesToCoolAlone_17 (c_X2_minutesAlone hO m (b + 195) (b + 1) a a2 N hb.c hb.f1 hN hN8) hb.c.k rfl wd_1248 wd_459 wd_460 wd_9 wd_461 ⟨by decide, by decide, (by decide +kernel : (parseMethodDescriptor yX2_minutesAlone.desc).map (fun d => d.parameters.length) = some 3)⟩ rfl (Nat.le_of_ble_eq_true rfl) ⟨⟨by decide, by decide⟩, by decide, by decide⟩ (fun E m9 h9 => h9.elim) (fun r9 m9 h9 => ?_)
  obtain ⟨rfl, h8⟩ := h9
  replace h8 := h8.symm
  subst h8
  show mV g x _ _ _ _ _ [.int (X2_minutesAlone_r g m (b + 195) (b + 1) a a2 N), .ref b]
  refine v_callV (z := yX10_foundMinutes) (pc := 20) hX dX10_minutesToCoolAlone_20 (c_X10_foundMinutes hO ((X2_minutesAlone_m g m (b + 195) (b + 1) a a2 N)) b (X2_minutesAlone_r g m (b + 195) (b + 1) a a2 N)  (hb.to (by simp only [mm, kK_X2_minutesAlone]) (fun k hk a => by simp [mm, kR_X2_minutesAlone, hk]) (by simp only [mm, kQ_X2_minutesAlone]))) (by simp only [mm, kK_X2_minutesAlone]; exact hb.k) rfl wd_1236 wd_1238 wp_7 wd_1 wd_1239 ⟨by decide, by decide, (by decide +kernel : (parseMethodDescriptor yX10_foundMinutes.desc).map (fun d => d.parameters.length) = some 1)⟩ rfl (Nat.le_of_ble_eq_true rfl) ⟨⟨by decide, by decide⟩, by decide, by decide⟩ (fun E9 m9 h9 => by obtain ⟨hx9, n9, hn9, rfl⟩ := h9; exact v_out hX hZ (by decide) (by decide) ⟨by simp only [X10_minutesToCoolAlone_x, hx1, hx9], n9, (by simp only [X10_minutesToCoolAlone_m, hx1, hx9]; exact hn9), (by simp only [X10_minutesToCoolAlone_m, hx1, hx9])⟩) (fun r9 m9 h9 => ?_)
  obtain ⟨hx2, rfl, h8⟩ := h9
  replace h8 := h8.symm
  subst h8
  show mV g x _ _ _ _ _ [.int (X10_foundMinutes_r g ((X2_minutesAlone_m g m (b + 195) (b + 1) a a2 N)) b (X2_minutesAlone_r g m (b + 195) (b + 1) a a2 N) )]
  exact v_iret (pc := 23) hX hZ dX10_minutesToCoolAlone_23 (by decide) (by decide) ⟨(by simp only [X10_minutesToCoolAlone_x, hx1, hx2]), (by simp only [X10_minutesToCoolAlone_r, hx1, hx2]), (by simp only [X10_minutesToCoolAlone_m, hx1, hx2])⟩
def X10_isConsistent_r (g : mG) (m : mM) (b : Nat) (N : Nat) (H : Nat) : Int32 := if (X3_wearsMatchStrokes_r g m (b + 1) H) = 0 then 0 else (if (X3_testedAreQuenched_r g m (b + 1) N) = 0 then 0 else (if (X3_coalMatches_r g m (b + 1) ) = 0 then 0 else (if (X2_bothWaysAgree_r g m (b + 195) (b + 1) N) = 0 then 0 else 1)))
def X10_isConsistent_m (g : mG) (m : mM) (b : Nat) (N : Nat) (H : Nat) : mM := if (X3_wearsMatchStrokes_r g m (b + 1) H) = 0 then m else (if (X3_testedAreQuenched_r g m (b + 1) N) = 0 then m else (if (X3_coalMatches_r g m (b + 1) ) = 0 then m else (if (X2_bothWaysAgree_r g m (b + 195) (b + 1) N) = 0 then ((X2_bothWaysAgree_m g m (b + 195) (b + 1) N)) else ((X2_bothWaysAgree_m g m (b + 195) (b + 1) N)))))
theorem kK_X10_isConsistent (g : mG) (m : mM) (b : Nat) (N : Nat) (H : Nat) : gK (X10_isConsistent_m g m b N H) = gK m := by
  unfold X10_isConsistent_m
  repeat' split
  all_goals simp only [mm, kK_X2_bothWaysAgree]
theorem kN_X10_isConsistent (g : mG) (m : mM) (b : Nat) (N : Nat) (H : Nat) : gN (X10_isConsistent_m g m b N H) = gN m := by
  unfold X10_isConsistent_m
  repeat' split
  all_goals simp only [mm, kN_X2_bothWaysAgree]
theorem kI_X10_isConsistent (g : mG) (m : mM) (b : Nat) (N : Nat) (H : Nat) (k a9 : Nat) (h0 : k ≠ 163) (h1 : k ≠ 164) (h2 : k ≠ 165) (h3 : k ≠ 166) (h4 : k ≠ 167) (h5 : k ≠ 168) (h6 : k ≠ 169) (h7 : k ≠ 170) (h8 : k ≠ 192) (h9 : k ≠ 193) (h10 : k ≠ 194) (h11 : k ≠ 224) (h12 : k ≠ 225) (h13 : k ≠ 288) (h14 : k ≠ 289) (h15 : k ≠ 290) (h16 : k ≠ 291) (h17 : k ≠ 292) (h18 : k ≠ 293) (h19 : k ≠ 294) : gI (X10_isConsistent_m g m b N H) k a9 = gI m k a9 := by
  unfold X10_isConsistent_m
  repeat' split
  all_goals simp [mm, kI_X2_bothWaysAgree, h0, h1, h2, h3, h4, h5, h6, h7, h8, h9, h10, h11, h12, h13, h14, h15, h16, h17, h18, h19]
theorem kJ_X10_isConsistent (g : mG) (m : mM) (b : Nat) (N : Nat) (H : Nat) (k a9 : Nat) (h0 : k ≠ 171) (h1 : k ≠ 195) : gJ (X10_isConsistent_m g m b N H) k a9 = gJ m k a9 := by
  unfold X10_isConsistent_m
  repeat' split
  all_goals simp [mm, kJ_X2_bothWaysAgree, h0, h1]
theorem kR_X10_isConsistent (g : mG) (m : mM) (b : Nat) (N : Nat) (H : Nat) (k a9 : Nat) (h0 : k ≠ 295) : gR (X10_isConsistent_m g m b N H) k a9 = gR m k a9 := by
  unfold X10_isConsistent_m
  repeat' split
  all_goals simp [mm, kR_X2_bothWaysAgree, h0]
theorem kA_X10_isConsistent (g : mG) (m : mM) (b : Nat) (N : Nat) (H : Nat) : gA (X10_isConsistent_m g m b N H) = gA m := by
  unfold X10_isConsistent_m
  repeat' split
  all_goals simp only [mm, kA_X2_bothWaysAgree]
theorem kQ_X10_isConsistent (g : mG) (m : mM) (b : Nat) (N : Nat) (H : Nat) : gQ (X10_isConsistent_m g m b N H) = gQ m := by
  unfold X10_isConsistent_m
  repeat' split
  all_goals simp only [mm, kQ_X2_bothWaysAgree]
theorem kL_X10_isConsistent (g : mG) (m : mM) (b : Nat) (N : Nat) (H : Nat) : gL (X10_isConsistent_m g m b N H) = gL m := by
  unfold X10_isConsistent_m
  repeat' split
  all_goals simp only [mm, kL_X2_bothWaysAgree]
theorem kD_X10_isConsistent (g : mG) (m : mM) (b : Nat) (N : Nat) (H : Nat) : gD (X10_isConsistent_m g m b N H) = gD m := by
  unfold X10_isConsistent_m
  repeat' split
  all_goals simp only [mm, kD_X2_bothWaysAgree]
set_option maxHeartbeats 4000000 in
set_option maxRecDepth 100000 in
theorem c_X10_isConsistent {l : Launch} {g : mG} (hO : mO l g) (m : mM) (b : Nat) (N : Nat) (H : Nat) (hb : SB m b) (hN : gI m 163 (b + 1) = nI N) (hN8 : N ≤ 8) (hH : gI m 164 (b + 1) = nI H) (hH4 : H ≤ 4) : mT l g yX10_isConsistent (.code yX10_isConsistent cX10_isConsistent 1 (Option.some FieldType.boolean)) 6 130 0 0 [.ref b] m (fun r m' => r = some (.int (X10_isConsistent_r g m b N H)) ∧ m' = X10_isConsistent_m g m b N H) nX := by
  refine mT_of hO (by decide) (Nat.le_of_ble_eq_true rfl) (fun x hX hZ => ?_)
  show mV g x m 0 0 0 [(0, .ref b)] []
  refine v_aload_n (pc := 0) hX dX10_isConsistent_0 rfl ?_
  refine v_get (v := .ref (b + 1)) (pc := 1) hX dX10_isConsistent_1 hb.k (ci := 11) (r := vwC11) rfl 0 (by decide) wd_306 (fvR hb.r0) ?_
  refine v_callV (z := yX3_wearsMatchStrokes) (pc := 4) hX dX10_isConsistent_4 (c_X3_wearsMatchStrokes hO m (b + 1) H hb.f1 hH hH4) hb.f1.k rfl wd_393 wd_394 wd_395 wd_2 wd_396 ⟨by decide, by decide, (by decide +kernel : (parseMethodDescriptor yX3_wearsMatchStrokes.desc).map (fun d => d.parameters.length) = some 0)⟩ rfl (Nat.le_of_ble_eq_true rfl) ⟨⟨by decide, by decide⟩, by decide, by decide⟩ (fun E m9 h9 => h9.elim) (fun r9 m9 h9 => ?_)
  obtain ⟨rfl, h8⟩ := h9
  replace h8 := h8.symm
  subst h8
  show mV g x _ _ _ _ _ [.int (X3_wearsMatchStrokes_r g m (b + 1) H)]
  refine v_if_eq (tgt := 48) (pc := 7) hX dX10_isConsistent_7 (by decide) (fun c1 => ?_) (fun c1 => ?_)
  ·
    refine v_iconst (v := 0) (pc := 48) hX dX10_isConsistent_48 (by decide) ?_
    exact v_zret (pc := 49) hX hZ dX10_isConsistent_49 rfl (by decide) (by decide) ⟨(by rw [X10_isConsistent_r, if_pos c1]), (by rw [X10_isConsistent_m, if_pos c1])⟩
  ·
    refine v_aload_n (pc := 10) hX dX10_isConsistent_10 rfl ?_
    refine v_get (v := .ref (b + 1)) (pc := 11) hX dX10_isConsistent_11 hb.k (ci := 11) (r := vwC11) rfl 0 (by decide) wd_306 (fvR hb.r0) ?_
    refine v_callV (z := yX3_testedAreQuenched) (pc := 14) hX dX10_isConsistent_14 (c_X3_testedAreQuenched hO m (b + 1) N hb.f1 hN hN8) hb.f1.k rfl wd_397 wd_398 wd_399 wd_2 wd_400 ⟨by decide, by decide, (by decide +kernel : (parseMethodDescriptor yX3_testedAreQuenched.desc).map (fun d => d.parameters.length) = some 0)⟩ rfl (Nat.le_of_ble_eq_true rfl) ⟨⟨by decide, by decide⟩, by decide, by decide⟩ (fun E m9 h9 => h9.elim) (fun r9 m9 h9 => ?_)
    obtain ⟨rfl, h8⟩ := h9
    replace h8 := h8.symm
    subst h8
    show mV g x _ _ _ _ _ [.int (X3_testedAreQuenched_r g m (b + 1) N)]
    refine v_if_eq (tgt := 48) (pc := 17) hX dX10_isConsistent_17 (by decide) (fun c2 => ?_) (fun c2 => ?_)
    ·
      refine v_iconst (v := 0) (pc := 48) hX dX10_isConsistent_48 (by decide) ?_
      exact v_zret (pc := 49) hX hZ dX10_isConsistent_49 rfl (by decide) (by decide) ⟨(by rw [X10_isConsistent_r, if_neg c1, if_pos c2]), (by rw [X10_isConsistent_m, if_neg c1, if_pos c2])⟩
    ·
      refine v_aload_n (pc := 20) hX dX10_isConsistent_20 rfl ?_
      refine v_get (v := .ref (b + 1)) (pc := 21) hX dX10_isConsistent_21 hb.k (ci := 11) (r := vwC11) rfl 0 (by decide) wd_306 (fvR hb.r0) ?_
      refine v_callV (z := yX3_coalMatches) (pc := 24) hX dX10_isConsistent_24 (c_X3_coalMatches hO m (b + 1)  hb.f1) hb.f1.k rfl wd_402 wd_403 wd_404 wd_2 wd_405 ⟨by decide, by decide, (by decide +kernel : (parseMethodDescriptor yX3_coalMatches.desc).map (fun d => d.parameters.length) = some 0)⟩ rfl (Nat.le_of_ble_eq_true rfl) ⟨⟨by decide, by decide⟩, by decide, by decide⟩ (fun E m9 h9 => h9.elim) (fun r9 m9 h9 => ?_)
      obtain ⟨rfl, h8⟩ := h9
      replace h8 := h8.symm
      subst h8
      show mV g x _ _ _ _ _ [.int (X3_coalMatches_r g m (b + 1) )]
      refine v_if_eq (tgt := 48) (pc := 27) hX dX10_isConsistent_27 (by decide) (fun c3 => ?_) (fun c3 => ?_)
      ·
        refine v_iconst (v := 0) (pc := 48) hX dX10_isConsistent_48 (by decide) ?_
        exact v_zret (pc := 49) hX hZ dX10_isConsistent_49 rfl (by decide) (by decide) ⟨(by rw [X10_isConsistent_r, if_neg c1, if_neg c2, if_pos c3]), (by rw [X10_isConsistent_m, if_neg c1, if_neg c2, if_pos c3])⟩
      ·
        refine v_aload_n (pc := 30) hX dX10_isConsistent_30 rfl ?_
        refine v_get (v := .ref (b + 195)) (pc := 31) hX dX10_isConsistent_31 hb.k (ci := 11) (r := vwC11) rfl 4 (by decide) wd_310 (fvR hb.r4) ?_
        refine v_aload_n (pc := 34) hX dX10_isConsistent_34 rfl ?_
        refine v_get (v := .ref (b + 1)) (pc := 35) hX dX10_isConsistent_35 hb.k (ci := 11) (r := vwC11) rfl 0 (by decide) wd_306 (fvR hb.r0) ?_
        refine v_callV (z := yX2_bothWaysAgree) (pc := 38) hX dX10_isConsistent_38 (c_X2_bothWaysAgree hO m (b + 195) (b + 1) N hb.c hb.f1 hN hN8 (by omega)) hb.c.k rfl wd_407 wd_408 wd_409 wd_9 wd_410 ⟨by decide, by decide, (by decide +kernel : (parseMethodDescriptor yX2_bothWaysAgree.desc).map (fun d => d.parameters.length) = some 1)⟩ rfl (Nat.le_of_ble_eq_true rfl) ⟨⟨by decide, by decide⟩, by decide, by decide⟩ (fun E m9 h9 => h9.elim) (fun r9 m9 h9 => ?_)
        obtain ⟨rfl, h8⟩ := h9
        replace h8 := h8.symm
        subst h8
        show mV g x _ _ _ _ _ [.int (X2_bothWaysAgree_r g m (b + 195) (b + 1) N)]
        refine v_if_eq (tgt := 48) (pc := 41) hX dX10_isConsistent_41 (by decide) (fun c4 => ?_) (fun c4 => ?_)
        ·
          refine v_iconst (v := 0) (pc := 48) hX dX10_isConsistent_48 (by decide) ?_
          exact v_zret (pc := 49) hX hZ dX10_isConsistent_49 rfl (by decide) (by decide) ⟨(by rw [X10_isConsistent_r, if_neg c1, if_neg c2, if_neg c3, if_pos c4]), (by rw [X10_isConsistent_m, if_neg c1, if_neg c2, if_neg c3, if_pos c4])⟩
        ·
          refine v_iconst (v := 1) (pc := 44) hX dX10_isConsistent_44 (by decide) ?_
          refine v_goto (tgt := 49) (pc := 45) hX dX10_isConsistent_45 (by decide) ?_
          exact v_zret (pc := 49) hX hZ dX10_isConsistent_49 rfl (by decide) (by decide) ⟨(by rw [X10_isConsistent_r, if_neg c1, if_neg c2, if_neg c3, if_neg c4]), (by rw [X10_isConsistent_m, if_neg c1, if_neg c2, if_neg c3, if_neg c4])⟩
def X10_errorPosition_r (g : mG) (m : mM) (b : Nat)  : Int32 := if (gI m 360 b) = ((-1)) then 0 else (gI m 360 b)
def X10_errorPosition_x (g : mG) (m : mM) (b : Nat)  : Option String := if (gI m 360 b) = ((-1)) then (some "java/util/NoSuchElementException") else none

set_option maxHeartbeats 4000000 in
set_option maxRecDepth 100000 in
theorem c_X10_errorPosition {l : Launch} {g : mG} (hO : mO l g) (m : mM) (b : Nat)  (hb : SB m b) : mT l g yX10_errorPosition (.code yX10_errorPosition cX10_errorPosition 1 (Option.some FieldType.int)) 6 90 1 6 [.ref b] m (fun r m' => X10_errorPosition_x g m b  = none ∧ r = some (.int (X10_errorPosition_r g m b )) ∧ m' = m) (fun E9 m9 => X10_errorPosition_x g m b  = some E9 ∧ ∃ n9, gN (m) ≤ n9 ∧ m9 = sN (m) n9) := by
  refine mT_of hO (by decide) (Nat.le_of_ble_eq_true rfl) (fun x hX hZ => ?_)
  show mV g x m 0 0 0 [(0, .ref b)] []
  refine v_aload_n (pc := 0) hX dX10_errorPosition_0 rfl ?_
  refine v_get (v := .int (gI m 360 b)) (pc := 1) hX dX10_errorPosition_1 hb.k (ci := 11) (r := vwC11) rfl 8 (by decide) wd_314 rfl ?_
  refine v_iconst (v := (-1)) (pc := 4) hX dX10_errorPosition_4 (by decide) ?_
  refine v_icmp_ne (tgt := 19) (pc := 5) hX dX10_errorPosition_5 (by decide) (fun c1 => ?_) (fun c1 => ?_)
  ·
    refine v_aload_n (pc := 19) hX dX10_errorPosition_19 rfl ?_
    refine v_get (v := .int (gI m 360 b)) (pc := 20) hX dX10_errorPosition_20 hb.k (ci := 11) (r := vwC11) rfl 8 (by decide) wd_314 rfl ?_
    exact v_iret (pc := 23) hX hZ dX10_errorPosition_23 (by decide) (by decide) ⟨(by rw [X10_errorPosition_x, if_neg c1]), (by rw [X10_errorPosition_r, if_neg c1]), rfl⟩
  ·
    exact v_throw (E := "java/util/NoSuchElementException") (text := "no error position was stored") (names := exN) (ix := 13) (rx := ex_NoSuch_c) (wd := 3) (pc := 8) hX hZ dX10_errorPosition_8 dX10_errorPosition_11 (.inr ⟨rfl, dX10_errorPosition_12⟩) dX10_errorPosition_15 dX10_errorPosition_18 ex_NoSuch_0 ex_NoSuch_1 ex_NoSuch_2 ex_NoSuch_5 ex_NoSuch_f exN_f wd_868 wd_20 (ex_NoSuch wd_878) wd_1434 (Nat.le_of_ble_eq_true rfl) ⟨by decide, by decide⟩ ⟨by decide, by decide⟩ (by decide) (by decide) (fun n9 hn9 => ⟨by rw [X10_errorPosition_x, if_pos c1], n9, hn9, rfl⟩)
def X10_failedCommand_r (g : mG) (m : mM) (b : Nat)  : Int32 := if (gI m 361 b) = ((-1)) then 0 else (gI m 361 b)
def X10_failedCommand_x (g : mG) (m : mM) (b : Nat)  : Option String := if (gI m 361 b) = ((-1)) then (some "java/util/NoSuchElementException") else none

set_option maxHeartbeats 4000000 in
set_option maxRecDepth 100000 in
theorem c_X10_failedCommand {l : Launch} {g : mG} (hO : mO l g) (m : mM) (b : Nat)  (hb : SB m b) : mT l g yX10_failedCommand (.code yX10_failedCommand cX10_failedCommand 1 (Option.some FieldType.int)) 6 90 1 6 [.ref b] m (fun r m' => X10_failedCommand_x g m b  = none ∧ r = some (.int (X10_failedCommand_r g m b )) ∧ m' = m) (fun E9 m9 => X10_failedCommand_x g m b  = some E9 ∧ ∃ n9, gN (m) ≤ n9 ∧ m9 = sN (m) n9) := by
  refine mT_of hO (by decide) (Nat.le_of_ble_eq_true rfl) (fun x hX hZ => ?_)
  show mV g x m 0 0 0 [(0, .ref b)] []
  refine v_aload_n (pc := 0) hX dX10_failedCommand_0 rfl ?_
  refine v_get (v := .int (gI m 361 b)) (pc := 1) hX dX10_failedCommand_1 hb.k (ci := 11) (r := vwC11) rfl 9 (by decide) wd_315 rfl ?_
  refine v_iconst (v := (-1)) (pc := 4) hX dX10_failedCommand_4 (by decide) ?_
  refine v_icmp_ne (tgt := 19) (pc := 5) hX dX10_failedCommand_5 (by decide) (fun c1 => ?_) (fun c1 => ?_)
  ·
    refine v_aload_n (pc := 19) hX dX10_failedCommand_19 rfl ?_
    refine v_get (v := .int (gI m 361 b)) (pc := 20) hX dX10_failedCommand_20 hb.k (ci := 11) (r := vwC11) rfl 9 (by decide) wd_315 rfl ?_
    exact v_iret (pc := 23) hX hZ dX10_failedCommand_23 (by decide) (by decide) ⟨(by rw [X10_failedCommand_x, if_neg c1]), (by rw [X10_failedCommand_r, if_neg c1]), rfl⟩
  ·
    exact v_throw (E := "java/util/NoSuchElementException") (text := "no failed command was stored") (names := exN) (ix := 13) (rx := ex_NoSuch_c) (wd := 3) (pc := 8) hX hZ dX10_failedCommand_8 dX10_failedCommand_11 (.inr ⟨rfl, dX10_failedCommand_12⟩) dX10_failedCommand_15 dX10_failedCommand_18 ex_NoSuch_0 ex_NoSuch_1 ex_NoSuch_2 ex_NoSuch_5 ex_NoSuch_f exN_f wd_868 wd_20 (ex_NoSuch wd_878) wd_1442 (Nat.le_of_ble_eq_true rfl) ⟨by decide, by decide⟩ ⟨by decide, by decide⟩ (by decide) (by decide) (fun n9 hn9 => ⟨by rw [X10_failedCommand_x, if_pos c1], n9, hn9, rfl⟩)
def X10_undo_r (g : mG) (m : mM) (b : Nat) (nx : Nat) : Int32 := if (gI m 258 (b + 49)) = 0 then 0 else (gI (X6_takeBack_m g m (b + 49) (b + 1) nx) 258 (b + 49))
def X10_undo_m (g : mG) (m : mM) (b : Nat) (nx : Nat) : mM := if (gI m 258 (b + 49)) = 0 then m else ((X6_takeBack_m g m (b + 49) (b + 1) nx))
def X10_undo_x (g : mG) (m : mM) (b : Nat) (nx : Nat) : Option String := if (gI m 258 (b + 49)) = 0 then (some "java/lang/IllegalStateException") else none
theorem kK_X10_undo (g : mG) (m : mM) (b : Nat) (nx : Nat) : gK (X10_undo_m g m b nx) = gK m := by
  unfold X10_undo_m
  repeat' split
  all_goals simp only [mm, kK_X6_takeBack]
theorem kN_X10_undo (g : mG) (m : mM) (b : Nat) (nx : Nat) : gN (X10_undo_m g m b nx) = gN m := by
  unfold X10_undo_m
  repeat' split
  all_goals simp only [mm, kN_X6_takeBack]
theorem kI_X10_undo (g : mG) (m : mM) (b : Nat) (nx : Nat) (k a9 : Nat) (h0 : k ≠ 163) (h1 : k ≠ 164) (h2 : k ≠ 165) (h3 : k ≠ 166) (h4 : k ≠ 167) (h5 : k ≠ 168) (h6 : k ≠ 169) (h7 : k ≠ 170) (h8 : k ≠ 192) (h9 : k ≠ 193) (h10 : k ≠ 194) (h11 : k ≠ 224) (h12 : k ≠ 225) (h13 : k ≠ 257) (h14 : k ≠ 258) (h15 : k ≠ 288) (h16 : k ≠ 289) (h17 : k ≠ 290) (h18 : k ≠ 291) (h19 : k ≠ 292) (h20 : k ≠ 293) (h21 : k ≠ 294) : gI (X10_undo_m g m b nx) k a9 = gI m k a9 := by
  unfold X10_undo_m
  repeat' split
  all_goals simp [mm, kI_X6_takeBack, h0, h1, h2, h3, h4, h5, h6, h7, h8, h9, h10, h11, h12, h13, h14, h15, h16, h17, h18, h19, h20, h21]
theorem kJ_X10_undo (g : mG) (m : mM) (b : Nat) (nx : Nat) (k a9 : Nat) (h0 : k ≠ 171) (h1 : k ≠ 195) : gJ (X10_undo_m g m b nx) k a9 = gJ m k a9 := by
  unfold X10_undo_m
  repeat' split
  all_goals simp [mm, kJ_X6_takeBack, h0, h1]
theorem kR_X10_undo (g : mG) (m : mM) (b : Nat) (nx : Nat) (k a9 : Nat) (h0 : k ≠ 295) : gR (X10_undo_m g m b nx) k a9 = gR m k a9 := by
  unfold X10_undo_m
  repeat' split
  all_goals simp [mm, kR_X6_takeBack, h0]
theorem kA_X10_undo (g : mG) (m : mM) (b : Nat) (nx : Nat) : gA (X10_undo_m g m b nx) = gA m := by
  unfold X10_undo_m
  repeat' split
  all_goals simp only [mm, kA_X6_takeBack]
theorem kQ_X10_undo (g : mG) (m : mM) (b : Nat) (nx : Nat) : gQ (X10_undo_m g m b nx) = gQ m := by
  unfold X10_undo_m
  repeat' split
  all_goals simp only [mm, kQ_X6_takeBack]
theorem kL_X10_undo (g : mG) (m : mM) (b : Nat) (nx : Nat) : gL (X10_undo_m g m b nx) = gL m := by
  unfold X10_undo_m
  repeat' split
  all_goals simp only [mm, kL_X6_takeBack]
theorem kD_X10_undo (g : mG) (m : mM) (b : Nat) (nx : Nat) : gD (X10_undo_m g m b nx) = gD m := by
  unfold X10_undo_m
  repeat' split
  all_goals simp only [mm, kD_X6_takeBack]
set_option maxHeartbeats 4000000 in
set_option maxRecDepth 100000 in
theorem c_X10_undo {l : Launch} {g : mG} (hO : mO l g) (m : mM) (b : Nat) (nx : Nat) (hb : SB m b) (hn : gI m 257 (b + 49) = nI nx) (hn9 : nx < 9) : mT l g yX10_undo (.code yX10_undo cX10_undo 1 (Option.some FieldType.int)) 6 90 1 6 [.ref b] m (fun r m' => X10_undo_x g m b nx = none ∧ r = some (.int (X10_undo_r g m b nx)) ∧ m' = X10_undo_m g m b nx) (fun E9 m9 => X10_undo_x g m b nx = some E9 ∧ ∃ n9, gN (X10_undo_m g m b nx) ≤ n9 ∧ m9 = sN (X10_undo_m g m b nx) n9) := by
  refine mT_of hO (by decide) (Nat.le_of_ble_eq_true rfl) (fun x hX hZ => ?_)
  show mV g x m 0 0 0 [(0, .ref b)] []
  refine v_aload_n (pc := 0) hX dX10_undo_0 rfl ?_
  refine v_get (v := .ref (b + 49)) (pc := 1) hX dX10_undo_1 hb.k (ci := 11) (r := vwC11) rfl 3 (by decide) wd_309 (fvR hb.r3) ?_
  refine v_getN (v := .int (gI m 258 (b + 49))) (pc := 4) hX dX10_undo_4 hb.h.k (ci := 8) (r := vwC8) rfl 2 (by decide) wd_209 rfl ?_
  refine v_if_ne (tgt := 21) (pc := 7) hX dX10_undo_7 (by decide) (fun c1 => ?_) (fun c1 => ?_)
  ·
    refine v_aload_n (pc := 21) hX dX10_undo_21 rfl ?_
    refine v_get (v := .ref (b + 49)) (pc := 22) hX dX10_undo_22 hb.k (ci := 11) (r := vwC11) rfl 3 (by decide) wd_309 (fvR hb.r3) ?_
    refine v_aload_n (pc := 25) hX dX10_undo_25 rfl ?_
    refine v_get (v := .ref (b + 1)) (pc := 26) hX dX10_undo_26 hb.k (ci := 11) (r := vwC11) rfl 0 (by decide) wd_306 (fvR hb.r0) ?_
    refine v_callV (z := yX6_takeBack) (pc := 29) hX dX10_undo_29 (c_X6_takeBack hO m (b + 49) (b + 1) nx hb.h hn hn9 hb.f1) hb.h.k rfl wd_1483 wd_1484 wd_1485 wd_8 wd_1486 ⟨by decide, by decide, (by decide +kernel : (parseMethodDescriptor yX6_takeBack.desc).map (fun d => d.parameters.length) = some 1)⟩ rfl (Nat.le_of_ble_eq_true rfl) ⟨⟨by decide, by decide⟩, by decide, by decide⟩ (fun E m9 h9 => h9.elim) (fun r9 m9 h9 => ?_)
    obtain ⟨rfl, h8⟩ := h9
    replace h8 := h8.symm
    subst h8
    show mV g x _ _ _ _ _ []
    refine v_aload_n (pc := 32) hX dX10_undo_32 rfl ?_
    refine v_get (v := .ref (b + 49)) (pc := 33) hX dX10_undo_33 (by simp only [mm, kK_X6_takeBack]; exact hb.k) (ci := 11) (r := vwC11) rfl 3 (by decide) wd_309 (fvR (by simp [mm, kR_X6_takeBack, hb.r3])) ?_
    refine v_getN (v := .int (gI (X6_takeBack_m g m (b + 49) (b + 1) nx) 258 (b + 49))) (pc := 36) hX dX10_undo_36 (by simp only [mm, kK_X6_takeBack]; exact hb.h.k) (ci := 8) (r := vwC8) rfl 2 (by decide) wd_209 rfl ?_
    exact v_iret (pc := 39) hX hZ dX10_undo_39 (by decide) (by decide) ⟨(by rw [X10_undo_x, if_neg c1]), (by rw [X10_undo_r, if_neg c1]), (by rw [X10_undo_m, if_neg c1])⟩
  ·
    exact v_throw (E := "java/lang/IllegalStateException") (text := "no call can be undone") (names := exN) (ix := 7) (rx := ex_IllState_c) (wd := 3) (pc := 10) hX hZ dX10_undo_10 dX10_undo_13 (.inr ⟨rfl, dX10_undo_14⟩) dX10_undo_17 dX10_undo_20 ex_IllState_0 ex_IllState_1 ex_IllState_2 ex_IllState_5 ex_IllState_f exN_f wd_900 wd_23 (ex_IllState wd_910) wd_1482 (Nat.le_of_ble_eq_true rfl) ⟨by decide, by decide⟩ ⟨by decide, by decide⟩ (by decide) (by decide) (fun n9 hn9 => ⟨by rw [X10_undo_x, if_pos c1], n9, (by rw [X10_undo_m, if_pos c1]; exact hn9), (by rw [X10_undo_m, if_pos c1])⟩)
def X10_save_m (g : mG) (m : mM) (b : Nat)  : mM := (sI (X3_copyFrom_m g m (b + 17) (b + 1) ) 359 b 1)
theorem kK_X10_save (g : mG) (m : mM) (b : Nat)  : gK (X10_save_m g m b ) = gK m := by
  unfold X10_save_m
  repeat' split
  all_goals simp only [mm, kK_X3_copyFrom]
theorem kN_X10_save (g : mG) (m : mM) (b : Nat)  : gN (X10_save_m g m b ) = gN m := by
  unfold X10_save_m
  repeat' split
  all_goals simp only [mm, kN_X3_copyFrom]
theorem kI_X10_save (g : mG) (m : mM) (b : Nat)  (k a9 : Nat) (h0 : k ≠ 163) (h1 : k ≠ 164) (h2 : k ≠ 165) (h3 : k ≠ 166) (h4 : k ≠ 167) (h5 : k ≠ 168) (h6 : k ≠ 169) (h7 : k ≠ 170) (h8 : k ≠ 192) (h9 : k ≠ 193) (h10 : k ≠ 194) (h11 : k ≠ 224) (h12 : k ≠ 225) (h13 : k ≠ 288) (h14 : k ≠ 289) (h15 : k ≠ 290) (h16 : k ≠ 291) (h17 : k ≠ 292) (h18 : k ≠ 293) (h19 : k ≠ 294) (h20 : k ≠ 359) : gI (X10_save_m g m b ) k a9 = gI m k a9 := by
  unfold X10_save_m
  repeat' split
  all_goals simp [mm, kI_X3_copyFrom, h0, h1, h2, h3, h4, h5, h6, h7, h8, h9, h10, h11, h12, h13, h14, h15, h16, h17, h18, h19, h20]
theorem kJ_X10_save (g : mG) (m : mM) (b : Nat)  (k a9 : Nat) (h0 : k ≠ 171) (h1 : k ≠ 195) : gJ (X10_save_m g m b ) k a9 = gJ m k a9 := by
  unfold X10_save_m
  repeat' split
  all_goals simp [mm, kJ_X3_copyFrom, h0, h1]
theorem kR_X10_save (g : mG) (m : mM) (b : Nat)  (k a9 : Nat) (h0 : k ≠ 295) : gR (X10_save_m g m b ) k a9 = gR m k a9 := by
  unfold X10_save_m
  repeat' split
  all_goals simp [mm, kR_X3_copyFrom, h0]
theorem kA_X10_save (g : mG) (m : mM) (b : Nat)  : gA (X10_save_m g m b ) = gA m := by
  unfold X10_save_m
  repeat' split
  all_goals simp only [mm, kA_X3_copyFrom]
theorem kQ_X10_save (g : mG) (m : mM) (b : Nat)  : gQ (X10_save_m g m b ) = gQ m := by
  unfold X10_save_m
  repeat' split
  all_goals simp only [mm, kQ_X3_copyFrom]
theorem kL_X10_save (g : mG) (m : mM) (b : Nat)  : gL (X10_save_m g m b ) = gL m := by
  unfold X10_save_m
  repeat' split
  all_goals simp only [mm, kL_X3_copyFrom]
theorem kD_X10_save (g : mG) (m : mM) (b : Nat)  : gD (X10_save_m g m b ) = gD m := by
  unfold X10_save_m
  repeat' split
  all_goals simp only [mm, kD_X3_copyFrom]
set_option maxHeartbeats 4000000 in
set_option maxRecDepth 100000 in
theorem c_X10_save {l : Launch} {g : mG} (hO : mO l g) (m : mM) (b : Nat)  (hb : SB m b) : mT l g yX10_save (.code yX10_save cX10_save 1 (Option.none : Option FieldType)) 3 63 0 0 [.ref b] m (fun r m' => r = none ∧ m' = X10_save_m g m b ) nX := by
  refine mT_of hO (by decide) (Nat.le_of_ble_eq_true rfl) (fun x hX hZ => ?_)
  show mV g x m 0 0 0 [(0, .ref b)] []
  refine v_aload_n (pc := 0) hX dX10_save_0 rfl ?_
  refine v_get (v := .ref (b + 17)) (pc := 1) hX dX10_save_1 hb.k (ci := 11) (r := vwC11) rfl 1 (by decide) wd_307 (fvR hb.r1) ?_
  refine v_aload_n (pc := 4) hX dX10_save_4 rfl ?_
  refine v_get (v := .ref (b + 1)) (pc := 5) hX dX10_save_5 hb.k (ci := 11) (r := vwC11) rfl 0 (by decide) wd_306 (fvR hb.r0) ?_
  refine v_callV (z := yX3_copyFrom) (pc := 8) hX dX10_save_8 (c_X3_copyFrom hO m (b + 17) (b + 1) hb.f2 hb.f1) hb.f2.k rfl wd_845 wd_416 wd_417 wd_2 wd_418 ⟨by decide, by decide, (by decide +kernel : (parseMethodDescriptor yX3_copyFrom.desc).map (fun d => d.parameters.length) = some 1)⟩ rfl (Nat.le_of_ble_eq_true rfl) ⟨⟨by decide, by decide⟩, by decide, by decide⟩ (fun E m9 h9 => h9.elim) (fun r9 m9 h9 => ?_)
  obtain ⟨rfl, h8⟩ := h9
  replace h8 := h8.symm
  subst h8
  show mV g x _ _ _ _ _ []
  refine v_aload_n (pc := 11) hX dX10_save_11 rfl ?_
  refine v_iconst (v := 1) (pc := 12) hX dX10_save_12 (by decide) ?_
  refine v_put (m1 := (sI (X3_copyFrom_m g m (b + 17) (b + 1) ) 359 b 1)) (pc := 13) hX dX10_save_13 (by simp only [mm, kK_X3_copyFrom]; exact hb.k) (ci := 11) (r := vwC11) rfl 7 (by decide) wd_313 rfl (by decide) (by decide) rfl ?_
  exact v_vret (pc := 16) hX hZ dX10_save_16 (by decide) (by decide) ⟨rfl, (by rw [X10_save_m])⟩
def X10_restore_m (g : mG) (m : mM) (b : Nat)  : mM := if (gI m 359 b) = 0 then m else ((X6_forget_m g ((X3_copyFrom_m g m (b + 1) (b + 17) )) (b + 49) ))
def X10_restore_x (g : mG) (m : mM) (b : Nat)  : Option String := if (gI m 359 b) = 0 then (some "java/lang/IllegalStateException") else none
theorem kK_X10_restore (g : mG) (m : mM) (b : Nat)  : gK (X10_restore_m g m b ) = gK m := by
  unfold X10_restore_m
  repeat' split
  all_goals simp only [mm, kK_X3_copyFrom, kK_X6_forget]
theorem kN_X10_restore (g : mG) (m : mM) (b : Nat)  : gN (X10_restore_m g m b ) = gN m := by
  unfold X10_restore_m
  repeat' split
  all_goals simp only [mm, kN_X3_copyFrom, kN_X6_forget]
theorem kI_X10_restore (g : mG) (m : mM) (b : Nat)  (k a9 : Nat) (h0 : k ≠ 163) (h1 : k ≠ 164) (h2 : k ≠ 165) (h3 : k ≠ 166) (h4 : k ≠ 167) (h5 : k ≠ 168) (h6 : k ≠ 169) (h7 : k ≠ 170) (h8 : k ≠ 192) (h9 : k ≠ 193) (h10 : k ≠ 194) (h11 : k ≠ 224) (h12 : k ≠ 225) (h13 : k ≠ 258) (h14 : k ≠ 288) (h15 : k ≠ 289) (h16 : k ≠ 290) (h17 : k ≠ 291) (h18 : k ≠ 292) (h19 : k ≠ 293) (h20 : k ≠ 294) : gI (X10_restore_m g m b ) k a9 = gI m k a9 := by
  unfold X10_restore_m
  repeat' split
  all_goals simp [mm, kI_X3_copyFrom, kI_X6_forget, h0, h1, h2, h3, h4, h5, h6, h7, h8, h9, h10, h11, h12, h13, h14, h15, h16, h17, h18, h19, h20]
theorem kJ_X10_restore (g : mG) (m : mM) (b : Nat)  (k a9 : Nat) (h0 : k ≠ 171) (h1 : k ≠ 195) : gJ (X10_restore_m g m b ) k a9 = gJ m k a9 := by
  unfold X10_restore_m
  repeat' split
  all_goals simp [mm, kJ_X3_copyFrom, kJ_X6_forget, h0, h1]
theorem kR_X10_restore (g : mG) (m : mM) (b : Nat)  (k a9 : Nat) (h0 : k ≠ 295) : gR (X10_restore_m g m b ) k a9 = gR m k a9 := by
  unfold X10_restore_m
  repeat' split
  all_goals simp [mm, kR_X3_copyFrom, kR_X6_forget, h0]
theorem kA_X10_restore (g : mG) (m : mM) (b : Nat)  : gA (X10_restore_m g m b ) = gA m := by
  unfold X10_restore_m
  repeat' split
  all_goals simp only [mm, kA_X3_copyFrom, kA_X6_forget]
theorem kQ_X10_restore (g : mG) (m : mM) (b : Nat)  : gQ (X10_restore_m g m b ) = gQ m := by
  unfold X10_restore_m
  repeat' split
  all_goals simp only [mm, kQ_X3_copyFrom, kQ_X6_forget]
theorem kL_X10_restore (g : mG) (m : mM) (b : Nat)  : gL (X10_restore_m g m b ) = gL m := by
  unfold X10_restore_m
  repeat' split
  all_goals simp only [mm, kL_X3_copyFrom, kL_X6_forget]
theorem kD_X10_restore (g : mG) (m : mM) (b : Nat)  : gD (X10_restore_m g m b ) = gD m := by
  unfold X10_restore_m
  repeat' split
  all_goals simp only [mm, kD_X3_copyFrom, kD_X6_forget]
set_option maxHeartbeats 4000000 in
set_option maxRecDepth 100000 in
theorem c_X10_restore {l : Launch} {g : mG} (hO : mO l g) (m : mM) (b : Nat)  (hb : SB m b) : mT l g yX10_restore (.code yX10_restore cX10_restore 1 (Option.none : Option FieldType)) 6 90 1 6 [.ref b] m (fun r m' => X10_restore_x g m b  = none ∧ r = none ∧ m' = X10_restore_m g m b ) (fun E9 m9 => X10_restore_x g m b  = some E9 ∧ ∃ n9, gN (X10_restore_m g m b ) ≤ n9 ∧ m9 = sN (X10_restore_m g m b ) n9) := by
  refine mT_of hO (by decide) (Nat.le_of_ble_eq_true rfl) (fun x hX hZ => ?_)
  show mV g x m 0 0 0 [(0, .ref b)] []
  refine v_aload_n (pc := 0) hX dX10_restore_0 rfl ?_
  refine v_get (v := .int (gI m 359 b)) (pc := 1) hX dX10_restore_1 hb.k (ci := 11) (r := vwC11) rfl 7 (by decide) wd_313 rfl ?_
  refine v_if_ne (tgt := 18) (pc := 4) hX dX10_restore_4 (by decide) (fun c1 => ?_) (fun c1 => ?_)
  ·
    refine v_aload_n (pc := 18) hX dX10_restore_18 rfl ?_
    refine v_get (v := .ref (b + 1)) (pc := 19) hX dX10_restore_19 hb.k (ci := 11) (r := vwC11) rfl 0 (by decide) wd_306 (fvR hb.r0) ?_
    refine v_aload_n (pc := 22) hX dX10_restore_22 rfl ?_
    refine v_get (v := .ref (b + 17)) (pc := 23) hX dX10_restore_23 hb.k (ci := 11) (r := vwC11) rfl 1 (by decide) wd_307 (fvR hb.r1) ?_
    refine v_callV (z := yX3_copyFrom) (pc := 26) hX dX10_restore_26 (c_X3_copyFrom hO m (b + 1) (b + 17) hb.f1 hb.f2) hb.f1.k rfl wd_845 wd_416 wd_417 wd_2 wd_418 ⟨by decide, by decide, (by decide +kernel : (parseMethodDescriptor yX3_copyFrom.desc).map (fun d => d.parameters.length) = some 1)⟩ rfl (Nat.le_of_ble_eq_true rfl) ⟨⟨by decide, by decide⟩, by decide, by decide⟩ (fun E m9 h9 => h9.elim) (fun r9 m9 h9 => ?_)
    obtain ⟨rfl, h8⟩ := h9
    replace h8 := h8.symm
    subst h8
    show mV g x _ _ _ _ _ []
    refine v_aload_n (pc := 29) hX dX10_restore_29 rfl ?_
    refine v_get (v := .ref (b + 49)) (pc := 30) hX dX10_restore_30 (by simp only [mm, kK_X3_copyFrom]; exact hb.k) (ci := 11) (r := vwC11) rfl 3 (by decide) wd_309 (fvR (by simp [mm, kR_X3_copyFrom, hb.r3])) ?_
    refine v_callV (z := yX6_forget) (pc := 33) hX dX10_restore_33 (c_X6_forget hO ((X3_copyFrom_m g m (b + 1) (b + 17) )) (b + 49)  (hb.h.to (by simp only [mm, kK_X3_copyFrom]) (fun k hk a => by simp [mm, kR_X3_copyFrom, hk]) (by simp only [mm, kQ_X3_copyFrom]))) (by simp only [mm, kK_X3_copyFrom]; exact hb.h.k) rfl wd_1496 wd_1497 wd_1498 wd_8 wd_1499 ⟨by decide, by decide, (by decide +kernel : (parseMethodDescriptor yX6_forget.desc).map (fun d => d.parameters.length) = some 0)⟩ rfl (Nat.le_of_ble_eq_true rfl) ⟨⟨by decide, by decide⟩, by decide, by decide⟩ (fun E m9 h9 => h9.elim) (fun r9 m9 h9 => ?_)
    obtain ⟨rfl, h8⟩ := h9
    replace h8 := h8.symm
    subst h8
    show mV g x _ _ _ _ _ []
    exact v_vret (pc := 36) hX hZ dX10_restore_36 (by decide) (by decide) ⟨(by rw [X10_restore_x, if_neg c1]), rfl, (by rw [X10_restore_m, if_neg c1])⟩
  ·
    exact v_throw (E := "java/lang/IllegalStateException") (text := "no state was saved") (names := exN) (ix := 7) (rx := ex_IllState_c) (wd := 3) (pc := 7) hX hZ dX10_restore_7 dX10_restore_10 (.inr ⟨rfl, dX10_restore_11⟩) dX10_restore_14 dX10_restore_17 ex_IllState_0 ex_IllState_1 ex_IllState_2 ex_IllState_5 ex_IllState_f exN_f wd_900 wd_23 (ex_IllState wd_910) wd_1495 (Nat.le_of_ble_eq_true rfl) ⟨by decide, by decide⟩ ⟨by decide, by decide⟩ (by decide) (by decide) (fun n9 hn9 => ⟨by rw [X10_restore_x, if_pos c1], n9, (by rw [X10_restore_m, if_pos c1]; exact hn9), (by rw [X10_restore_m, if_pos c1])⟩)
