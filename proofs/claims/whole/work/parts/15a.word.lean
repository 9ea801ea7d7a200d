def X8_readWord_l1 (g : mG) (p : Nat)  : Nat → Nat → Int32 → mM → Option Nat × mM
  | 0, j, s, m => (none, (sI m 325 p ((gI m 325 p) + s)))
  | n + 1, j, s, m => if (X8_commonLength_r g m p (srA g "BirdForge$Command" (wdK j)) ((svA g "BirdForge$Command" (wdK j))) ((wdL j)) ((wdB j))) = (J0_length_8abf5_r g m (srA g "BirdForge$Command" (wdK j)) ((svA g "BirdForge$Command" (wdK j))) ((wdL j)) ((wdB j))) then ((some (cmA g j), (sI m 325 p ((gI m 325 p) + (X8_commonLength_r g m p (srA g "BirdForge$Command" (wdK j)) ((svA g "BirdForge$Command" (wdK j))) ((wdL j)) ((wdB j))))))) else (X8_readWord_l1 g p  n (j + 1) (imax s (X8_commonLength_r g m p (srA g "BirdForge$Command" (wdK j)) ((svA g "BirdForge$Command" (wdK j))) ((wdL j)) ((wdB j)))) m)
set_option maxHeartbeats 4000000 in
set_option maxRecDepth 100000 in
theorem lp_X8_readWord_l1 {l : Launch} {g : mG} {x : mCx} (hO : mO l g) (p : Nat)   {pst : Option Value → mM → Prop} {XX : String → mM → Prop} (hX : mX l g x cX8_readWord yX8_readWord { frames := 6, cells := 0, slots := 0, locals := 127 } 5) (hZ : mZ g x (Option.some (FieldType.object "BirdForge$Command")) [] pst XX 0 0) : ∀ (n j : Nat) (s : Int32) (m : mM) (hs : SP m p) (hL : okI (gI m 323 p) 60) (hP : okI (gI m 325 p) 60) (hj : j + n = 12) (hp : pst (some (va_rf ((X8_readWord_l1 g p  n j s m).1))) ((X8_readWord_l1 g p  n j s m).2)), mV g x m 0 0 4 [(0, .ref p), (1, .int s), (2, .int (nI j))] [] := by
  intro n
  induction n with
  | zero =>
    intro j s m hs hL hP hj hp
    refine v_iload_n (pc := 4) hX dX8_readWord_4 rfl ?_
    refine v_getsN (v := .ref (coA g)) (pc := 5) hX dX8_readWord_5 (co_Z hO) wd_1354 ?_
    refine v_tlO (pc := 8) hX dX8_readWord_8 (co_T hO) ?_
    refine v_icmp_ge (tgt := 67) (pc := 9) hX dX8_readWord_9 (by decide) (fun c1 => ?_) (fun c1 => ?_)
    ·
      refine v_aload_n (pc := 67) hX dX8_readWord_67 rfl ?_
      refine v_dup (pc := 68) hX dX8_readWord_68 rfl ?_
      refine v_get (v := .int (gI m 325 p)) (pc := 69) hX dX8_readWord_69 hs.k (ci := 10) (r := vwC10) rfl 5 (by decide) wd_257 rfl ?_
      refine v_iload_n (pc := 72) hX dX8_readWord_72 rfl ?_
      refine v_iadd (pc := 73) hX dX8_readWord_73 ?_
      refine v_put (m1 := (sI m 325 p ((gI m 325 p) + s))) (pc := 74) hX dX8_readWord_74 hs.k (ci := 10) (r := vwC10) rfl 5 (by decide) wd_257 rfl rfl rfl rfl ?_
      refine v_aconst_null (pc := 77) hX dX8_readWord_77 ?_
      exact v_aret (v := none) (pc := 78) hX hZ dX8_readWord_78 (Or.inl ⟨_, rfl⟩) (by decide) (by decide) (by rw [X8_readWord_l1] at hp; exact hp)
    · exact absurd (nI_le (by omega) (by omega)) c1
  | succ n ih =>
    intro j s m hs hL hP hj hp
    refine v_iload_n (pc := 4) hX dX8_readWord_4 rfl ?_
    refine v_getsN (v := .ref (coA g)) (pc := 5) hX dX8_readWord_5 (co_Z hO) wd_1354 ?_
    refine v_tlO (pc := 8) hX dX8_readWord_8 (co_T hO) ?_
    refine v_icmp_ge (tgt := 67) (pc := 9) hX dX8_readWord_9 (by decide) (fun c1 => ?_) (fun c1 => ?_)
    · exact absurd c1 (nI_ge (by omega) (by omega))
    ·
      refine v_getsN (v := .ref (coA g)) (pc := 12) hX dX8_readWord_12 (co_Z hO) wd_1354 ?_
      refine v_iload_n (pc := 15) hX dX8_readWord_15 rfl ?_
      refine v_taO (j := j) (pc := 16) hX dX8_readWord_16 (co_T hO) rfl (by omega) (by decide) ?_
      show mV g x _ _ _ _ _ [.ref (cmA g j)]
      refine v_getON (v := .ref (srA g "BirdForge$Command" (wdK j))) (pc := 17) hX dX8_readWord_17 (cm_word hO j (by omega)) wd_2000 ?_
      refine v_astore_n (pc := 20) hX dX8_readWord_20 (by decide) rfl ?_
      refine v_aload_n (pc := 21) hX dX8_readWord_21 rfl ?_
      refine v_aload_n (pc := 22) hX dX8_readWord_22 rfl ?_
      refine v_callV (z := yX8_commonLength) (pc := 23) hX dX8_readWord_23 (c_X8_commonLength hO m p (srA g "BirdForge$Command" (wdK j)) ((svA g "BirdForge$Command" (wdK j))) ((wdL j)) ((wdB j)) hs hL hP (cm_wS hO j (by omega)) (wdL_8 j (by omega)).1) hs.k rfl wd_1356 wd_1358 wp_11 wd_10 wd_1359 ⟨by decide, by decide, (by decide +kernel : (parseMethodDescriptor yX8_commonLength.desc).map (fun d => d.parameters.length) = some 1)⟩ rfl (Nat.le_of_ble_eq_true rfl) ⟨⟨by decide, by decide⟩, by decide, by decide⟩ (fun E m9 h9 => h9.elim) (fun r9 m9 h9 => ?_)
      obtain ⟨rfl, h8⟩ := h9
      replace h8 := h8.symm
      subst h8
      show mV g x _ _ _ _ _ [.int (X8_commonLength_r g m p (srA g "BirdForge$Command" (wdK j)) ((svA g "BirdForge$Command" (wdK j))) ((wdL j)) ((wdB j)))]
      refine v_istore (pc := 26) hX dX8_readWord_26 (by decide) rfl ?_
      refine v_iload (pc := 28) hX dX8_readWord_28 rfl ?_
      refine v_aload_n (pc := 30) hX dX8_readWord_30 rfl ?_
      refine v_callVO (z := yJ0_length_8abf5) (pc := 31) hX dX8_readWord_31 (c_J0_length_8abf5 hO m (srA g "BirdForge$Command" (wdK j)) ((svA g "BirdForge$Command" (wdK j))) ((wdL j)) ((wdB j)) (cm_wS hO j (by omega))) (cm_wS hO j (by omega)).o wd_1360 wd_559 wd_560 wd_14 wd_561 ⟨by decide, by decide, (by decide +kernel : (parseMethodDescriptor yJ0_length_8abf5.desc).map (fun d => d.parameters.length) = some 0)⟩ rfl (Nat.le_of_ble_eq_true rfl) ⟨⟨by decide, by decide⟩, by decide, by decide⟩ (fun E m9 h9 => h9.elim) (fun r9 m9 h9 => ?_)
      obtain ⟨rfl, h8⟩ := h9
      replace h8 := h8.symm
      subst h8
      show mV g x _ _ _ _ _ [.int (J0_length_8abf5_r g m (srA g "BirdForge$Command" (wdK j)) ((svA g "BirdForge$Command" (wdK j))) ((wdL j)) ((wdB j))), .int (X8_commonLength_r g m p (srA g "BirdForge$Command" (wdK j)) ((svA g "BirdForge$Command" (wdK j))) ((wdL j)) ((wdB j)))]
      refine v_icmp_ne (tgt := 54) (pc := 34) hX dX8_readWord_34 (by decide) (fun c2 => ?_) (fun c2 => ?_)
      ·
        refine v_iload_n (pc := 54) hX dX8_readWord_54 rfl ?_
        refine v_iload (pc := 55) hX dX8_readWord_55 rfl ?_
        refine v_mmax (pc := 57) hX dX8_readWord_57 wd_1376 (Nat.le_of_ble_eq_true rfl) ⟨by decide, by decide, by decide⟩ ?_
        refine v_istore_n (pc := 60) hX dX8_readWord_60 (by decide) rfl ?_
        refine v_iinc (w := nI (j + 1)) (pc := 61) hX dX8_readWord_61 rfl (nI_1 _) (by decide) rfl ?_
        refine v_goto (tgt := 4) (pc := 64) hX dX8_readWord_64 (by decide) ?_
        refine mV_sub (lv' := [(0, .ref p), (1, .int (imax s (X8_commonLength_r g m p (srA g "BirdForge$Command" (wdK j)) ((svA g "BirdForge$Command" (wdK j))) ((wdL j)) ((wdB j))))), (2, .int (nI (j + 1)))]) ⟨rfl, rfl, rfl, trivial⟩ ?_
        exact ih (j + 1) (imax s (X8_commonLength_r g m p (srA g "BirdForge$Command" (wdK j)) ((svA g "BirdForge$Command" (wdK j))) ((wdL j)) ((wdB j)))) m hs hL hP (by omega) (by rw [X8_readWord_l1, if_neg c2] at hp; exact hp)
      ·
        refine v_aload_n (pc := 37) hX dX8_readWord_37 rfl ?_
        refine v_dup (pc := 38) hX dX8_readWord_38 rfl ?_
        refine v_get (v := .int (gI m 325 p)) (pc := 39) hX dX8_readWord_39 hs.k (ci := 10) (r := vwC10) rfl 5 (by decide) wd_257 rfl ?_
        refine v_iload (pc := 42) hX dX8_readWord_42 rfl ?_
        refine v_iadd (pc := 44) hX dX8_readWord_44 ?_
        refine v_put (m1 := (sI m 325 p ((gI m 325 p) + (X8_commonLength_r g m p (srA g "BirdForge$Command" (wdK j)) ((svA g "BirdForge$Command" (wdK j))) ((wdL j)) ((wdB j)))))) (pc := 45) hX dX8_readWord_45 hs.k (ci := 10) (r := vwC10) rfl 5 (by decide) wd_257 rfl rfl rfl rfl ?_
        refine v_getsN (v := .ref (coA g)) (pc := 48) hX dX8_readWord_48 (co_Z hO) wd_1354 ?_
        refine v_iload_n (pc := 51) hX dX8_readWord_51 rfl ?_
        refine v_taO (j := j) (pc := 52) hX dX8_readWord_52 (co_T hO) rfl (by omega) (by decide) ?_
        show mV g x _ _ _ _ _ [.ref (cmA g j)]
        exact v_aret (v := some (cmA g j)) (pc := 53) hX hZ dX8_readWord_53 (Or.inl ⟨_, rfl⟩) (by decide) (by decide) (by rw [X8_readWord_l1, if_pos c2] at hp; exact hp)
theorem kK_X8_readWord_l1 (g : mG) (p : Nat)  : ∀ (n j : Nat) (s : Int32) (m : mM), gK ((X8_readWord_l1 g p  n j s m).2) = gK m := by
  intro n
  induction n with
  | zero =>
    intro j s m
    rw [X8_readWord_l1]
    repeat' split
    all_goals simp only [mm]
  | succ n ih =>
    intro j s m
    rw [X8_readWord_l1]
    repeat' split
    all_goals simp only [mm, ih]
theorem kN_X8_readWord_l1 (g : mG) (p : Nat)  : ∀ (n j : Nat) (s : Int32) (m : mM), gN ((X8_readWord_l1 g p  n j s m).2) = gN m := by
  intro n
  induction n with
  | zero =>
    intro j s m
    rw [X8_readWord_l1]
    repeat' split
    all_goals simp only [mm]
  | succ n ih =>
    intro j s m
    rw [X8_readWord_l1]
    repeat' split
    all_goals simp only [mm, ih]
theorem kI_X8_readWord_l1 (g : mG) (p : Nat)  (k a9 : Nat) (h0 : k ≠ 325) : ∀ (n j : Nat) (s : Int32) (m : mM), gI ((X8_readWord_l1 g p  n j s m).2) k a9 = gI m k a9 := by
  intro n
  induction n with
  | zero =>
    intro j s m
    rw [X8_readWord_l1]
    repeat' split
    all_goals simp [mm, h0]
  | succ n ih =>
    intro j s m
    rw [X8_readWord_l1]
    repeat' split
    all_goals simp [mm, ih, h0]
theorem kJ_X8_readWord_l1 (g : mG) (p : Nat)  : ∀ (n j : Nat) (s : Int32) (m : mM), gJ ((X8_readWord_l1 g p  n j s m).2) = gJ m := by
  intro n
  induction n with
  | zero =>
    intro j s m
    rw [X8_readWord_l1]
    repeat' split
    all_goals simp only [mm]
  | succ n ih =>
    intro j s m
    rw [X8_readWord_l1]
    repeat' split
    all_goals simp only [mm, ih]
theorem kR_X8_readWord_l1 (g : mG) (p : Nat)  : ∀ (n j : Nat) (s : Int32) (m : mM), gR ((X8_readWord_l1 g p  n j s m).2) = gR m := by
  intro n
  induction n with
  | zero =>
    intro j s m
    rw [X8_readWord_l1]
    repeat' split
    all_goals simp only [mm]
  | succ n ih =>
    intro j s m
    rw [X8_readWord_l1]
    repeat' split
    all_goals simp only [mm, ih]
theorem kA_X8_readWord_l1 (g : mG) (p : Nat)  : ∀ (n j : Nat) (s : Int32) (m : mM), gA ((X8_readWord_l1 g p  n j s m).2) = gA m := by
  intro n
  induction n with
  | zero =>
    intro j s m
    rw [X8_readWord_l1]
    repeat' split
    all_goals simp only [mm]
  | succ n ih =>
    intro j s m
    rw [X8_readWord_l1]
    repeat' split
    all_goals simp only [mm, ih]
theorem kQ_X8_readWord_l1 (g : mG) (p : Nat)  : ∀ (n j : Nat) (s : Int32) (m : mM), gQ ((X8_readWord_l1 g p  n j s m).2) = gQ m := by
  intro n
  induction n with
  | zero =>
    intro j s m
    rw [X8_readWord_l1]
    repeat' split
    all_goals simp only [mm]
  | succ n ih =>
    intro j s m
    rw [X8_readWord_l1]
    repeat' split
    all_goals simp only [mm, ih]
theorem kL_X8_readWord_l1 (g : mG) (p : Nat)  : ∀ (n j : Nat) (s : Int32) (m : mM), gL ((X8_readWord_l1 g p  n j s m).2) = gL m := by
  intro n
  induction n with
  | zero =>
    intro j s m
    rw [X8_readWord_l1]
    repeat' split
    all_goals simp only [mm]
  | succ n ih =>
    intro j s m
    rw [X8_readWord_l1]
    repeat' split
    all_goals simp only [mm, ih]
theorem kD_X8_readWord_l1 (g : mG) (p : Nat)  : ∀ (n j : Nat) (s : Int32) (m : mM), gD ((X8_readWord_l1 g p  n j s m).2) = gD m := by
  intro n
  induction n with
  | zero =>
    intro j s m
    rw [X8_readWord_l1]
    repeat' split
    all_goals simp only [mm]
  | succ n ih =>
    intro j s m
    rw [X8_readWord_l1]
    repeat' split
    all_goals simp only [mm, ih]
def X8_readWord_r (g : mG) (m : mM) (p : Nat)  : Option Nat := (X8_readWord_l1 g p  12 0 0 m).1
def X8_readWord_m (g : mG) (m : mM) (p : Nat)  : mM := (X8_readWord_l1 g p  12 0 0 m).2
theorem kK_X8_readWord (g : mG) (m : mM) (p : Nat)  : gK (X8_readWord_m g m p ) = gK m := by
  unfold X8_readWord_m
  repeat' split
  all_goals simp only [mm, kK_X8_readWord_l1]
theorem kN_X8_readWord (g : mG) (m : mM) (p : Nat)  : gN (X8_readWord_m g m p ) = gN m := by
  unfold X8_readWord_m
  repeat' split
  all_goals simp only [mm, kN_X8_readWord_l1]
theorem kI_X8_readWord (g : mG) (m : mM) (p : Nat)  (k a9 : Nat) (h0 : k ≠ 325) : gI (X8_readWord_m g m p ) k a9 = gI m k a9 := by
  unfold X8_readWord_m
  repeat' split
  all_goals simp [mm, kI_X8_readWord_l1, h0]
theorem kJ_X8_readWord (g : mG) (m : mM) (p : Nat)  : gJ (X8_readWord_m g m p ) = gJ m := by
  unfold X8_readWord_m
  repeat' split
  all_goals simp only [mm, kJ_X8_readWord_l1]
theorem kR_X8_readWord (g : mG) (m : mM) (p : Nat)  : gR (X8_readWord_m g m p ) = gR m := by
  unfold X8_readWord_m
  repeat' split
  all_goals simp only [mm, kR_X8_readWord_l1]
theorem kA_X8_readWord (g : mG) (m : mM) (p : Nat)  : gA (X8_readWord_m g m p ) = gA m := by
  unfold X8_readWord_m
  repeat' split
  all_goals simp only [mm, kA_X8_readWord_l1]
theorem kQ_X8_readWord (g : mG) (m : mM) (p : Nat)  : gQ (X8_readWord_m g m p ) = gQ m := by
  unfold X8_readWord_m
  repeat' split
  all_goals simp only [mm, kQ_X8_readWord_l1]
theorem kL_X8_readWord (g : mG) (m : mM) (p : Nat)  : gL (X8_readWord_m g m p ) = gL m := by
  unfold X8_readWord_m
  repeat' split
  all_goals simp only [mm, kL_X8_readWord_l1]
theorem kD_X8_readWord (g : mG) (m : mM) (p : Nat)  : gD (X8_readWord_m g m p ) = gD m := by
  unfold X8_readWord_m
  repeat' split
  all_goals simp only [mm, kD_X8_readWord_l1]
set_option maxHeartbeats 4000000 in
set_option maxRecDepth 100000 in
theorem c_X8_readWord {l : Launch} {g : mG} (hO : mO l g) (m : mM) (p : Nat)  (hs : SP m p) (hL : okI (gI m 323 p) 60) (hP : okI (gI m 325 p) 60) : mT l g yX8_readWord (.code yX8_readWord cX8_readWord 5 (Option.some (FieldType.object "BirdForge$Command"))) 6 127 0 0 [.ref p] m (fun r m' => r = some (va_rf (X8_readWord_r g m p )) ∧ m' = X8_readWord_m g m p ) nX := by
  refine mT_of hO (by decide) (Nat.le_of_ble_eq_true rfl) (fun x hX hZ => ?_)
  show mV g x m 0 0 0 [(0, .ref p)] []
  refine v_iconst (v := 0) (pc := 0) hX dX8_readWord_0 (by decide) ?_
  refine v_istore_n (pc := 1) hX dX8_readWord_1 (by decide) rfl ?_
  refine v_iconst (v := 0) (pc := 2) hX dX8_readWord_2 (by decide) ?_
  refine v_istore_n (pc := 3) hX dX8_readWord_3 (by decide) rfl ?_
  refine mV_sub (lv' := [(0, .ref p), (1, .int 0), (2, .int (nI 0))]) ⟨rfl, rfl, rfl, trivial⟩ ?_
  exact lp_X8_readWord_l1 hO p   hX hZ 12 0 0 m hs hL hP (by omega) ⟨(by rw [X8_readWord_r]), (by rw [X8_readWord_m])⟩
