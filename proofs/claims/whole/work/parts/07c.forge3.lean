def X3_passMinute_l2 (g : mG) (f : Nat) (N : Nat) : Nat → Nat → mM → mM
  | 0, j, m => m
  | n + 1, j, m => X3_passMinute_l2 g f N n (j + 1)  ((X7_temper_m g m (pa m f j)))
set_option maxHeartbeats 4000000 in
set_option maxRecDepth 100000 in
theorem lp_X3_passMinute_l2 {l : Launch} {g : mG} {x : mCx} (hO : mO l g) (f : Nat) (N : Nat) (hN8 : N ≤ 8) {pst : Option Value → mM → Prop} {XX : String → mM → Prop} (hX : mX l g x cX3_passMinute yX3_passMinute { frames := 3, cells := 0, slots := 0, locals := 61 } 2) (hZ : mZ g x (Option.none : Option FieldType) [] pst XX 0 0) : ∀ (n j : Nat)  (m : mM) (hs : SF m f) (hN : gI m 163 f = nI N) (hj : j + n = N) (hp : pst none (X3_passMinute_l2 g f N n j  m)), mV g x m 0 0 51 [(0, .ref f), (1, .int (nI j))] [] := by
  intro n
  induction n with
  | zero =>
    intro j  m hs hN hj hp
    refine v_iload_n (pc := 51) hX dX3_passMinute_51 rfl ?_
    refine v_aload_n (pc := 52) hX dX3_passMinute_52 rfl ?_
    refine v_get (v := .int (nI N)) (pc := 53) hX dX3_passMinute_53 hs.k (ci := 5) (r := vwC5) rfl 3 (by decide) wd_155 (congrArg Value.int hN) ?_
    refine v_icmp_ge (tgt := 74) (pc := 56) hX dX3_passMinute_56 (by decide) (fun c1 => ?_) (fun c1 => ?_)
    ·
      exact v_vret (pc := 74) hX hZ dX3_passMinute_74 (by decide) (by decide) (by rw [X3_passMinute_l2] at hp; exact hp)
    · exact absurd (nI_le (by omega) (by omega)) c1
  | succ n ih =>
    intro j  m hs hN hj hp
    refine v_iload_n (pc := 51) hX dX3_passMinute_51 rfl ?_
    refine v_aload_n (pc := 52) hX dX3_passMinute_52 rfl ?_
    refine v_get (v := .int (nI N)) (pc := 53) hX dX3_passMinute_53 hs.k (ci := 5) (r := vwC5) rfl 3 (by decide) wd_155 (congrArg Value.int hN) ?_
    refine v_icmp_ge (tgt := 74) (pc := 56) hX dX3_passMinute_56 (by decide) (fun c1 => ?_) (fun c1 => ?_)
    · exact absurd c1 (nI_ge (by omega) (by omega))
    ·
      refine v_aload_n (pc := 59) hX dX3_passMinute_59 rfl ?_
      refine v_get (v := .ref (f + 2)) (pc := 60) hX dX3_passMinute_60 hs.k (ci := 5) (r := vwC5) rfl 1 (by decide) wd_152 (fvR hs.r1) ?_
      refine v_iload_n (pc := 63) hX dX3_passMinute_63 rfl ?_
      refine v_aaldR (q := pa m f j) (pc := 64) hX dX3_passMinute_64 hs.k2 (by decide) (by decide) rfl (by omega) (by decide) (hs.qp (i := j) (by omega)) ?_
      refine v_callV (z := yX7_temper) (pc := 65) hX dX3_passMinute_65 (c_X7_temper hO m (pa m f j) (by exact (hs.kp (i := j) (by omega)))) (hs.kp (i := j) (by omega)) rfl wd_451 wd_452 wd_453 wd_4 wd_454 ⟨by decide, by decide, (by decide +kernel : (parseMethodDescriptor yX7_temper.desc).map (fun d => d.parameters.length) = some 0)⟩ rfl (Nat.le_of_ble_eq_true rfl) ⟨⟨by decide, by decide⟩, by decide, by decide⟩ (fun E m9 h9 => h9.elim) (fun r9 m9 h9 => ?_)
      obtain ⟨rfl, h8⟩ := h9
      replace h8 := h8.symm
      subst h8
      show mV g x _ _ _ _ _ []
      refine v_iinc (w := nI (j + 1)) (pc := 68) hX dX3_passMinute_68 rfl (nI_1 _) (by decide) rfl ?_
      refine v_goto (tgt := 51) (pc := 71) hX dX3_passMinute_71 (by decide) ?_
      refine mV_sub (lv' := [(0, .ref f), (1, .int (nI (j + 1)))]) ⟨rfl, rfl, trivial⟩ ?_
      exact ih (j + 1)  ((X7_temper_m g m (pa m f j))) (hs.to (by simp only [mm, kK_X7_temper]) (by simp [mm, kR_X7_temper]) (by simp [mm, kR_X7_temper]) (by simp [mm, kR_X7_temper]) (by simp only [mm, kQ_X7_temper])) (by simp [mm, kI_X7_temper, hN]) (by omega) (by rw [X3_passMinute_l2] at hp; exact hp)
theorem kK_X3_passMinute_l2 (g : mG) (f : Nat) (N : Nat) : ∀ (n j : Nat)  (m : mM), gK (X3_passMinute_l2 g f N n j  m) = gK m := by
  intro n
  induction n with
  | zero =>
    intro j  m
    rw [X3_passMinute_l2]
    repeat' split
    all_goals simp only [mm, kK_X7_temper]
  | succ n ih =>
    intro j  m
    rw [X3_passMinute_l2]
    repeat' split
    all_goals simp only [mm, ih, kK_X7_temper]
theorem kN_X3_passMinute_l2 (g : mG) (f : Nat) (N : Nat) : ∀ (n j : Nat)  (m : mM), gN (X3_passMinute_l2 g f N n j  m) = gN m := by
  intro n
  induction n with
  | zero =>
    intro j  m
    rw [X3_passMinute_l2]
    repeat' split
    all_goals simp only [mm, kN_X7_temper]
  | succ n ih =>
    intro j  m
    rw [X3_passMinute_l2]
    repeat' split
    all_goals simp only [mm, ih, kN_X7_temper]
theorem kI_X3_passMinute_l2 (g : mG) (f : Nat) (N : Nat) (k a9 : Nat) (h0 : k ≠ 292) (h1 : k ≠ 294) : ∀ (n j : Nat)  (m : mM), gI (X3_passMinute_l2 g f N n j  m) k a9 = gI m k a9 := by
  intro n
  induction n with
  | zero =>
    intro j  m
    rw [X3_passMinute_l2]
    repeat' split
    all_goals simp [mm, kI_X7_temper, h0, h1]
  | succ n ih =>
    intro j  m
    rw [X3_passMinute_l2]
    repeat' split
    all_goals simp [mm, ih, kI_X7_temper, h0, h1]
theorem kJ_X3_passMinute_l2 (g : mG) (f : Nat) (N : Nat) : ∀ (n j : Nat)  (m : mM), gJ (X3_passMinute_l2 g f N n j  m) = gJ m := by
  intro n
  induction n with
  | zero =>
    intro j  m
    rw [X3_passMinute_l2]
    repeat' split
    all_goals simp only [mm, kJ_X7_temper]
  | succ n ih =>
    intro j  m
    rw [X3_passMinute_l2]
    repeat' split
    all_goals simp only [mm, ih, kJ_X7_temper]
theorem kR_X3_passMinute_l2 (g : mG) (f : Nat) (N : Nat) (k a9 : Nat) (h0 : k ≠ 295) : ∀ (n j : Nat)  (m : mM), gR (X3_passMinute_l2 g f N n j  m) k a9 = gR m k a9 := by
  intro n
  induction n with
  | zero =>
    intro j  m
    rw [X3_passMinute_l2]
    repeat' split
    all_goals simp [mm, kR_X7_temper, h0]
  | succ n ih =>
    intro j  m
    rw [X3_passMinute_l2]
    repeat' split
    all_goals simp [mm, ih, kR_X7_temper, h0]
theorem kA_X3_passMinute_l2 (g : mG) (f : Nat) (N : Nat) : ∀ (n j : Nat)  (m : mM), gA (X3_passMinute_l2 g f N n j  m) = gA m := by
  intro n
  induction n with
  | zero =>
    intro j  m
    rw [X3_passMinute_l2]
    repeat' split
    all_goals simp only [mm, kA_X7_temper]
  | succ n ih =>
    intro j  m
    rw [X3_passMinute_l2]
    repeat' split
    all_goals simp only [mm, ih, kA_X7_temper]
theorem kQ_X3_passMinute_l2 (g : mG) (f : Nat) (N : Nat) : ∀ (n j : Nat)  (m : mM), gQ (X3_passMinute_l2 g f N n j  m) = gQ m := by
  intro n
  induction n with
  | zero =>
    intro j  m
    rw [X3_passMinute_l2]
    repeat' split
    all_goals simp only [mm, kQ_X7_temper]
  | succ n ih =>
    intro j  m
    rw [X3_passMinute_l2]
    repeat' split
    all_goals simp only [mm, ih, kQ_X7_temper]
theorem kL_X3_passMinute_l2 (g : mG) (f : Nat) (N : Nat) : ∀ (n j : Nat)  (m : mM), gL (X3_passMinute_l2 g f N n j  m) = gL m := by
  intro n
  induction n with
  | zero =>
    intro j  m
    rw [X3_passMinute_l2]
    repeat' split
    all_goals simp only [mm, kL_X7_temper]
  | succ n ih =>
    intro j  m
    rw [X3_passMinute_l2]
    repeat' split
    all_goals simp only [mm, ih, kL_X7_temper]
theorem kD_X3_passMinute_l2 (g : mG) (f : Nat) (N : Nat) : ∀ (n j : Nat)  (m : mM), gD (X3_passMinute_l2 g f N n j  m) = gD m := by
  intro n
  induction n with
  | zero =>
    intro j  m
    rw [X3_passMinute_l2]
    repeat' split
    all_goals simp only [mm, kD_X7_temper]
  | succ n ih =>
    intro j  m
    rw [X3_passMinute_l2]
    repeat' split
    all_goals simp only [mm, ih, kD_X7_temper]
theorem fr_X3_passMinute_l2 (g : mG) (f : Nat) (N : Nat) (hN8 : N ≤ 8) : ∀ (n j : Nat)  (m : mM) (hs : SF m f), j + n = N → Fr f (f + 16) m (X3_passMinute_l2 g f N n j  m) := by
  intro n
  induction n with
  | zero =>
    intro j  m hs hj
    rw [X3_passMinute_l2]
    exact Fr.rf
  | succ n ih =>
    intro j  m hs hj
    rw [X3_passMinute_l2]
    exact (((Fr.rf).tr (fr_X7_temper g m (pa m f j) ) (by have h1_ := (hs.lo (i := j) (by first | omega | (have h3_ := n8_lt' (by assumption) hN8; omega) | (have h3_ := n4_lt' (by assumption) hH4; omega))); omega) (by have h2_ := (hs.hi (i := j) (by first | omega | (have h3_ := n8_lt' (by assumption) hN8; omega) | (have h3_ := n4_lt' (by assumption) hH4; omega))); omega))).tr (ih (j + 1)  (X7_temper_m g m (pa m f j)) (hs.to (by simp only [mm, kK_X7_temper]) (by simp [mm, kR_X7_temper]) (by simp [mm, kR_X7_temper]) (by simp [mm, kR_X7_temper]) (by simp only [mm, kQ_X7_temper])) (by omega)) (Nat.le_refl _) (Nat.le_refl _)
def X3_passMinute_l1 (g : mG) (f : Nat) (N : Nat) : Nat → Nat → mM → mM
  | 0, j, m => X3_passMinute_l2 g f N N 0  m
  | n + 1, j, m => X3_passMinute_l1 g f N n (j + 1)  ((X7_changeTemperature_m g m (pa m f j) (gI m 192 (f + 1))))
set_option maxHeartbeats 4000000 in
set_option maxRecDepth 100000 in
theorem lp_X3_passMinute_l1 {l : Launch} {g : mG} {x : mCx} (hO : mO l g) (f : Nat) (N : Nat) (hN8 : N ≤ 8) {pst : Option Value → mM → Prop} {XX : String → mM → Prop} (hX : mX l g x cX3_passMinute yX3_passMinute { frames := 3, cells := 0, slots := 0, locals := 61 } 2) (hZ : mZ g x (Option.none : Option FieldType) [] pst XX 0 0) : ∀ (n j : Nat)  (m : mM) (hs : SF m f) (hN : gI m 163 f = nI N) (hj : j + n = N) (hp : pst none (X3_passMinute_l1 g f N n j  m)), mV g x m 0 0 19 [(0, .ref f), (1, .int (nI j))] [] := by
  intro n
  induction n with
  | zero =>
    intro j  m hs hN hj hp
    refine v_iload_n (pc := 19) hX dX3_passMinute_19 rfl ?_
    refine v_aload_n (pc := 20) hX dX3_passMinute_20 rfl ?_
    refine v_get (v := .int (nI N)) (pc := 21) hX dX3_passMinute_21 hs.k (ci := 5) (r := vwC5) rfl 3 (by decide) wd_155 (congrArg Value.int hN) ?_
    refine v_icmp_ge (tgt := 49) (pc := 24) hX dX3_passMinute_24 (by decide) (fun c1 => ?_) (fun c1 => ?_)
    ·
      refine v_iconst (v := 0) (pc := 49) hX dX3_passMinute_49 (by decide) ?_
      refine v_istore_n (pc := 50) hX dX3_passMinute_50 (by decide) rfl ?_
      refine mV_sub (lv' := [(0, .ref f), (1, .int (nI 0))]) ⟨rfl, rfl, trivial⟩ ?_
      exact lp_X3_passMinute_l2 hO f N hN8 hX hZ N 0  m hs hN (by omega) (by rw [X3_passMinute_l1] at hp; exact hp)
    · exact absurd (nI_le (by omega) (by omega)) c1
  | succ n ih =>
    intro j  m hs hN hj hp
    refine v_iload_n (pc := 19) hX dX3_passMinute_19 rfl ?_
    refine v_aload_n (pc := 20) hX dX3_passMinute_20 rfl ?_
    refine v_get (v := .int (nI N)) (pc := 21) hX dX3_passMinute_21 hs.k (ci := 5) (r := vwC5) rfl 3 (by decide) wd_155 (congrArg Value.int hN) ?_
    refine v_icmp_ge (tgt := 49) (pc := 24) hX dX3_passMinute_24 (by decide) (fun c1 => ?_) (fun c1 => ?_)
    · exact absurd c1 (nI_ge (by omega) (by omega))
    ·
      refine v_aload_n (pc := 27) hX dX3_passMinute_27 rfl ?_
      refine v_get (v := .ref (f + 2)) (pc := 28) hX dX3_passMinute_28 hs.k (ci := 5) (r := vwC5) rfl 1 (by decide) wd_152 (fvR hs.r1) ?_
      refine v_iload_n (pc := 31) hX dX3_passMinute_31 rfl ?_
      refine v_aaldR (q := pa m f j) (pc := 32) hX dX3_passMinute_32 hs.k2 (by decide) (by decide) rfl (by omega) (by decide) (hs.qp (i := j) (by omega)) ?_
      refine v_aload_n (pc := 33) hX dX3_passMinute_33 rfl ?_
      refine v_get (v := .ref (f + 1)) (pc := 34) hX dX3_passMinute_34 hs.k (ci := 5) (r := vwC5) rfl 0 (by decide) wd_149 (fvR hs.r0) ?_
      refine v_getN (v := .int (gI m 192 (f + 1))) (pc := 37) hX dX3_passMinute_37 hs.k1 (ci := 6) (r := vwC6) rfl 0 (by decide) wd_59 rfl ?_
      refine v_callV (z := yX7_changeTemperature) (pc := 40) hX dX3_passMinute_40 (c_X7_changeTemperature hO m (pa m f j) (gI m 192 (f + 1)) (by exact (hs.kp (i := j) (by omega)))) (hs.kp (i := j) (by omega)) rfl wd_447 wd_448 wd_449 wd_4 wd_450 ⟨by decide, by decide, (by decide +kernel : (parseMethodDescriptor yX7_changeTemperature.desc).map (fun d => d.parameters.length) = some 1)⟩ rfl (Nat.le_of_ble_eq_true rfl) ⟨⟨by decide, by decide⟩, by decide, by decide⟩ (fun E m9 h9 => h9.elim) (fun r9 m9 h9 => ?_)
      obtain ⟨rfl, h8⟩ := h9
      replace h8 := h8.symm
      subst h8
      show mV g x _ _ _ _ _ []
      refine v_iinc (w := nI (j + 1)) (pc := 43) hX dX3_passMinute_43 rfl (nI_1 _) (by decide) rfl ?_
      refine v_goto (tgt := 19) (pc := 46) hX dX3_passMinute_46 (by decide) ?_
      refine mV_sub (lv' := [(0, .ref f), (1, .int (nI (j + 1)))]) ⟨rfl, rfl, trivial⟩ ?_
      exact ih (j + 1)  ((X7_changeTemperature_m g m (pa m f j) (gI m 192 (f + 1)))) (hs.to (by simp only [mm, kK_X7_changeTemperature]) (by simp [mm, kR_X7_changeTemperature]) (by simp [mm, kR_X7_changeTemperature]) (by simp [mm, kR_X7_changeTemperature]) (by simp only [mm, kQ_X7_changeTemperature])) (by simp [mm, kI_X7_changeTemperature, hN]) (by omega) (by rw [X3_passMinute_l1] at hp; exact hp)
theorem kK_X3_passMinute_l1 (g : mG) (f : Nat) (N : Nat) : ∀ (n j : Nat)  (m : mM), gK (X3_passMinute_l1 g f N n j  m) = gK m := by
  intro n
  induction n with
  | zero =>
    intro j  m
    rw [X3_passMinute_l1]
    repeat' split
    all_goals simp only [mm, kK_X3_passMinute_l2, kK_X7_changeTemperature]
  | succ n ih =>
    intro j  m
    rw [X3_passMinute_l1]
    repeat' split
    all_goals simp only [mm, ih, kK_X3_passMinute_l2, kK_X7_changeTemperature]
theorem kN_X3_passMinute_l1 (g : mG) (f : Nat) (N : Nat) : ∀ (n j : Nat)  (m : mM), gN (X3_passMinute_l1 g f N n j  m) = gN m := by
  intro n
  induction n with
  | zero =>
    intro j  m
    rw [X3_passMinute_l1]
    repeat' split
    all_goals simp only [mm, kN_X3_passMinute_l2, kN_X7_changeTemperature]
  | succ n ih =>
    intro j  m
    rw [X3_passMinute_l1]
    repeat' split
    all_goals simp only [mm, ih, kN_X3_passMinute_l2, kN_X7_changeTemperature]
theorem kI_X3_passMinute_l1 (g : mG) (f : Nat) (N : Nat) (k a9 : Nat) (h0 : k ≠ 290) (h1 : k ≠ 292) (h2 : k ≠ 294) : ∀ (n j : Nat)  (m : mM), gI (X3_passMinute_l1 g f N n j  m) k a9 = gI m k a9 := by
  intro n
  induction n with
  | zero =>
    intro j  m
    rw [X3_passMinute_l1]
    repeat' split
    all_goals simp [mm, kI_X3_passMinute_l2, kI_X7_changeTemperature, h0, h1, h2]
  | succ n ih =>
    intro j  m
    rw [X3_passMinute_l1]
    repeat' split
    all_goals simp [mm, ih, kI_X3_passMinute_l2, kI_X7_changeTemperature, h0, h1, h2]
theorem kJ_X3_passMinute_l1 (g : mG) (f : Nat) (N : Nat) : ∀ (n j : Nat)  (m : mM), gJ (X3_passMinute_l1 g f N n j  m) = gJ m := by
  intro n
  induction n with
  | zero =>
    intro j  m
    rw [X3_passMinute_l1]
    repeat' split
    all_goals simp only [mm, kJ_X3_passMinute_l2, kJ_X7_changeTemperature]
  | succ n ih =>
    intro j  m
    rw [X3_passMinute_l1]
    repeat' split
    all_goals simp only [mm, ih, kJ_X3_passMinute_l2, kJ_X7_changeTemperature]
theorem kR_X3_passMinute_l1 (g : mG) (f : Nat) (N : Nat) (k a9 : Nat) (h0 : k ≠ 295) : ∀ (n j : Nat)  (m : mM), gR (X3_passMinute_l1 g f N n j  m) k a9 = gR m k a9 := by
  intro n
  induction n with
  | zero =>
    intro j  m
    rw [X3_passMinute_l1]
    repeat' split
    all_goals simp [mm, kR_X3_passMinute_l2, kR_X7_changeTemperature, h0]
  | succ n ih =>
    intro j  m
    rw [X3_passMinute_l1]
    repeat' split
    all_goals simp [mm, ih, kR_X3_passMinute_l2, kR_X7_changeTemperature, h0]
theorem kA_X3_passMinute_l1 (g : mG) (f : Nat) (N : Nat) : ∀ (n j : Nat)  (m : mM), gA (X3_passMinute_l1 g f N n j  m) = gA m := by
  intro n
  induction n with
  | zero =>
    intro j  m
    rw [X3_passMinute_l1]
    repeat' split
    all_goals simp only [mm, kA_X3_passMinute_l2, kA_X7_changeTemperature]
  | succ n ih =>
    intro j  m
    rw [X3_passMinute_l1]
    repeat' split
    all_goals simp only [mm, ih, kA_X3_passMinute_l2, kA_X7_changeTemperature]
theorem kQ_X3_passMinute_l1 (g : mG) (f : Nat) (N : Nat) : ∀ (n j : Nat)  (m : mM), gQ (X3_passMinute_l1 g f N n j  m) = gQ m := by
  intro n
  induction n with
  | zero =>
    intro j  m
    rw [X3_passMinute_l1]
    repeat' split
    all_goals simp only [mm, kQ_X3_passMinute_l2, kQ_X7_changeTemperature]
  | succ n ih =>
    intro j  m
    rw [X3_passMinute_l1]
    repeat' split
    all_goals simp only [mm, ih, kQ_X3_passMinute_l2, kQ_X7_changeTemperature]
theorem kL_X3_passMinute_l1 (g : mG) (f : Nat) (N : Nat) : ∀ (n j : Nat)  (m : mM), gL (X3_passMinute_l1 g f N n j  m) = gL m := by
  intro n
  induction n with
  | zero =>
    intro j  m
    rw [X3_passMinute_l1]
    repeat' split
    all_goals simp only [mm, kL_X3_passMinute_l2, kL_X7_changeTemperature]
  | succ n ih =>
    intro j  m
    rw [X3_passMinute_l1]
    repeat' split
    all_goals simp only [mm, ih, kL_X3_passMinute_l2, kL_X7_changeTemperature]
theorem kD_X3_passMinute_l1 (g : mG) (f : Nat) (N : Nat) : ∀ (n j : Nat)  (m : mM), gD (X3_passMinute_l1 g f N n j  m) = gD m := by
  intro n
  induction n with
  | zero =>
    intro j  m
    rw [X3_passMinute_l1]
    repeat' split
    all_goals simp only [mm, kD_X3_passMinute_l2, kD_X7_changeTemperature]
  | succ n ih =>
    intro j  m
    rw [X3_passMinute_l1]
    repeat' split
    all_goals simp only [mm, ih, kD_X3_passMinute_l2, kD_X7_changeTemperature]
theorem fr_X3_passMinute_l1 (g : mG) (f : Nat) (N : Nat) (hN8 : N ≤ 8) : ∀ (n j : Nat)  (m : mM) (hs : SF m f), j + n = N → Fr f (f + 16) m (X3_passMinute_l1 g f N n j  m) := by
  intro n
  induction n with
  | zero =>
    intro j  m hs hj
    rw [X3_passMinute_l1]
    exact (Fr.rf).tr (fr_X3_passMinute_l2 g f N hN8 N 0  m hs (by omega)) (Nat.le_refl _) (Nat.le_refl _)
  | succ n ih =>
    intro j  m hs hj
    rw [X3_passMinute_l1]
    exact (((Fr.rf).tr (fr_X7_changeTemperature g m (pa m f j) (gI m 192 (f + 1)) ) (by have h1_ := (hs.lo (i := j) (by first | omega | (have h3_ := n8_lt' (by assumption) hN8; omega) | (have h3_ := n4_lt' (by assumption) hH4; omega))); omega) (by have h2_ := (hs.hi (i := j) (by first | omega | (have h3_ := n8_lt' (by assumption) hN8; omega) | (have h3_ := n4_lt' (by assumption) hH4; omega))); omega))).tr (ih (j + 1)  (X7_changeTemperature_m g m (pa m f j) (gI m 192 (f + 1))) (hs.to (by simp only [mm, kK_X7_changeTemperature]) (by simp [mm, kR_X7_changeTemperature]) (by simp [mm, kR_X7_changeTemperature]) (by simp [mm, kR_X7_changeTemperature]) (by simp only [mm, kQ_X7_changeTemperature])) (by omega)) (Nat.le_refl _) (Nat.le_refl _)
def X3_passMinute_m (g : mG) (m : mM) (f : Nat) (N : Nat) : mM := X3_passMinute_l1 g f N N 0  ((X4_passMinute_m g ((sI m 166 f ((gI m 166 f) + 1))) (f + 1)))
theorem kK_X3_passMinute (g : mG) (m : mM) (f : Nat) (N : Nat) : gK (X3_passMinute_m g m f N) = gK m := by
  unfold X3_passMinute_m
  repeat' split
  all_goals simp only [mm, kK_X3_passMinute_l1, kK_X4_passMinute]
theorem kN_X3_passMinute (g : mG) (m : mM) (f : Nat) (N : Nat) : gN (X3_passMinute_m g m f N) = gN m := by
  unfold X3_passMinute_m
  repeat' split
  all_goals simp only [mm, kN_X3_passMinute_l1, kN_X4_passMinute]
theorem kI_X3_passMinute (g : mG) (m : mM) (f : Nat) (N : Nat) (k a9 : Nat) (h0 : k ≠ 166) (h1 : k ≠ 192) (h2 : k ≠ 193) (h3 : k ≠ 194) (h4 : k ≠ 290) (h5 : k ≠ 292) (h6 : k ≠ 294) : gI (X3_passMinute_m g m f N) k a9 = gI m k a9 := by
  unfold X3_passMinute_m
  repeat' split
  all_goals simp [mm, kI_X3_passMinute_l1, kI_X4_passMinute, h0, h1, h2, h3, h4, h5, h6]
theorem kJ_X3_passMinute (g : mG) (m : mM) (f : Nat) (N : Nat) (k a9 : Nat) (h0 : k ≠ 195) : gJ (X3_passMinute_m g m f N) k a9 = gJ m k a9 := by
  unfold X3_passMinute_m
  repeat' split
  all_goals simp [mm, kJ_X3_passMinute_l1, kJ_X4_passMinute, h0]
theorem kR_X3_passMinute (g : mG) (m : mM) (f : Nat) (N : Nat) (k a9 : Nat) (h0 : k ≠ 295) : gR (X3_passMinute_m g m f N) k a9 = gR m k a9 := by
  unfold X3_passMinute_m
  repeat' split
  all_goals simp [mm, kR_X3_passMinute_l1, kR_X4_passMinute, h0]
theorem kA_X3_passMinute (g : mG) (m : mM) (f : Nat) (N : Nat) : gA (X3_passMinute_m g m f N) = gA m := by
  unfold X3_passMinute_m
  repeat' split
  all_goals simp only [mm, kA_X3_passMinute_l1, kA_X4_passMinute]
theorem kQ_X3_passMinute (g : mG) (m : mM) (f : Nat) (N : Nat) : gQ (X3_passMinute_m g m f N) = gQ m := by
  unfold X3_passMinute_m
  repeat' split
  all_goals simp only [mm, kQ_X3_passMinute_l1, kQ_X4_passMinute]
theorem kL_X3_passMinute (g : mG) (m : mM) (f : Nat) (N : Nat) : gL (X3_passMinute_m g m f N) = gL m := by
  unfold X3_passMinute_m
  repeat' split
  all_goals simp only [mm, kL_X3_passMinute_l1, kL_X4_passMinute]
theorem kD_X3_passMinute (g : mG) (m : mM) (f : Nat) (N : Nat) : gD (X3_passMinute_m g m f N) = gD m := by
  unfold X3_passMinute_m
  repeat' split
  all_goals simp only [mm, kD_X3_passMinute_l1, kD_X4_passMinute]
theorem fr_X3_passMinute (g : mG) (m : mM) (f : Nat) (N : Nat) (hs : SF m f) (hN8 : N ≤ 8) : Fr f (f + 16) m (X3_passMinute_m g m f N) := by
  unfold X3_passMinute_m
  exact (((((Fr.rf).I (by first | omega | (have h3_ := n8_lt' (by assumption) hN8; omega) | (have h3_ := n4_lt' (by assumption) hH4; omega)))).tr (fr_X4_passMinute g (sI m 166 f ((gI m 166 f) + 1)) (f + 1) ) (by first | omega | (have h3_ := n8_lt' (by assumption) hN8; omega) | (have h3_ := n4_lt' (by assumption) hH4; omega)) (by first | omega | (have h3_ := n8_lt' (by assumption) hN8; omega) | (have h3_ := n4_lt' (by assumption) hH4; omega)))).tr (fr_X3_passMinute_l1 g f N hN8 N 0  (X4_passMinute_m g ((sI m 166 f ((gI m 166 f) + 1))) (f + 1)) (hs.to (by simp only [mm, kK_X4_passMinute]) (by simp [mm, kR_X4_passMinute]) (by simp [mm, kR_X4_passMinute]) (by simp [mm, kR_X4_passMinute]) (by simp only [mm, kQ_X4_passMinute])) (by omega)) (Nat.le_refl _) (Nat.le_refl _)
set_option maxHeartbeats 4000000 in
set_option maxRecDepth 100000 in
theorem c_X3_passMinute {l : Launch} {g : mG} (hO : mO l g) (m : mM) (f : Nat) (N : Nat) (hs : SF m f) (hN : gI m 163 f = nI N) (hN8 : N ≤ 8) : mT l g yX3_passMinute (.code yX3_passMinute cX3_passMinute 2 (Option.none : Option FieldType)) 3 61 0 0 [.ref f] m (fun r m' => r = none ∧ m' = X3_passMinute_m g m f N) nX := by
  refine mT_of hO (by decide) (Nat.le_of_ble_eq_true rfl) (fun x hX hZ => ?_)
  show mV g x m 0 0 0 [(0, .ref f)] []
  refine v_aload_n (pc := 0) hX dX3_passMinute_0 rfl ?_
  refine v_dup (pc := 1) hX dX3_passMinute_1 rfl ?_
  refine v_get (v := .int (gI m 166 f)) (pc := 2) hX dX3_passMinute_2 hs.k (ci := 5) (r := vwC5) rfl 6 (by decide) wd_161 rfl ?_
  refine v_iconst (v := 1) (pc := 5) hX dX3_passMinute_5 (by decide) ?_
  refine v_iadd (pc := 6) hX dX3_passMinute_6 ?_
  refine v_put (m1 := (sI m 166 f ((gI m 166 f) + 1))) (pc := 7) hX dX3_passMinute_7 hs.k (ci := 5) (r := vwC5) rfl 6 (by decide) wd_161 rfl rfl rfl rfl ?_
  refine v_aload_n (pc := 10) hX dX3_passMinute_10 rfl ?_
  refine v_get (v := .ref (f + 1)) (pc := 11) hX dX3_passMinute_11 (by simp only [mm]; exact hs.k) (ci := 5) (r := vwC5) rfl 0 (by decide) wd_149 (fvR (by simp [mm, hs.r0])) ?_
  refine v_callV (z := yX4_passMinute) (pc := 14) hX dX3_passMinute_14 (c_X4_passMinute hO ((sI m 166 f ((gI m 166 f) + 1))) (f + 1) (by simp only [mm]; exact hs.k1)) (by simp only [mm]; exact hs.k1) rfl wd_436 wd_437 wd_438 wd_3 wd_439 ⟨by decide, by decide, (by decide +kernel : (parseMethodDescriptor yX4_passMinute.desc).map (fun d => d.parameters.length) = some 0)⟩ rfl (Nat.le_of_ble_eq_true rfl) ⟨⟨by decide, by decide⟩, by decide, by decide⟩ (fun E m9 h9 => h9.elim) (fun r9 m9 h9 => ?_)
  obtain ⟨rfl, h8⟩ := h9
  replace h8 := h8.symm
  subst h8
  show mV g x _ _ _ _ _ []
  refine v_iconst (v := 0) (pc := 17) hX dX3_passMinute_17 (by decide) ?_
  refine v_istore_n (pc := 18) hX dX3_passMinute_18 (by decide) rfl ?_
  refine mV_sub (lv' := [(0, .ref f), (1, .int (nI 0))]) ⟨rfl, rfl, trivial⟩ ?_
  exact lp_X3_passMinute_l1 hO f N hN8 hX hZ N 0  ((X4_passMinute_m g ((sI m 166 f ((gI m 166 f) + 1))) (f + 1))) (hs.to (by simp only [mm, kK_X4_passMinute]) (by simp [mm, kR_X4_passMinute]) (by simp [mm, kR_X4_passMinute]) (by simp [mm, kR_X4_passMinute]) (by simp only [mm, kQ_X4_passMinute])) (by simp [mm, kI_X4_passMinute, hN]) (by omega) ⟨rfl, (by rw [X3_passMinute_m])⟩
