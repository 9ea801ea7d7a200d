/-! FORECAST at c: its copy c+1 (to c+16), its furnace c+17, its piece c+18 -/
def SC (m : mM) (c : Nat) : Prop := gK m c = some (.inl 4) ∧ gR m 128 c = some (c + 1) ∧ gR m 129 c = some (c + 17) ∧ gR m 130 c = some (c + 18) ∧ gK m (c + 17) = some (.inl 6) ∧ gK m (c + 18) = some (.inl 9) ∧ SF m (c + 1)
theorem SC.k {m : mM} {c : Nat} (s : SC m c) : gK m c = some (.inl 4) := s.1
theorem SC.r0 {m : mM} {c : Nat} (s : SC m c) : gR m 128 c = some (c + 1) := s.2.1
theorem SC.r1 {m : mM} {c : Nat} (s : SC m c) : gR m 129 c = some (c + 17) := s.2.2.1
theorem SC.r2 {m : mM} {c : Nat} (s : SC m c) : gR m 130 c = some (c + 18) := s.2.2.2.1
theorem SC.k1 {m : mM} {c : Nat} (s : SC m c) : gK m (c + 17) = some (.inl 6) := s.2.2.2.2.1
theorem SC.k2 {m : mM} {c : Nat} (s : SC m c) : gK m (c + 18) = some (.inl 9) := s.2.2.2.2.2.1
theorem SC.f {m : mM} {c : Nat} (s : SC m c) : SF m (c + 1) := s.2.2.2.2.2.2
theorem SC.to {m m1 : mM} {c : Nat} (s : SC m c) (hk : gK m1 = gK m) (hr : ∀ k, k ≠ 295 → ∀ a, gR m1 k a = gR m k a) (hq : gQ m1 = gQ m) : SC m1 c :=
  ⟨by rw [hk]; exact s.1, by rw [hr _ (by decide)]; exact s.r0, by rw [hr _ (by decide)]; exact s.r1, by rw [hr _ (by decide)]; exact s.r2, by rw [hk]; exact s.k1, by rw [hk]; exact s.k2, s.f.to hk (hr _ (by decide) _) (hr _ (by decide) _) (hr _ (by decide) _) hq⟩
theorem cp_N2 {g : mG} {f o : Nat} : ∀ (n j : Nat) (m : mM), gI (X3_copyFrom_l2 g f o n j m) 163 f = gI m 163 o := by
  intro n
  induction n with
  | zero => intro j m; rw [X3_copyFrom_l2]; simp [mm]
  | succ n ih => intro j m; rw [X3_copyFrom_l2, ih]; simp [kI_X5_copyFrom]
theorem cp_N1 {g : mG} {f o : Nat} : ∀ (n j : Nat) (m : mM), gI (X3_copyFrom_l1 g f o n j m) 163 f = gI m 163 o := by
  intro n
  induction n with
  | zero => intro j m; rw [X3_copyFrom_l1, cp_N2]
  | succ n ih => intro j m; rw [X3_copyFrom_l1, ih]; simp [kI_X7_copyFrom]
theorem cp_N {g : mG} {m : mM} {f o : Nat} : gI (X3_copyFrom_m g m f o) 163 f = gI m 163 o := by
  unfold X3_copyFrom_m
  rw [cp_N1]
  simp [kI_X4_copyFrom]
def X2_furnaceIn_l1 (g : mG) (c : Nat) (f : Nat) (a : Int32) (T : Nat) : Nat → Nat → mM → Int32 × mM
  | 0, j, m => (gI m 192 (c + 17), m)
  | n + 1, j, m => X2_furnaceIn_l1 g c f a T n (j + 1)  ((X4_passMinute_m g m (c + 17)))
set_option maxHeartbeats 4000000 in
set_option maxRecDepth 100000 in
theorem lp_X2_furnaceIn_l1 {l : Launch} {g : mG} {x : mCx} (hO : mO l g) (c : Nat) (f : Nat) (a : Int32) (T : Nat) (hT : a = nI T) (hT2 : T ≤ 200) {pst : Option Value → mM → Prop} {XX : String → mM → Prop} (hX : mX l g x cX2_furnaceIn yX2_furnaceIn { frames := 3, cells := 0, slots := 0, locals := 61 } 4) (hZ : mZ g x (Option.some FieldType.int) [] pst XX 0 0) : ∀ (n j : Nat)  (m : mM) (hc : SC m c) (hs : SF m f) (hj : j + n = T) (hp : pst (some (.int ((X2_furnaceIn_l1 g c f a T n j  m).1))) ((X2_furnaceIn_l1 g c f a T n j  m).2)), mV g x m 0 0 13 [(0, .ref c), (1, .ref f), (2, .int a), (3, .int (nI j))] [] := by
  intro n
  induction n with
  | zero =>
    intro j  m hc hs hj hp
    refine v_iload_n (pc := 13) hX dX2_furnaceIn_13 rfl ?_
    refine v_iload_n (pc := 14) hX dX2_furnaceIn_14 rfl ?_
    refine v_icmp_ge (tgt := 31) (pc := 15) hX dX2_furnaceIn_15 (by decide) (fun c1 => ?_) (fun c1 => ?_)
    ·
      refine v_aload_n (pc := 31) hX dX2_furnaceIn_31 rfl ?_
      refine v_get (v := .ref (c + 17)) (pc := 32) hX dX2_furnaceIn_32 hc.k (ci := 4) (r := vwC4) rfl 1 (by decide) wd_230 (fvR hc.r1) ?_
      refine v_getN (v := .int (gI m 192 (c + 17))) (pc := 35) hX dX2_furnaceIn_35 hc.k1 (ci := 6) (r := vwC6) rfl 0 (by decide) wd_58 rfl ?_
      exact v_iret (pc := 38) hX hZ dX2_furnaceIn_38 (by decide) (by decide) (by rw [X2_furnaceIn_l1] at hp; exact hp)
    · exact absurd (by rw [hT]; exact nI_le (by omega) (by omega)) c1
  | succ n ih =>
    intro j  m hc hs hj hp
    refine v_iload_n (pc := 13) hX dX2_furnaceIn_13 rfl ?_
    refine v_iload_n (pc := 14) hX dX2_furnaceIn_14 rfl ?_
    refine v_icmp_ge (tgt := 31) (pc := 15) hX dX2_furnaceIn_15 (by decide) (fun c1 => ?_) (fun c1 => ?_)
    · exact absurd c1 (by rw [hT]; exact nI_ge (by omega) (by omega))
    ·
      refine v_aload_n (pc := 18) hX dX2_furnaceIn_18 rfl ?_
      refine v_get (v := .ref (c + 17)) (pc := 19) hX dX2_furnaceIn_19 hc.k (ci := 4) (r := vwC4) rfl 1 (by decide) wd_230 (fvR hc.r1) ?_
      refine v_callV (z := yX4_passMinute) (pc := 22) hX dX2_furnaceIn_22 (c_X4_passMinute hO m (c + 17) (by exact hc.k1)) hc.k1 rfl wd_464 wd_437 wd_438 wd_3 wd_439 ⟨by decide, by decide, (by decide +kernel : (parseMethodDescriptor yX4_passMinute.desc).map (fun d => d.parameters.length) = some 0)⟩ rfl (Nat.le_of_ble_eq_true rfl) ⟨⟨by decide, by decide⟩, by decide, by decide⟩ (fun E m9 h9 => h9.elim) (fun r9 m9 h9 => ?_)
      obtain ⟨rfl, h8⟩ := h9
      replace h8 := h8.symm
      subst h8
      show mV g x _ _ _ _ _ []
      refine v_iinc (w := nI (j + 1)) (pc := 25) hX dX2_furnaceIn_25 rfl (nI_1 _) (by decide) rfl ?_
      refine v_goto (tgt := 13) (pc := 28) hX dX2_furnaceIn_28 (by decide) ?_
      refine mV_sub (lv' := [(0, .ref c), (1, .ref f), (2, .int a), (3, .int (nI (j + 1)))]) ⟨rfl, rfl, rfl, rfl, trivial⟩ ?_
      exact ih (j + 1)  ((X4_passMinute_m g m (c + 17))) (hc.to (by simp only [mm, kK_X4_passMinute]) (fun k hk a => by simp [mm, kR_X4_passMinute, hk]) (by simp only [mm, kQ_X4_passMinute])) (hs.to (by simp only [mm, kK_X4_passMinute]) (by simp [mm, kR_X4_passMinute]) (by simp [mm, kR_X4_passMinute]) (by simp [mm, kR_X4_passMinute]) (by simp only [mm, kQ_X4_passMinute])) (by omega) (by rw [X2_furnaceIn_l1] at hp; exact hp)
theorem kK_X2_furnaceIn_l1 (g : mG) (c : Nat) (f : Nat) (a : Int32) (T : Nat) : ∀ (n j : Nat)  (m : mM), gK ((X2_furnaceIn_l1 g c f a T n j  m).2) = gK m := by
  intro n
  induction n with
  | zero =>
    intro j  m
    rw [X2_furnaceIn_l1]
    repeat' split
    all_goals simp only [mm, kK_X4_passMinute]
  | succ n ih =>
    intro j  m
    rw [X2_furnaceIn_l1]
    repeat' split
    all_goals simp only [mm, ih, kK_X4_passMinute]
theorem kN_X2_furnaceIn_l1 (g : mG) (c : Nat) (f : Nat) (a : Int32) (T : Nat) : ∀ (n j : Nat)  (m : mM), gN ((X2_furnaceIn_l1 g c f a T n j  m).2) = gN m := by
  intro n
  induction n with
  | zero =>
    intro j  m
    rw [X2_furnaceIn_l1]
    repeat' split
    all_goals simp only [mm, kN_X4_passMinute]
  | succ n ih =>
    intro j  m
    rw [X2_furnaceIn_l1]
    repeat' split
    all_goals simp only [mm, ih, kN_X4_passMinute]
theorem kI_X2_furnaceIn_l1 (g : mG) (c : Nat) (f : Nat) (a : Int32) (T : Nat) (k a9 : Nat) (h0 : k ≠ 192) (h1 : k ≠ 193) (h2 : k ≠ 194) : ∀ (n j : Nat)  (m : mM), gI ((X2_furnaceIn_l1 g c f a T n j  m).2) k a9 = gI m k a9 := by
  intro n
  induction n with
  | zero =>
    intro j  m
    rw [X2_furnaceIn_l1]
    repeat' split
    all_goals simp [mm, kI_X4_passMinute, h0, h1, h2]
  | succ n ih =>
    intro j  m
    rw [X2_furnaceIn_l1]
    repeat' split
    all_goals simp [mm, ih, kI_X4_passMinute, h0, h1, h2]
theorem kJ_X2_furnaceIn_l1 (g : mG) (c : Nat) (f : Nat) (a : Int32) (T : Nat) (k a9 : Nat) (h0 : k ≠ 195) : ∀ (n j : Nat)  (m : mM), gJ ((X2_furnaceIn_l1 g c f a T n j  m).2) k a9 = gJ m k a9 := by
  intro n
  induction n with
  | zero =>
    intro j  m
    rw [X2_furnaceIn_l1]
    repeat' split
    all_goals simp [mm, kJ_X4_passMinute, h0]
  | succ n ih =>
    intro j  m
    rw [X2_furnaceIn_l1]
    repeat' split
    all_goals simp [mm, ih, kJ_X4_passMinute, h0]
theorem kR_X2_furnaceIn_l1 (g : mG) (c : Nat) (f : Nat) (a : Int32) (T : Nat) : ∀ (n j : Nat)  (m : mM), gR ((X2_furnaceIn_l1 g c f a T n j  m).2) = gR m := by
  intro n
  induction n with
  | zero =>
    intro j  m
    rw [X2_furnaceIn_l1]
    repeat' split
    all_goals simp only [mm, kR_X4_passMinute]
  | succ n ih =>
    intro j  m
    rw [X2_furnaceIn_l1]
    repeat' split
    all_goals simp only [mm, ih, kR_X4_passMinute]
theorem kA_X2_furnaceIn_l1 (g : mG) (c : Nat) (f : Nat) (a : Int32) (T : Nat) : ∀ (n j : Nat)  (m : mM), gA ((X2_furnaceIn_l1 g c f a T n j  m).2) = gA m := by
  intro n
  induction n with
  | zero =>
    intro j  m
    rw [X2_furnaceIn_l1]
    repeat' split
    all_goals simp only [mm, kA_X4_passMinute]
  | succ n ih =>
    intro j  m
    rw [X2_furnaceIn_l1]
    repeat' split
    all_goals simp only [mm, ih, kA_X4_passMinute]
theorem kQ_X2_furnaceIn_l1 (g : mG) (c : Nat) (f : Nat) (a : Int32) (T : Nat) : ∀ (n j : Nat)  (m : mM), gQ ((X2_furnaceIn_l1 g c f a T n j  m).2) = gQ m := by
  intro n
  induction n with
  | zero =>
    intro j  m
    rw [X2_furnaceIn_l1]
    repeat' split
    all_goals simp only [mm, kQ_X4_passMinute]
  | succ n ih =>
    intro j  m
    rw [X2_furnaceIn_l1]
    repeat' split
    all_goals simp only [mm, ih, kQ_X4_passMinute]
theorem kL_X2_furnaceIn_l1 (g : mG) (c : Nat) (f : Nat) (a : Int32) (T : Nat) : ∀ (n j : Nat)  (m : mM), gL ((X2_furnaceIn_l1 g c f a T n j  m).2) = gL m := by
  intro n
  induction n with
  | zero =>
    intro j  m
    rw [X2_furnaceIn_l1]
    repeat' split
    all_goals simp only [mm, kL_X4_passMinute]
  | succ n ih =>
    intro j  m
    rw [X2_furnaceIn_l1]
    repeat' split
    all_goals simp only [mm, ih, kL_X4_passMinute]
theorem kD_X2_furnaceIn_l1 (g : mG) (c : Nat) (f : Nat) (a : Int32) (T : Nat) : ∀ (n j : Nat)  (m : mM), gD ((X2_furnaceIn_l1 g c f a T n j  m).2) = gD m := by
  intro n
  induction n with
  | zero =>
    intro j  m
    rw [X2_furnaceIn_l1]
    repeat' split
    all_goals simp only [mm, kD_X4_passMinute]
  | succ n ih =>
    intro j  m
    rw [X2_furnaceIn_l1]
    repeat' split
    all_goals simp only [mm, ih, kD_X4_passMinute]
def X2_furnaceIn_r (g : mG) (m : mM) (c : Nat) (f : Nat) (a : Int32) (T : Nat) : Int32 := (X2_furnaceIn_l1 g c f a T T 0  ((X4_copyFrom_m g m (c + 17) (f + 1)))).1
def X2_furnaceIn_m (g : mG) (m : mM) (c : Nat) (f : Nat) (a : Int32) (T : Nat) : mM := (X2_furnaceIn_l1 g c f a T T 0  ((X4_copyFrom_m g m (c + 17) (f + 1)))).2
theorem kK_X2_furnaceIn (g : mG) (m : mM) (c : Nat) (f : Nat) (a : Int32) (T : Nat) : gK (X2_furnaceIn_m g m c f a T) = gK m := by
  unfold X2_furnaceIn_m
  repeat' split
  all_goals simp only [mm, kK_X2_furnaceIn_l1, kK_X4_copyFrom]
theorem kN_X2_furnaceIn (g : mG) (m : mM) (c : Nat) (f : Nat) (a : Int32) (T : Nat) : gN (X2_furnaceIn_m g m c f a T) = gN m := by
  unfold X2_furnaceIn_m
  repeat' split
  all_goals simp only [mm, kN_X2_furnaceIn_l1, kN_X4_copyFrom]
theorem kI_X2_furnaceIn (g : mG) (m : mM) (c : Nat) (f : Nat) (a : Int32) (T : Nat) (k a9 : Nat) (h0 : k ≠ 192) (h1 : k ≠ 193) (h2 : k ≠ 194) : gI (X2_furnaceIn_m g m c f a T) k a9 = gI m k a9 := by
  unfold X2_furnaceIn_m
  repeat' split
  all_goals simp [mm, kI_X2_furnaceIn_l1, kI_X4_copyFrom, h0, h1, h2]
theorem kJ_X2_furnaceIn (g : mG) (m : mM) (c : Nat) (f : Nat) (a : Int32) (T : Nat) (k a9 : Nat) (h0 : k ≠ 195) : gJ (X2_furnaceIn_m g m c f a T) k a9 = gJ m k a9 := by
  unfold X2_furnaceIn_m
  repeat' split
  all_goals simp [mm, kJ_X2_furnaceIn_l1, kJ_X4_copyFrom, h0]
theorem kR_X2_furnaceIn (g : mG) (m : mM) (c : Nat) (f : Nat) (a : Int32) (T : Nat) : gR (X2_furnaceIn_m g m c f a T) = gR m := by
  unfold X2_furnaceIn_m
  repeat' split
  all_goals simp only [mm, kR_X2_furnaceIn_l1, kR_X4_copyFrom]
theorem kA_X2_furnaceIn (g : mG) (m : mM) (c : Nat) (f : Nat) (a : Int32) (T : Nat) : gA (X2_furnaceIn_m g m c f a T) = gA m := by
  unfold X2_furnaceIn_m
  repeat' split
  all_goals simp only [mm, kA_X2_furnaceIn_l1, kA_X4_copyFrom]
theorem kQ_X2_furnaceIn (g : mG) (m : mM) (c : Nat) (f : Nat) (a : Int32) (T : Nat) : gQ (X2_furnaceIn_m g m c f a T) = gQ m := by
  unfold X2_furnaceIn_m
  repeat' split
  all_goals simp only [mm, kQ_X2_furnaceIn_l1, kQ_X4_copyFrom]
theorem kL_X2_furnaceIn (g : mG) (m : mM) (c : Nat) (f : Nat) (a : Int32) (T : Nat) : gL (X2_furnaceIn_m g m c f a T) = gL m := by
  unfold X2_furnaceIn_m
  repeat' split
  all_goals simp only [mm, kL_X2_furnaceIn_l1, kL_X4_copyFrom]
theorem kD_X2_furnaceIn (g : mG) (m : mM) (c : Nat) (f : Nat) (a : Int32) (T : Nat) : gD (X2_furnaceIn_m g m c f a T) = gD m := by
  unfold X2_furnaceIn_m
  repeat' split
  all_goals simp only [mm, kD_X2_furnaceIn_l1, kD_X4_copyFrom]
set_option maxHeartbeats 4000000 in
set_option maxRecDepth 100000 in
theorem c_X2_furnaceIn {l : Launch} {g : mG} (hO : mO l g) (m : mM) (c : Nat) (f : Nat) (a : Int32) (T : Nat) (hc : SC m c) (hs : SF m f) (hT : a = nI T) (hT2 : T ≤ 200) : mT l g yX2_furnaceIn (.code yX2_furnaceIn cX2_furnaceIn 4 (Option.some FieldType.int)) 3 61 0 0 [.ref c, .ref f, .int a] m (fun r m' => r = some (.int (X2_furnaceIn_r g m c f a T)) ∧ m' = X2_furnaceIn_m g m c f a T) nX := by
  refine mT_of hO (by decide) (Nat.le_of_ble_eq_true rfl) (fun x hX hZ => ?_)
  show mV g x m 0 0 0 [(0, .ref c), (1, .ref f), (2, .int a)] []
  refine v_aload_n (pc := 0) hX dX2_furnaceIn_0 rfl ?_
  refine v_get (v := .ref (c + 17)) (pc := 1) hX dX2_furnaceIn_1 hc.k (ci := 4) (r := vwC4) rfl 1 (by decide) wd_230 (fvR hc.r1) ?_
  refine v_aload_n (pc := 4) hX dX2_furnaceIn_4 rfl ?_
  refine v_getN (v := .ref (f + 1)) (pc := 5) hX dX2_furnaceIn_5 hs.k (ci := 5) (r := vwC5) rfl 0 (by decide) wd_150 (fvR hs.r0) ?_
  refine v_callV (z := yX4_copyFrom) (pc := 8) hX dX2_furnaceIn_8 (c_X4_copyFrom hO m (c + 17) (f + 1) (by exact hc.k1) (by exact hs.k1)) hc.k1 rfl wd_462 wd_420 wd_421 wd_3 wd_422 ⟨by decide, by decide, (by decide +kernel : (parseMethodDescriptor yX4_copyFrom.desc).map (fun d => d.parameters.length) = some 1)⟩ rfl (Nat.le_of_ble_eq_true rfl) ⟨⟨by decide, by decide⟩, by decide, by decide⟩ (fun E m9 h9 => h9.elim) (fun r9 m9 h9 => ?_)
  obtain ⟨rfl, h8⟩ := h9
  replace h8 := h8.symm
  subst h8
  show mV g x _ _ _ _ _ []
  refine v_iconst (v := 0) (pc := 11) hX dX2_furnaceIn_11 (by decide) ?_
  refine v_istore_n (pc := 12) hX dX2_furnaceIn_12 (by decide) rfl ?_
  refine mV_sub (lv' := [(0, .ref c), (1, .ref f), (2, .int a), (3, .int (nI 0))]) ⟨rfl, rfl, rfl, rfl, trivial⟩ ?_
  exact lp_X2_furnaceIn_l1 hO c f a T hT hT2 hX hZ T 0  ((X4_copyFrom_m g m (c + 17) (f + 1))) (hc.to (by simp only [mm, kK_X4_copyFrom]) (fun k hk a => by simp [mm, kR_X4_copyFrom, hk]) (by simp only [mm, kQ_X4_copyFrom])) (hs.to (by simp only [mm, kK_X4_copyFrom]) (by simp [mm, kR_X4_copyFrom]) (by simp [mm, kR_X4_copyFrom]) (by simp [mm, kR_X4_copyFrom]) (by simp only [mm, kQ_X4_copyFrom])) (by omega) ⟨(by rw [X2_furnaceIn_r]), (by rw [X2_furnaceIn_m])⟩
theorem SF_cp {g : mG} {m : mM} {f o : Nat} (h : SF m f) : SF m o → SF (X3_copyFrom_m g m f o) f := fun _ => h.to (by simp only [kK_X3_copyFrom]) (by simp [kR_X3_copyFrom]) (by simp [kR_X3_copyFrom]) (by simp [kR_X3_copyFrom]) (by simp only [kQ_X3_copyFrom])
def X2_minutesOnCopy_l1 (g : mG) (c : Nat) (f : Nat) (a : Int32) (b : Int32) (N : Nat) : Nat → Nat → Nat → mM → Int32 × mM
  | 0, j, p, m => ((-1), m)
  | n + 1, j, p, m => if b < (gI m 290 p) then (X2_minutesOnCopy_l1 g c f a b N n (j + 1) p ((X3_passMinute_m g m (c + 1) N))) else ((nI j, m))
set_option maxHeartbeats 4000000 in
set_option maxRecDepth 100000 in
theorem lp_X2_minutesOnCopy_l1 {l : Launch} {g : mG} {x : mCx} (hO : mO l g) (c : Nat) (f : Nat) (a : Int32) (b : Int32) (N : Nat) (hN8 : N ≤ 8) {pst : Option Value → mM → Prop} {XX : String → mM → Prop} (hX : mX l g x cX2_minutesOnCopy yX2_minutesOnCopy { frames := 4, cells := 0, slots := 0, locals := 82 } 6) (hZ : mZ g x (Option.some FieldType.int) [] pst XX 0 0) : ∀ (n j : Nat) (p : Nat) (m : mM) (hc : SC m c) (hkp : gK m p = some (.inl 9)) (hNc : gI m 163 (c + 1) = nI N) (hj : j + n = 201) (hp : pst (some (.int ((X2_minutesOnCopy_l1 g c f a b N n j p m).1))) ((X2_minutesOnCopy_l1 g c f a b N n j p m).2)), mV g x m 0 0 28 [(0, .ref c), (1, .ref f), (2, .int a), (3, .int b), (4, .ref p), (5, .int (nI j))] [] := by
  intro n
  induction n with
  | zero =>
    intro j p m hc hkp hNc hj hp
    refine v_iload (pc := 28) hX dX2_minutesOnCopy_28 rfl ?_
    refine v_sipush (v := 200) (pc := 30) hX dX2_minutesOnCopy_30 (by decide) ?_
    refine v_icmp_gt (tgt := 61) (pc := 33) hX dX2_minutesOnCopy_33 (by decide) (fun c1 => ?_) (fun c1 => ?_)
    ·
      refine v_iconst (v := (-1)) (pc := 61) hX dX2_minutesOnCopy_61 (by decide) ?_
      exact v_iret (pc := 62) hX hZ dX2_minutesOnCopy_62 (by decide) (by decide) (by rw [X2_minutesOnCopy_l1] at hp; exact hp)
    · exact absurd (show nI 200 < nI j from nI_lt (by omega) (by omega)) c1
  | succ n ih =>
    intro j p m hc hkp hNc hj hp
    refine v_iload (pc := 28) hX dX2_minutesOnCopy_28 rfl ?_
    refine v_sipush (v := 200) (pc := 30) hX dX2_minutesOnCopy_30 (by decide) ?_
    refine v_icmp_gt (tgt := 61) (pc := 33) hX dX2_minutesOnCopy_33 (by decide) (fun c1 => ?_) (fun c1 => ?_)
    · exact absurd c1 (show ¬ nI 200 < nI j from nI_nlt (by omega) (by omega))
    ·
      refine v_aload (pc := 36) hX dX2_minutesOnCopy_36 rfl ?_
      refine v_getN (v := .int (gI m 290 p)) (pc := 38) hX dX2_minutesOnCopy_38 hkp (ci := 9) (r := vwC9) rfl 2 (by decide) wd_98 rfl ?_
      refine v_iload_n (pc := 41) hX dX2_minutesOnCopy_41 rfl ?_
      refine v_icmp_gt (tgt := 48) (pc := 42) hX dX2_minutesOnCopy_42 (by decide) (fun c2 => ?_) (fun c2 => ?_)
      ·
        refine v_aload_n (pc := 48) hX dX2_minutesOnCopy_48 rfl ?_
        refine v_get (v := .ref (c + 1)) (pc := 49) hX dX2_minutesOnCopy_49 hc.k (ci := 4) (r := vwC4) rfl 0 (by decide) wd_229 (fvR hc.r0) ?_
        refine v_callV (z := yX3_passMinute) (pc := 52) hX dX2_minutesOnCopy_52 (c_X3_passMinute hO m (c + 1) N hc.f hNc hN8) hc.f.k rfl wd_432 wd_433 wd_434 wd_2 wd_435 ⟨by decide, by decide, (by decide +kernel : (parseMethodDescriptor yX3_passMinute.desc).map (fun d => d.parameters.length) = some 0)⟩ rfl (Nat.le_of_ble_eq_true rfl) ⟨⟨by decide, by decide⟩, by decide, by decide⟩ (fun E m9 h9 => h9.elim) (fun r9 m9 h9 => ?_)
        obtain ⟨rfl, h8⟩ := h9
        replace h8 := h8.symm
        subst h8
        show mV g x _ _ _ _ _ []
        refine v_iinc (w := nI (j + 1)) (pc := 55) hX dX2_minutesOnCopy_55 rfl (nI_1 _) (by decide) rfl ?_
        refine v_goto (tgt := 28) (pc := 58) hX dX2_minutesOnCopy_58 (by decide) ?_
        refine mV_sub (lv' := [(0, .ref c), (1, .ref f), (2, .int a), (3, .int b), (4, .ref p), (5, .int (nI (j + 1)))]) ⟨rfl, rfl, rfl, rfl, rfl, rfl, trivial⟩ ?_
        exact ih (j + 1) p ((X3_passMinute_m g m (c + 1) N)) (hc.to (by simp only [mm, kK_X3_passMinute]) (fun k hk a => by simp [mm, kR_X3_passMinute, hk]) (by simp only [mm, kQ_X3_passMinute])) (by simp only [mm, kK_X3_passMinute]; exact hkp) (by simp [mm, kI_X3_passMinute, hNc]) (by omega) (by rw [X2_minutesOnCopy_l1, if_pos c2] at hp; exact hp)
      ·
        refine v_iload (pc := 45) hX dX2_minutesOnCopy_45 rfl ?_
        exact v_iret (pc := 47) hX hZ dX2_minutesOnCopy_47 (by decide) (by decide) (by rw [X2_minutesOnCopy_l1, if_neg c2] at hp; exact hp)
theorem kK_X2_minutesOnCopy_l1 (g : mG) (c : Nat) (f : Nat) (a : Int32) (b : Int32) (N : Nat) : ∀ (n j : Nat) (p : Nat) (m : mM), gK ((X2_minutesOnCopy_l1 g c f a b N n j p m).2) = gK m := by
  intro n
  induction n with
  | zero =>
    intro j p m
    rw [X2_minutesOnCopy_l1]
    repeat' split
    all_goals simp only [mm, kK_X3_passMinute]
  | succ n ih =>
    intro j p m
    rw [X2_minutesOnCopy_l1]
    repeat' split
    all_goals simp only [mm, ih, kK_X3_passMinute]
theorem kN_X2_minutesOnCopy_l1 (g : mG) (c : Nat) (f : Nat) (a : Int32) (b : Int32) (N : Nat) : ∀ (n j : Nat) (p : Nat) (m : mM), gN ((X2_minutesOnCopy_l1 g c f a b N n j p m).2) = gN m := by
  intro n
  induction n with
  | zero =>
    intro j p m
    rw [X2_minutesOnCopy_l1]
    repeat' split
    all_goals simp only [mm, kN_X3_passMinute]
  | succ n ih =>
    intro j p m
    rw [X2_minutesOnCopy_l1]
    repeat' split
    all_goals simp only [mm, ih, kN_X3_passMinute]
theorem kI_X2_minutesOnCopy_l1 (g : mG) (c : Nat) (f : Nat) (a : Int32) (b : Int32) (N : Nat) (k a9 : Nat) (h0 : k ≠ 166) (h1 : k ≠ 192) (h2 : k ≠ 193) (h3 : k ≠ 194) (h4 : k ≠ 290) (h5 : k ≠ 292) (h6 : k ≠ 294) : ∀ (n j : Nat) (p : Nat) (m : mM), gI ((X2_minutesOnCopy_l1 g c f a b N n j p m).2) k a9 = gI m k a9 := by
  intro n
  induction n with
  | zero =>
    intro j p m
    rw [X2_minutesOnCopy_l1]
    repeat' split
    all_goals simp [mm, kI_X3_passMinute, h0, h1, h2, h3, h4, h5, h6]
  | succ n ih =>
    intro j p m
    rw [X2_minutesOnCopy_l1]
    repeat' split
    all_goals simp [mm, ih, kI_X3_passMinute, h0, h1, h2, h3, h4, h5, h6]
theorem kJ_X2_minutesOnCopy_l1 (g : mG) (c : Nat) (f : Nat) (a : Int32) (b : Int32) (N : Nat) (k a9 : Nat) (h0 : k ≠ 195) : ∀ (n j : Nat) (p : Nat) (m : mM), gJ ((X2_minutesOnCopy_l1 g c f a b N n j p m).2) k a9 = gJ m k a9 := by
  intro n
  induction n with
  | zero =>
    intro j p m
    rw [X2_minutesOnCopy_l1]
    repeat' split
    all_goals simp [mm, kJ_X3_passMinute, h0]
  | succ n ih =>
    intro j p m
    rw [X2_minutesOnCopy_l1]
    repeat' split
    all_goals simp [mm, ih, kJ_X3_passMinute, h0]
theorem kR_X2_minutesOnCopy_l1 (g : mG) (c : Nat) (f : Nat) (a : Int32) (b : Int32) (N : Nat) (k a9 : Nat) (h0 : k ≠ 295) : ∀ (n j : Nat) (p : Nat) (m : mM), gR ((X2_minutesOnCopy_l1 g c f a b N n j p m).2) k a9 = gR m k a9 := by
  intro n
  induction n with
  | zero =>
    intro j p m
    rw [X2_minutesOnCopy_l1]
    repeat' split
    all_goals simp [mm, kR_X3_passMinute, h0]
  | succ n ih =>
    intro j p m
    rw [X2_minutesOnCopy_l1]
    repeat' split
    all_goals simp [mm, ih, kR_X3_passMinute, h0]
theorem kA_X2_minutesOnCopy_l1 (g : mG) (c : Nat) (f : Nat) (a : Int32) (b : Int32) (N : Nat) : ∀ (n j : Nat) (p : Nat) (m : mM), gA ((X2_minutesOnCopy_l1 g c f a b N n j p m).2) = gA m := by
  intro n
  induction n with
  | zero =>
    intro j p m
    rw [X2_minutesOnCopy_l1]
    repeat' split
    all_goals simp only [mm, kA_X3_passMinute]
  | succ n ih =>
    intro j p m
    rw [X2_minutesOnCopy_l1]
    repeat' split
    all_goals simp only [mm, ih, kA_X3_passMinute]
theorem kQ_X2_minutesOnCopy_l1 (g : mG) (c : Nat) (f : Nat) (a : Int32) (b : Int32) (N : Nat) : ∀ (n j : Nat) (p : Nat) (m : mM), gQ ((X2_minutesOnCopy_l1 g c f a b N n j p m).2) = gQ m := by
  intro n
  induction n with
  | zero =>
    intro j p m
    rw [X2_minutesOnCopy_l1]
    repeat' split
    all_goals simp only [mm, kQ_X3_passMinute]
  | succ n ih =>
    intro j p m
    rw [X2_minutesOnCopy_l1]
    repeat' split
    all_goals simp only [mm, ih, kQ_X3_passMinute]
theorem kL_X2_minutesOnCopy_l1 (g : mG) (c : Nat) (f : Nat) (a : Int32) (b : Int32) (N : Nat) : ∀ (n j : Nat) (p : Nat) (m : mM), gL ((X2_minutesOnCopy_l1 g c f a b N n j p m).2) = gL m := by
  intro n
  induction n with
  | zero =>
    intro j p m
    rw [X2_minutesOnCopy_l1]
    repeat' split
    all_goals simp only [mm, kL_X3_passMinute]
  | succ n ih =>
    intro j p m
    rw [X2_minutesOnCopy_l1]
    repeat' split
    all_goals simp only [mm, ih, kL_X3_passMinute]
theorem kD_X2_minutesOnCopy_l1 (g : mG) (c : Nat) (f : Nat) (a : Int32) (b : Int32) (N : Nat) : ∀ (n j : Nat) (p : Nat) (m : mM), gD ((X2_minutesOnCopy_l1 g c f a b N n j p m).2) = gD m := by
  intro n
  induction n with
  | zero =>
    intro j p m
    rw [X2_minutesOnCopy_l1]
    repeat' split
    all_goals simp only [mm, kD_X3_passMinute]
  | succ n ih =>
    intro j p m
    rw [X2_minutesOnCopy_l1]
    repeat' split
    all_goals simp only [mm, ih, kD_X3_passMinute]
theorem fr_X2_minutesOnCopy_l1 (g : mG) (c : Nat) (f : Nat) (a : Int32) (b : Int32) (N : Nat) (hN8 : N ≤ 8) : ∀ (n j : Nat) (p : Nat) (m : mM) (hc : SC m c) (hkp : gK m p = some (.inl 9)), j + n = 201 → Fr c (c + 19) m ((X2_minutesOnCopy_l1 g c f a b N n j p m).2) := by
  intro n
  induction n with
  | zero =>
    intro j p m hc hkp hj
    rw [X2_minutesOnCopy_l1]
    exact Fr.rf
  | succ n ih =>
    intro j p m hc hkp hj
    rw [X2_minutesOnCopy_l1]
    split
    ·
      exact (((Fr.rf).tr (fr_X3_passMinute g m (c + 1) N hc.f hN8) (by omega) (by omega))).tr (ih (j + 1) p (X3_passMinute_m g m (c + 1) N) (hc.to (by simp only [mm, kK_X3_passMinute]) (fun k hk a => by simp [mm, kR_X3_passMinute, hk]) (by simp only [mm, kQ_X3_passMinute])) (by simp only [mm, kK_X3_passMinute]; exact hkp) (by omega)) (Nat.le_refl _) (Nat.le_refl _)
    ·
      exact Fr.rf
def X2_minutesOnCopy_r (g : mG) (m : mM) (c : Nat) (f : Nat) (a : Int32) (b : Int32) (N : Nat) : Int32 := ((match X3_find_r g ((X3_copyFrom_m g m (c + 1) f )) (c + 1) a N with | none => ((-1), (X3_copyFrom_m g m (c + 1) f )) | some p1 => X2_minutesOnCopy_l1 g c f a b N 201 0 p1 ((X3_copyFrom_m g m (c + 1) f )))).1
def X2_minutesOnCopy_m (g : mG) (m : mM) (c : Nat) (f : Nat) (a : Int32) (b : Int32) (N : Nat) : mM := ((match X3_find_r g ((X3_copyFrom_m g m (c + 1) f )) (c + 1) a N with | none => ((-1), (X3_copyFrom_m g m (c + 1) f )) | some p1 => X2_minutesOnCopy_l1 g c f a b N 201 0 p1 ((X3_copyFrom_m g m (c + 1) f )))).2
theorem kK_X2_minutesOnCopy (g : mG) (m : mM) (c : Nat) (f : Nat) (a : Int32) (b : Int32) (N : Nat) : gK (X2_minutesOnCopy_m g m c f a b N) = gK m := by
  unfold X2_minutesOnCopy_m
  repeat' split
  all_goals simp only [mm, kK_X2_minutesOnCopy_l1, kK_X3_copyFrom]
theorem kN_X2_minutesOnCopy (g : mG) (m : mM) (c : Nat) (f : Nat) (a : Int32) (b : Int32) (N : Nat) : gN (X2_minutesOnCopy_m g m c f a b N) = gN m := by
  unfold X2_minutesOnCopy_m
  repeat' split
  all_goals simp only [mm, kN_X2_minutesOnCopy_l1, kN_X3_copyFrom]
theorem kI_X2_minutesOnCopy (g : mG) (m : mM) (c : Nat) (f : Nat) (a : Int32) (b : Int32) (N : Nat) (k a9 : Nat) (h0 : k ≠ 163) (h1 : k ≠ 164) (h2 : k ≠ 165) (h3 : k ≠ 166) (h4 : k ≠ 167) (h5 : k ≠ 168) (h6 : k ≠ 169) (h7 : k ≠ 170) (h8 : k ≠ 192) (h9 : k ≠ 193) (h10 : k ≠ 194) (h11 : k ≠ 224) (h12 : k ≠ 225) (h13 : k ≠ 288) (h14 : k ≠ 289) (h15 : k ≠ 290) (h16 : k ≠ 291) (h17 : k ≠ 292) (h18 : k ≠ 293) (h19 : k ≠ 294) : gI (X2_minutesOnCopy_m g m c f a b N) k a9 = gI m k a9 := by
  unfold X2_minutesOnCopy_m
  repeat' split
  all_goals simp [mm, kI_X2_minutesOnCopy_l1, kI_X3_copyFrom, h0, h1, h2, h3, h4, h5, h6, h7, h8, h9, h10, h11, h12, h13, h14, h15, h16, h17, h18, h19]
theorem kJ_X2_minutesOnCopy (g : mG) (m : mM) (c : Nat) (f : Nat) (a : Int32) (b : Int32) (N : Nat) (k a9 : Nat) (h0 : k ≠ 171) (h1 : k ≠ 195) : gJ (X2_minutesOnCopy_m g m c f a b N) k a9 = gJ m k a9 := by
  unfold X2_minutesOnCopy_m
  repeat' split
  all_goals simp [mm, kJ_X2_minutesOnCopy_l1, kJ_X3_copyFrom, h0, h1]
theorem kR_X2_minutesOnCopy (g : mG) (m : mM) (c : Nat) (f : Nat) (a : Int32) (b : Int32) (N : Nat) (k a9 : Nat) (h0 : k ≠ 295) : gR (X2_minutesOnCopy_m g m c f a b N) k a9 = gR m k a9 := by
  unfold X2_minutesOnCopy_m
  repeat' split
  all_goals simp [mm, kR_X2_minutesOnCopy_l1, kR_X3_copyFrom, h0]
theorem kA_X2_minutesOnCopy (g : mG) (m : mM) (c : Nat) (f : Nat) (a : Int32) (b : Int32) (N : Nat) : gA (X2_minutesOnCopy_m g m c f a b N) = gA m := by
  unfold X2_minutesOnCopy_m
  repeat' split
  all_goals simp only [mm, kA_X2_minutesOnCopy_l1, kA_X3_copyFrom]
theorem kQ_X2_minutesOnCopy (g : mG) (m : mM) (c : Nat) (f : Nat) (a : Int32) (b : Int32) (N : Nat) : gQ (X2_minutesOnCopy_m g m c f a b N) = gQ m := by
  unfold X2_minutesOnCopy_m
  repeat' split
  all_goals simp only [mm, kQ_X2_minutesOnCopy_l1, kQ_X3_copyFrom]
theorem kL_X2_minutesOnCopy (g : mG) (m : mM) (c : Nat) (f : Nat) (a : Int32) (b : Int32) (N : Nat) : gL (X2_minutesOnCopy_m g m c f a b N) = gL m := by
  unfold X2_minutesOnCopy_m
  repeat' split
  all_goals simp only [mm, kL_X2_minutesOnCopy_l1, kL_X3_copyFrom]
theorem kD_X2_minutesOnCopy (g : mG) (m : mM) (c : Nat) (f : Nat) (a : Int32) (b : Int32) (N : Nat) : gD (X2_minutesOnCopy_m g m c f a b N) = gD m := by
  unfold X2_minutesOnCopy_m
  repeat' split
  all_goals simp only [mm, kD_X2_minutesOnCopy_l1, kD_X3_copyFrom]
theorem fr_X2_minutesOnCopy (g : mG) (m : mM) (c : Nat) (f : Nat) (a : Int32) (b : Int32) (N : Nat) (hc : SC m c) (hs : SF m f) (hN8 : N ≤ 8) : Fr c (c + 19) m (X2_minutesOnCopy_m g m c f a b N) := by
  unfold X2_minutesOnCopy_m
  split
  ·
    exact ((Fr.rf).tr (fr_X3_copyFrom g m (c + 1) f hc.f hs) (by omega) (by omega))
  ·
    rename_i p1 hq1
    exact (((Fr.rf).tr (fr_X3_copyFrom g m (c + 1) f hc.f hs) (by omega) (by omega))).tr (fr_X2_minutesOnCopy_l1 g c f a b N hN8 201 0 p1 (X3_copyFrom_m g m (c + 1) f ) (hc.to (by simp only [mm, kK_X3_copyFrom]) (fun k hk a => by simp [mm, kR_X3_copyFrom, hk]) (by simp only [mm, kQ_X3_copyFrom])) (find_k (SF_cp hc.f hs) hN8 hq1) (by omega)) (Nat.le_refl _) (Nat.le_refl _)
set_option maxHeartbeats 4000000 in
set_option maxRecDepth 100000 in
theorem c_X2_minutesOnCopy {l : Launch} {g : mG} (hO : mO l g) (m : mM) (c : Nat) (f : Nat) (a : Int32) (b : Int32) (N : Nat) (hc : SC m c) (hs : SF m f) (hN : gI m 163 f = nI N) (hN8 : N ≤ 8) : mT l g yX2_minutesOnCopy (.code yX2_minutesOnCopy cX2_minutesOnCopy 6 (Option.some FieldType.int)) 4 82 0 0 [.ref c, .ref f, .int a, .int b] m (fun r m' => r = some (.int (X2_minutesOnCopy_r g m c f a b N)) ∧ m' = X2_minutesOnCopy_m g m c f a b N) nX := by
  refine mT_of hO (by decide) (Nat.le_of_ble_eq_true rfl) (fun x hX hZ => ?_)
  show mV g x m 0 0 0 [(0, .ref c), (1, .ref f), (2, .int a), (3, .int b)] []
  refine v_aload_n (pc := 0) hX dX2_minutesOnCopy_0 rfl ?_
  refine v_get (v := .ref (c + 1)) (pc := 1) hX dX2_minutesOnCopy_1 hc.k (ci := 4) (r := vwC4) rfl 0 (by decide) wd_229 (fvR hc.r0) ?_
  refine v_aload_n (pc := 4) hX dX2_minutesOnCopy_4 rfl ?_
  refine v_callV (z := yX3_copyFrom) (pc := 5) hX dX2_minutesOnCopy_5 (c_X3_copyFrom hO m (c + 1) f hc.f hs) hc.f.k rfl wd_415 wd_416 wd_417 wd_2 wd_418 ⟨by decide, by decide, (by decide +kernel : (parseMethodDescriptor yX3_copyFrom.desc).map (fun d => d.parameters.length) = some 1)⟩ rfl (Nat.le_of_ble_eq_true rfl) ⟨⟨by decide, by decide⟩, by decide, by decide⟩ (fun E m9 h9 => h9.elim) (fun r9 m9 h9 => ?_)
  obtain ⟨rfl, h8⟩ := h9
  replace h8 := h8.symm
  subst h8
  show mV g x _ _ _ _ _ []
  refine v_aload_n (pc := 8) hX dX2_minutesOnCopy_8 rfl ?_
  refine v_get (v := .ref (c + 1)) (pc := 9) hX dX2_minutesOnCopy_9 (by simp only [mm, kK_X3_copyFrom]; exact hc.k) (ci := 4) (r := vwC4) rfl 0 (by decide) wd_229 (fvR (by simp [mm, kR_X3_copyFrom, hc.r0])) ?_
  refine v_iload_n (pc := 12) hX dX2_minutesOnCopy_12 rfl ?_
  refine v_callV (z := yX3_find) (pc := 13) hX dX2_minutesOnCopy_13 (c_X3_find hO ((X3_copyFrom_m g m (c + 1) f )) (c + 1) a N (hc.f.to (by simp only [mm, kK_X3_copyFrom]) (by simp [mm, kR_X3_copyFrom]) (by simp [mm, kR_X3_copyFrom]) (by simp [mm, kR_X3_copyFrom]) (by simp only [mm, kQ_X3_copyFrom])) (cp_N.trans hN) hN8) (by simp only [mm, kK_X3_copyFrom]; exact hc.f.k) rfl wd_431 wd_370 wd_371 wd_2 wd_372 ⟨by decide, by decide, (by decide +kernel : (parseMethodDescriptor yX3_find.desc).map (fun d => d.parameters.length) = some 1)⟩ rfl (Nat.le_of_ble_eq_true rfl) ⟨⟨by decide, by decide⟩, by decide, by decide⟩ (fun E m9 h9 => h9.elim) (fun r9 m9 h9 => ?_)
  obtain ⟨rfl, h8⟩ := h9
  replace h8 := h8.symm
  subst h8
  show mV g x _ _ _ _ _ [va_rf (X3_find_r g ((X3_copyFrom_m g m (c + 1) f )) (c + 1) a N)]
  rcases hq1 : X3_find_r g ((X3_copyFrom_m g m (c + 1) f )) (c + 1) a N with _ | p1
  ·
    show mV g x _ _ _ _ _ [.null]
    refine v_astoreN (pc := 16) hX dX2_minutesOnCopy_16 (by decide) rfl ?_
    refine v_aloadN (pc := 18) hX dX2_minutesOnCopy_18 rfl ?_
    refine v_ifnonnull_n (pc := 20) hX dX2_minutesOnCopy_20 ?_
    refine v_iconst (v := (-1)) (pc := 23) hX dX2_minutesOnCopy_23 (by decide) ?_
    exact v_iret (pc := 24) hX hZ dX2_minutesOnCopy_24 (by decide) (by decide) ⟨(by simp only [X2_minutesOnCopy_r, hq1]), (by simp only [X2_minutesOnCopy_m, hq1])⟩
  ·
    show mV g x _ _ _ _ _ [.ref p1]
    refine v_astore (pc := 16) hX dX2_minutesOnCopy_16 (by decide) rfl ?_
    refine v_aload (pc := 18) hX dX2_minutesOnCopy_18 rfl ?_
    refine v_ifnonnull_s (tgt := 25) (pc := 20) hX dX2_minutesOnCopy_20 (by decide) ?_
    refine v_iconst (v := 0) (pc := 25) hX dX2_minutesOnCopy_25 (by decide) ?_
    refine v_istore (pc := 26) hX dX2_minutesOnCopy_26 (by decide) rfl ?_
    refine mV_sub (lv' := [(0, .ref c), (1, .ref f), (2, .int a), (3, .int b), (4, .ref p1), (5, .int (nI 0))]) ⟨rfl, rfl, rfl, rfl, rfl, rfl, trivial⟩ ?_
    exact lp_X2_minutesOnCopy_l1 hO c f a b N hN8 hX hZ 201 0 p1 ((X3_copyFrom_m g m (c + 1) f )) (hc.to (by simp only [mm, kK_X3_copyFrom]) (fun k hk a => by simp [mm, kR_X3_copyFrom, hk]) (by simp only [mm, kQ_X3_copyFrom])) (find_k (SF_cp hc.f hs) hN8 hq1) (cp_N.trans hN) (by omega) ⟨(by simp only [X2_minutesOnCopy_r, hq1]), (by simp only [X2_minutesOnCopy_m, hq1])⟩
def X2_minutesAlone_l1 (g : mG) (c : Nat) (f : Nat) (a : Int32) (b : Int32) (N : Nat) : Nat → Nat → Nat → mM → Int32 × mM
  | 0, j, p, m => ((-1), m)
  | n + 1, j, p, m => if b < (gI m 290 (c + 18)) then (X2_minutesAlone_l1 g c f a b N n (j + 1) p ((X7_changeTemperature_m g ((X4_passMinute_m g m (c + 17))) (c + 18) (gI (X4_passMinute_m g m (c + 17)) 192 (c + 17))))) else ((nI j, m))
set_option maxHeartbeats 4000000 in
set_option maxRecDepth 100000 in
theorem lp_X2_minutesAlone_l1 {l : Launch} {g : mG} {x : mCx} (hO : mO l g) (c : Nat) (f : Nat) (a : Int32) (b : Int32) (N : Nat) (hN8 : N ≤ 8) {pst : Option Value → mM → Prop} {XX : String → mM → Prop} (hX : mX l g x cX2_minutesAlone yX2_minutesAlone { frames := 3, cells := 0, slots := 0, locals := 61 } 6) (hZ : mZ g x (Option.some FieldType.int) [] pst XX 0 0) : ∀ (n j : Nat) (p : Nat) (m : mM) (hc : SC m c) (hkp : gK m p = some (.inl 9)) (hj : j + n = 201) (hp : pst (some (.int ((X2_minutesAlone_l1 g c f a b N n j p m).1))) ((X2_minutesAlone_l1 g c f a b N n j p m).2)), mV g x m 0 0 37 [(0, .ref c), (1, .ref f), (2, .int a), (3, .int b), (4, .ref p), (5, .int (nI j))] [] := by
  intro n
  induction n with
  | zero =>
    intro j p m hc hkp hj hp
    refine v_iload (pc := 37) hX dX2_minutesAlone_37 rfl ?_
    refine v_sipush (v := 200) (pc := 39) hX dX2_minutesAlone_39 (by decide) ?_
    refine v_icmp_gt (tgt := 86) (pc := 42) hX dX2_minutesAlone_42 (by decide) (fun c1 => ?_) (fun c1 => ?_)
    ·
      refine v_iconst (v := (-1)) (pc := 86) hX dX2_minutesAlone_86 (by decide) ?_
      exact v_iret (pc := 87) hX hZ dX2_minutesAlone_87 (by decide) (by decide) (by rw [X2_minutesAlone_l1] at hp; exact hp)
    · exact absurd (show nI 200 < nI j from nI_lt (by omega) (by omega)) c1
  | succ n ih =>
    intro j p m hc hkp hj hp
    refine v_iload (pc := 37) hX dX2_minutesAlone_37 rfl ?_
    refine v_sipush (v := 200) (pc := 39) hX dX2_minutesAlone_39 (by decide) ?_
    refine v_icmp_gt (tgt := 86) (pc := 42) hX dX2_minutesAlone_42 (by decide) (fun c1 => ?_) (fun c1 => ?_)
    · exact absurd c1 (show ¬ nI 200 < nI j from nI_nlt (by omega) (by omega))
    ·
      refine v_aload_n (pc := 45) hX dX2_minutesAlone_45 rfl ?_
      refine v_get (v := .ref (c + 18)) (pc := 46) hX dX2_minutesAlone_46 hc.k (ci := 4) (r := vwC4) rfl 2 (by decide) wd_231 (fvR hc.r2) ?_
      refine v_getN (v := .int (gI m 290 (c + 18))) (pc := 49) hX dX2_minutesAlone_49 hc.k2 (ci := 9) (r := vwC9) rfl 2 (by decide) wd_98 rfl ?_
      refine v_iload_n (pc := 52) hX dX2_minutesAlone_52 rfl ?_
      refine v_icmp_gt (tgt := 59) (pc := 53) hX dX2_minutesAlone_53 (by decide) (fun c2 => ?_) (fun c2 => ?_)
      ·
        refine v_aload_n (pc := 59) hX dX2_minutesAlone_59 rfl ?_
        refine v_get (v := .ref (c + 17)) (pc := 60) hX dX2_minutesAlone_60 hc.k (ci := 4) (r := vwC4) rfl 1 (by decide) wd_230 (fvR hc.r1) ?_
        refine v_callV (z := yX4_passMinute) (pc := 63) hX dX2_minutesAlone_63 (c_X4_passMinute hO m (c + 17) (by exact hc.k1)) hc.k1 rfl wd_464 wd_437 wd_438 wd_3 wd_439 ⟨by decide, by decide, (by decide +kernel : (parseMethodDescriptor yX4_passMinute.desc).map (fun d => d.parameters.length) = some 0)⟩ rfl (Nat.le_of_ble_eq_true rfl) ⟨⟨by decide, by decide⟩, by decide, by decide⟩ (fun E m9 h9 => h9.elim) (fun r9 m9 h9 => ?_)
        obtain ⟨rfl, h8⟩ := h9
        replace h8 := h8.symm
        subst h8
        show mV g x _ _ _ _ _ []
        refine v_aload_n (pc := 66) hX dX2_minutesAlone_66 rfl ?_
        refine v_get (v := .ref (c + 18)) (pc := 67) hX dX2_minutesAlone_67 (by simp only [mm, kK_X4_passMinute]; exact hc.k) (ci := 4) (r := vwC4) rfl 2 (by decide) wd_231 (fvR (by simp [mm, kR_X4_passMinute, hc.r2])) ?_
        refine v_aload_n (pc := 70) hX dX2_minutesAlone_70 rfl ?_
        refine v_get (v := .ref (c + 17)) (pc := 71) hX dX2_minutesAlone_71 (by simp only [mm, kK_X4_passMinute]; exact hc.k) (ci := 4) (r := vwC4) rfl 1 (by decide) wd_230 (fvR (by simp [mm, kR_X4_passMinute, hc.r1])) ?_
        refine v_getN (v := .int (gI (X4_passMinute_m g m (c + 17)) 192 (c + 17))) (pc := 74) hX dX2_minutesAlone_74 (by simp only [mm, kK_X4_passMinute]; exact hc.k1) (ci := 6) (r := vwC6) rfl 0 (by decide) wd_58 rfl ?_
        refine v_callV (z := yX7_changeTemperature) (pc := 77) hX dX2_minutesAlone_77 (c_X7_changeTemperature hO ((X4_passMinute_m g m (c + 17))) (c + 18) (gI (X4_passMinute_m g m (c + 17)) 192 (c + 17)) (by simp only [mm, kK_X4_passMinute]; exact hc.k2)) (by simp only [mm, kK_X4_passMinute]; exact hc.k2) rfl wd_465 wd_448 wd_449 wd_4 wd_450 ⟨by decide, by decide, (by decide +kernel : (parseMethodDescriptor yX7_changeTemperature.desc).map (fun d => d.parameters.length) = some 1)⟩ rfl (Nat.le_of_ble_eq_true rfl) ⟨⟨by decide, by decide⟩, by decide, by decide⟩ (fun E m9 h9 => h9.elim) (fun r9 m9 h9 => ?_)
        obtain ⟨rfl, h8⟩ := h9
        replace h8 := h8.symm
        subst h8
        show mV g x _ _ _ _ _ []
        refine v_iinc (w := nI (j + 1)) (pc := 80) hX dX2_minutesAlone_80 rfl (nI_1 _) (by decide) rfl ?_
        refine v_goto (tgt := 37) (pc := 83) hX dX2_minutesAlone_83 (by decide) ?_
        refine mV_sub (lv' := [(0, .ref c), (1, .ref f), (2, .int a), (3, .int b), (4, .ref p), (5, .int (nI (j + 1)))]) ⟨rfl, rfl, rfl, rfl, rfl, rfl, trivial⟩ ?_
        exact ih (j + 1) p ((X7_changeTemperature_m g ((X4_passMinute_m g m (c + 17))) (c + 18) (gI (X4_passMinute_m g m (c + 17)) 192 (c + 17)))) (hc.to (by simp only [mm, kK_X4_passMinute, kK_X7_changeTemperature]) (fun k hk a => by simp [mm, kR_X4_passMinute, kR_X7_changeTemperature, hk]) (by simp only [mm, kQ_X4_passMinute, kQ_X7_changeTemperature])) (by simp only [mm, kK_X4_passMinute, kK_X7_changeTemperature]; exact hkp) (by omega) (by rw [X2_minutesAlone_l1, if_pos c2] at hp; exact hp)
      ·
        refine v_iload (pc := 56) hX dX2_minutesAlone_56 rfl ?_
        exact v_iret (pc := 58) hX hZ dX2_minutesAlone_58 (by decide) (by decide) (by rw [X2_minutesAlone_l1, if_neg c2] at hp; exact hp)
theorem kK_X2_minutesAlone_l1 (g : mG) (c : Nat) (f : Nat) (a : Int32) (b : Int32) (N : Nat) : ∀ (n j : Nat) (p : Nat) (m : mM), gK ((X2_minutesAlone_l1 g c f a b N n j p m).2) = gK m := by
  intro n
  induction n with
  | zero =>
    intro j p m
    rw [X2_minutesAlone_l1]
    repeat' split
    all_goals simp only [mm, kK_X4_passMinute, kK_X7_changeTemperature]
  | succ n ih =>
    intro j p m
    rw [X2_minutesAlone_l1]
    repeat' split
    all_goals simp only [mm, ih, kK_X4_passMinute, kK_X7_changeTemperature]
theorem kN_X2_minutesAlone_l1 (g : mG) (c : Nat) (f : Nat) (a : Int32) (b : Int32) (N : Nat) : ∀ (n j : Nat) (p : Nat) (m : mM), gN ((X2_minutesAlone_l1 g c f a b N n j p m).2) = gN m := by
  intro n
  induction n with
  | zero =>
    intro j p m
    rw [X2_minutesAlone_l1]
    repeat' split
    all_goals simp only [mm, kN_X4_passMinute, kN_X7_changeTemperature]
  | succ n ih =>
    intro j p m
    rw [X2_minutesAlone_l1]
    repeat' split
    all_goals simp only [mm, ih, kN_X4_passMinute, kN_X7_changeTemperature]
theorem kI_X2_minutesAlone_l1 (g : mG) (c : Nat) (f : Nat) (a : Int32) (b : Int32) (N : Nat) (k a9 : Nat) (h0 : k ≠ 192) (h1 : k ≠ 193) (h2 : k ≠ 194) (h3 : k ≠ 290) : ∀ (n j : Nat) (p : Nat) (m : mM), gI ((X2_minutesAlone_l1 g c f a b N n j p m).2) k a9 = gI m k a9 := by
  intro n
  induction n with
  | zero =>
    intro j p m
    rw [X2_minutesAlone_l1]
    repeat' split
    all_goals simp [mm, kI_X4_passMinute, kI_X7_changeTemperature, h0, h1, h2, h3]
  | succ n ih =>
    intro j p m
    rw [X2_minutesAlone_l1]
    repeat' split
    all_goals simp [mm, ih, kI_X4_passMinute, kI_X7_changeTemperature, h0, h1, h2, h3]
theorem kJ_X2_minutesAlone_l1 (g : mG) (c : Nat) (f : Nat) (a : Int32) (b : Int32) (N : Nat) (k a9 : Nat) (h0 : k ≠ 195) : ∀ (n j : Nat) (p : Nat) (m : mM), gJ ((X2_minutesAlone_l1 g c f a b N n j p m).2) k a9 = gJ m k a9 := by
  intro n
  induction n with
  | zero =>
    intro j p m
    rw [X2_minutesAlone_l1]
    repeat' split
    all_goals simp [mm, kJ_X4_passMinute, kJ_X7_changeTemperature, h0]
  | succ n ih =>
    intro j p m
    rw [X2_minutesAlone_l1]
    repeat' split
    all_goals simp [mm, ih, kJ_X4_passMinute, kJ_X7_changeTemperature, h0]
theorem kR_X2_minutesAlone_l1 (g : mG) (c : Nat) (f : Nat) (a : Int32) (b : Int32) (N : Nat) : ∀ (n j : Nat) (p : Nat) (m : mM), gR ((X2_minutesAlone_l1 g c f a b N n j p m).2) = gR m := by
  intro n
  induction n with
  | zero =>
    intro j p m
    rw [X2_minutesAlone_l1]
    repeat' split
    all_goals simp only [mm, kR_X4_passMinute, kR_X7_changeTemperature]
  | succ n ih =>
    intro j p m
    rw [X2_minutesAlone_l1]
    repeat' split
    all_goals simp only [mm, ih, kR_X4_passMinute, kR_X7_changeTemperature]
theorem kA_X2_minutesAlone_l1 (g : mG) (c : Nat) (f : Nat) (a : Int32) (b : Int32) (N : Nat) : ∀ (n j : Nat) (p : Nat) (m : mM), gA ((X2_minutesAlone_l1 g c f a b N n j p m).2) = gA m := by
  intro n
  induction n with
  | zero =>
    intro j p m
    rw [X2_minutesAlone_l1]
    repeat' split
    all_goals simp only [mm, kA_X4_passMinute, kA_X7_changeTemperature]
  | succ n ih =>
    intro j p m
    rw [X2_minutesAlone_l1]
    repeat' split
    all_goals simp only [mm, ih, kA_X4_passMinute, kA_X7_changeTemperature]
theorem kQ_X2_minutesAlone_l1 (g : mG) (c : Nat) (f : Nat) (a : Int32) (b : Int32) (N : Nat) : ∀ (n j : Nat) (p : Nat) (m : mM), gQ ((X2_minutesAlone_l1 g c f a b N n j p m).2) = gQ m := by
  intro n
  induction n with
  | zero =>
    intro j p m
    rw [X2_minutesAlone_l1]
    repeat' split
    all_goals simp only [mm, kQ_X4_passMinute, kQ_X7_changeTemperature]
  | succ n ih =>
    intro j p m
    rw [X2_minutesAlone_l1]
    repeat' split
    all_goals simp only [mm, ih, kQ_X4_passMinute, kQ_X7_changeTemperature]
theorem kL_X2_minutesAlone_l1 (g : mG) (c : Nat) (f : Nat) (a : Int32) (b : Int32) (N : Nat) : ∀ (n j : Nat) (p : Nat) (m : mM), gL ((X2_minutesAlone_l1 g c f a b N n j p m).2) = gL m := by
  intro n
  induction n with
  | zero =>
    intro j p m
    rw [X2_minutesAlone_l1]
    repeat' split
    all_goals simp only [mm, kL_X4_passMinute, kL_X7_changeTemperature]
  | succ n ih =>
    intro j p m
    rw [X2_minutesAlone_l1]
    repeat' split
    all_goals simp only [mm, ih, kL_X4_passMinute, kL_X7_changeTemperature]
theorem kD_X2_minutesAlone_l1 (g : mG) (c : Nat) (f : Nat) (a : Int32) (b : Int32) (N : Nat) : ∀ (n j : Nat) (p : Nat) (m : mM), gD ((X2_minutesAlone_l1 g c f a b N n j p m).2) = gD m := by
  intro n
  induction n with
  | zero =>
    intro j p m
    rw [X2_minutesAlone_l1]
    repeat' split
    all_goals simp only [mm, kD_X4_passMinute, kD_X7_changeTemperature]
  | succ n ih =>
    intro j p m
    rw [X2_minutesAlone_l1]
    repeat' split
    all_goals simp only [mm, ih, kD_X4_passMinute, kD_X7_changeTemperature]
theorem fr_X2_minutesAlone_l1 (g : mG) (c : Nat) (f : Nat) (a : Int32) (b : Int32) (N : Nat) (hN8 : N ≤ 8) : ∀ (n j : Nat) (p : Nat) (m : mM) (hc : SC m c) (hkp : gK m p = some (.inl 9)), j + n = 201 → Fr c (c + 19) m ((X2_minutesAlone_l1 g c f a b N n j p m).2) := by
  intro n
  induction n with
  | zero =>
    intro j p m hc hkp hj
    rw [X2_minutesAlone_l1]
    exact Fr.rf
  | succ n ih =>
    intro j p m hc hkp hj
    rw [X2_minutesAlone_l1]
    split
    ·
      exact (((((Fr.rf).tr (fr_X4_passMinute g m (c + 17) ) (by omega) (by omega))).tr (fr_X7_changeTemperature g (X4_passMinute_m g m (c + 17)) (c + 18) (gI (X4_passMinute_m g m (c + 17)) 192 (c + 17)) ) (by omega) (by omega))).tr (ih (j + 1) p (X7_changeTemperature_m g ((X4_passMinute_m g m (c + 17))) (c + 18) (gI (X4_passMinute_m g m (c + 17)) 192 (c + 17))) (hc.to (by simp only [mm, kK_X4_passMinute, kK_X7_changeTemperature]) (fun k hk a => by simp [mm, kR_X4_passMinute, kR_X7_changeTemperature, hk]) (by simp only [mm, kQ_X4_passMinute, kQ_X7_changeTemperature])) (by simp only [mm, kK_X4_passMinute, kK_X7_changeTemperature]; exact hkp) (by omega)) (Nat.le_refl _) (Nat.le_refl _)
    ·
      exact Fr.rf
def X2_minutesAlone_r (g : mG) (m : mM) (c : Nat) (f : Nat) (a : Int32) (b : Int32) (N : Nat) : Int32 := ((match X3_find_r g m f a N with | none => ((-1), m) | some p1 => X2_minutesAlone_l1 g c f a b N 201 0 p1 ((X7_copyFrom_m g ((X4_copyFrom_m g m (c + 17) (f + 1))) (c + 18) p1)))).1
def X2_minutesAlone_m (g : mG) (m : mM) (c : Nat) (f : Nat) (a : Int32) (b : Int32) (N : Nat) : mM := ((match X3_find_r g m f a N with | none => ((-1), m) | some p1 => X2_minutesAlone_l1 g c f a b N 201 0 p1 ((X7_copyFrom_m g ((X4_copyFrom_m g m (c + 17) (f + 1))) (c + 18) p1)))).2
theorem kK_X2_minutesAlone (g : mG) (m : mM) (c : Nat) (f : Nat) (a : Int32) (b : Int32) (N : Nat) : gK (X2_minutesAlone_m g m c f a b N) = gK m := by
  unfold X2_minutesAlone_m
  repeat' split
  all_goals simp only [mm, kK_X2_minutesAlone_l1, kK_X4_copyFrom, kK_X7_copyFrom]
theorem kN_X2_minutesAlone (g : mG) (m : mM) (c : Nat) (f : Nat) (a : Int32) (b : Int32) (N : Nat) : gN (X2_minutesAlone_m g m c f a b N) = gN m := by
  unfold X2_minutesAlone_m
  repeat' split
  all_goals simp only [mm, kN_X2_minutesAlone_l1, kN_X4_copyFrom, kN_X7_copyFrom]
theorem kI_X2_minutesAlone (g : mG) (m : mM) (c : Nat) (f : Nat) (a : Int32) (b : Int32) (N : Nat) (k a9 : Nat) (h0 : k ≠ 192) (h1 : k ≠ 193) (h2 : k ≠ 194) (h3 : k ≠ 288) (h4 : k ≠ 289) (h5 : k ≠ 290) (h6 : k ≠ 291) (h7 : k ≠ 292) (h8 : k ≠ 293) (h9 : k ≠ 294) : gI (X2_minutesAlone_m g m c f a b N) k a9 = gI m k a9 := by
  unfold X2_minutesAlone_m
  repeat' split
  all_goals simp [mm, kI_X2_minutesAlone_l1, kI_X4_copyFrom, kI_X7_copyFrom, h0, h1, h2, h3, h4, h5, h6, h7, h8, h9]
theorem kJ_X2_minutesAlone (g : mG) (m : mM) (c : Nat) (f : Nat) (a : Int32) (b : Int32) (N : Nat) (k a9 : Nat) (h0 : k ≠ 195) : gJ (X2_minutesAlone_m g m c f a b N) k a9 = gJ m k a9 := by
  unfold X2_minutesAlone_m
  repeat' split
  all_goals simp [mm, kJ_X2_minutesAlone_l1, kJ_X4_copyFrom, kJ_X7_copyFrom, h0]
theorem kR_X2_minutesAlone (g : mG) (m : mM) (c : Nat) (f : Nat) (a : Int32) (b : Int32) (N : Nat) (k a9 : Nat) (h0 : k ≠ 295) : gR (X2_minutesAlone_m g m c f a b N) k a9 = gR m k a9 := by
  unfold X2_minutesAlone_m
  repeat' split
  all_goals simp [mm, kR_X2_minutesAlone_l1, kR_X4_copyFrom, kR_X7_copyFrom, h0]
theorem kA_X2_minutesAlone (g : mG) (m : mM) (c : Nat) (f : Nat) (a : Int32) (b : Int32) (N : Nat) : gA (X2_minutesAlone_m g m c f a b N) = gA m := by
  unfold X2_minutesAlone_m
  repeat' split
  all_goals simp only [mm, kA_X2_minutesAlone_l1, kA_X4_copyFrom, kA_X7_copyFrom]
theorem kQ_X2_minutesAlone (g : mG) (m : mM) (c : Nat) (f : Nat) (a : Int32) (b : Int32) (N : Nat) : gQ (X2_minutesAlone_m g m c f a b N) = gQ m := by
  unfold X2_minutesAlone_m
  repeat' split
  all_goals simp only [mm, kQ_X2_minutesAlone_l1, kQ_X4_copyFrom, kQ_X7_copyFrom]
theorem kL_X2_minutesAlone (g : mG) (m : mM) (c : Nat) (f : Nat) (a : Int32) (b : Int32) (N : Nat) : gL (X2_minutesAlone_m g m c f a b N) = gL m := by
  unfold X2_minutesAlone_m
  repeat' split
  all_goals simp only [mm, kL_X2_minutesAlone_l1, kL_X4_copyFrom, kL_X7_copyFrom]
theorem kD_X2_minutesAlone (g : mG) (m : mM) (c : Nat) (f : Nat) (a : Int32) (b : Int32) (N : Nat) : gD (X2_minutesAlone_m g m c f a b N) = gD m := by
  unfold X2_minutesAlone_m
  repeat' split
  all_goals simp only [mm, kD_X2_minutesAlone_l1, kD_X4_copyFrom, kD_X7_copyFrom]
theorem fr_X2_minutesAlone (g : mG) (m : mM) (c : Nat) (f : Nat) (a : Int32) (b : Int32) (N : Nat) (hc : SC m c) (hs : SF m f) (hN8 : N ≤ 8) : Fr c (c + 19) m (X2_minutesAlone_m g m c f a b N) := by
  unfold X2_minutesAlone_m
  split
  ·
    exact Fr.rf
  ·
    rename_i p1 hq1
    exact (((((Fr.rf).tr (fr_X4_copyFrom g m (c + 17) (f + 1) ) (by omega) (by omega))).tr (fr_X7_copyFrom g (X4_copyFrom_m g m (c + 17) (f + 1)) (c + 18) p1 ) (by omega) (by omega))).tr (fr_X2_minutesAlone_l1 g c f a b N hN8 201 0 p1 (X7_copyFrom_m g ((X4_copyFrom_m g m (c + 17) (f + 1))) (c + 18) p1) (hc.to (by simp only [mm, kK_X4_copyFrom, kK_X7_copyFrom]) (fun k hk a => by simp [mm, kR_X4_copyFrom, kR_X7_copyFrom, hk]) (by simp only [mm, kQ_X4_copyFrom, kQ_X7_copyFrom])) (by simp only [mm, kK_X4_copyFrom, kK_X7_copyFrom]; exact (find_k hs hN8 hq1)) (by omega)) (Nat.le_refl _) (Nat.le_refl _)
set_option maxHeartbeats 4000000 in
set_option maxRecDepth 100000 in
theorem c_X2_minutesAlone {l : Launch} {g : mG} (hO : mO l g) (m : mM) (c : Nat) (f : Nat) (a : Int32) (b : Int32) (N : Nat) (hc : SC m c) (hs : SF m f) (hN : gI m 163 f = nI N) (hN8 : N ≤ 8) : mT l g yX2_minutesAlone (.code yX2_minutesAlone cX2_minutesAlone 6 (Option.some FieldType.int)) 3 61 0 0 [.ref c, .ref f, .int a, .int b] m (fun r m' => r = some (.int (X2_minutesAlone_r g m c f a b N)) ∧ m' = X2_minutesAlone_m g m c f a b N) nX := by
  refine mT_of hO (by decide) (Nat.le_of_ble_eq_true rfl) (fun x hX hZ => ?_)
  show mV g x m 0 0 0 [(0, .ref c), (1, .ref f), (2, .int a), (3, .int b)] []
  refine v_aload_n (pc := 0) hX dX2_minutesAlone_0 rfl ?_
  refine v_iload_n (pc := 1) hX dX2_minutesAlone_1 rfl ?_
  refine v_callV (z := yX3_find) (pc := 2) hX dX2_minutesAlone_2 (c_X3_find hO m f a N hs hN hN8) hs.k rfl wd_431 wd_370 wd_371 wd_2 wd_372 ⟨by decide, by decide, (by decide +kernel : (parseMethodDescriptor yX3_find.desc).map (fun d => d.parameters.length) = some 1)⟩ rfl (Nat.le_of_ble_eq_true rfl) ⟨⟨by decide, by decide⟩, by decide, by decide⟩ (fun E m9 h9 => h9.elim) (fun r9 m9 h9 => ?_)
  obtain ⟨rfl, h8⟩ := h9
  replace h8 := h8.symm
  subst h8
  show mV g x _ _ _ _ _ [va_rf (X3_find_r g m f a N)]
  rcases hq1 : X3_find_r g m f a N with _ | p1
  ·
    show mV g x _ _ _ _ _ [.null]
    refine v_astoreN (pc := 5) hX dX2_minutesAlone_5 (by decide) rfl ?_
    refine v_aloadN (pc := 7) hX dX2_minutesAlone_7 rfl ?_
    refine v_ifnonnull_n (pc := 9) hX dX2_minutesAlone_9 ?_
    refine v_iconst (v := (-1)) (pc := 12) hX dX2_minutesAlone_12 (by decide) ?_
    exact v_iret (pc := 13) hX hZ dX2_minutesAlone_13 (by decide) (by decide) ⟨(by simp only [X2_minutesAlone_r, hq1]), (by simp only [X2_minutesAlone_m, hq1])⟩
  ·
    show mV g x _ _ _ _ _ [.ref p1]
    refine v_astore (pc := 5) hX dX2_minutesAlone_5 (by decide) rfl ?_
    refine v_aload (pc := 7) hX dX2_minutesAlone_7 rfl ?_
    refine v_ifnonnull_s (tgt := 14) (pc := 9) hX dX2_minutesAlone_9 (by decide) ?_
    refine v_aload_n (pc := 14) hX dX2_minutesAlone_14 rfl ?_
    refine v_get (v := .ref (c + 17)) (pc := 15) hX dX2_minutesAlone_15 hc.k (ci := 4) (r := vwC4) rfl 1 (by decide) wd_230 (fvR hc.r1) ?_
    refine v_aload_n (pc := 18) hX dX2_minutesAlone_18 rfl ?_
    refine v_getN (v := .ref (f + 1)) (pc := 19) hX dX2_minutesAlone_19 hs.k (ci := 5) (r := vwC5) rfl 0 (by decide) wd_150 (fvR hs.r0) ?_
    refine v_callV (z := yX4_copyFrom) (pc := 22) hX dX2_minutesAlone_22 (c_X4_copyFrom hO m (c + 17) (f + 1) (by exact hc.k1) (by exact hs.k1)) hc.k1 rfl wd_462 wd_420 wd_421 wd_3 wd_422 ⟨by decide, by decide, (by decide +kernel : (parseMethodDescriptor yX4_copyFrom.desc).map (fun d => d.parameters.length) = some 1)⟩ rfl (Nat.le_of_ble_eq_true rfl) ⟨⟨by decide, by decide⟩, by decide, by decide⟩ (fun E m9 h9 => h9.elim) (fun r9 m9 h9 => ?_)
    obtain ⟨rfl, h8⟩ := h9
    replace h8 := h8.symm
    subst h8
    show mV g x _ _ _ _ _ []
    refine v_aload_n (pc := 25) hX dX2_minutesAlone_25 rfl ?_
    refine v_get (v := .ref (c + 18)) (pc := 26) hX dX2_minutesAlone_26 (by simp only [mm, kK_X4_copyFrom]; exact hc.k) (ci := 4) (r := vwC4) rfl 2 (by decide) wd_231 (fvR (by simp [mm, kR_X4_copyFrom, hc.r2])) ?_
    refine v_aload (pc := 29) hX dX2_minutesAlone_29 rfl ?_
    refine v_callV (z := yX7_copyFrom) (pc := 31) hX dX2_minutesAlone_31 (c_X7_copyFrom hO ((X4_copyFrom_m g m (c + 17) (f + 1))) (c + 18) p1 (by simp only [mm, kK_X4_copyFrom]; exact hc.k2) (by simp only [mm, kK_X4_copyFrom]; exact (find_k hs hN8 hq1))) (by simp only [mm, kK_X4_copyFrom]; exact hc.k2) rfl wd_463 wd_424 wd_425 wd_4 wd_426 ⟨by decide, by decide, (by decide +kernel : (parseMethodDescriptor yX7_copyFrom.desc).map (fun d => d.parameters.length) = some 1)⟩ rfl (Nat.le_of_ble_eq_true rfl) ⟨⟨by decide, by decide⟩, by decide, by decide⟩ (fun E m9 h9 => h9.elim) (fun r9 m9 h9 => ?_)
    obtain ⟨rfl, h8⟩ := h9
    replace h8 := h8.symm
    subst h8
    show mV g x _ _ _ _ _ []
    refine v_iconst (v := 0) (pc := 34) hX dX2_minutesAlone_34 (by decide) ?_
    refine v_istore (pc := 35) hX dX2_minutesAlone_35 (by decide) rfl ?_
    refine mV_sub (lv' := [(0, .ref c), (1, .ref f), (2, .int a), (3, .int b), (4, .ref p1), (5, .int (nI 0))]) ⟨rfl, rfl, rfl, rfl, rfl, rfl, trivial⟩ ?_
    exact lp_X2_minutesAlone_l1 hO c f a b N hN8 hX hZ 201 0 p1 ((X7_copyFrom_m g ((X4_copyFrom_m g m (c + 17) (f + 1))) (c + 18) p1)) (hc.to (by simp only [mm, kK_X4_copyFrom, kK_X7_copyFrom]) (fun k hk a => by simp [mm, kR_X4_copyFrom, kR_X7_copyFrom, hk]) (by simp only [mm, kQ_X4_copyFrom, kQ_X7_copyFrom])) (by simp only [mm, kK_X4_copyFrom, kK_X7_copyFrom]; exact (find_k hs hN8 hq1)) (by omega) ⟨(by simp only [X2_minutesAlone_r, hq1]), (by simp only [X2_minutesAlone_m, hq1])⟩
def X2_bothWaysAgree_l1 (g : mG) (c : Nat) (f : Nat) (N : Nat) : Nat → Nat → mM → Int32 × mM
  | 0, j, m => (1, m)
  | n + 1, j, m => if (X2_minutesOnCopy_r g m c f (gI m 288 (pa m f j)) 20 N) = (X2_minutesAlone_r g ((X2_minutesOnCopy_m g m c f (gI m 288 (pa m f j)) 20 N)) c f (gI m 288 (pa m f j)) 20 N) then (X2_bothWaysAgree_l1 g c f N n (j + 1)  ((X2_minutesAlone_m g ((X2_minutesOnCopy_m g m c f (gI m 288 (pa m f j)) 20 N)) c f (gI m 288 (pa m f j)) 20 N))) else ((0, (X2_minutesAlone_m g ((X2_minutesOnCopy_m g m c f (gI m 288 (pa m f j)) 20 N)) c f (gI m 288 (pa m f j)) 20 N)))
set_option maxHeartbeats 4000000 in
set_option maxRecDepth 100000 in
theorem lp_X2_bothWaysAgree_l1 {l : Launch} {g : mG} {x : mCx} (hO : mO l g) (c : Nat) (f : Nat) (N : Nat) (hN8 : N ≤ 8) (hd : f + 16 ≤ c) {pst : Option Value → mM → Prop} {XX : String → mM → Prop} (hX : mX l g x cX2_bothWaysAgree yX2_bothWaysAgree { frames := 5, cells := 0, slots := 0, locals := 107 } 4) (hZ : mZ g x (Option.some FieldType.boolean) [] pst XX 0 0) : ∀ (n j : Nat)  (m : mM) (hc : SC m c) (hs : SF m f) (hN : gI m 163 f = nI N) (hj : j + n = N) (hp : pst (some (.int ((X2_bothWaysAgree_l1 g c f N n j  m).1))) ((X2_bothWaysAgree_l1 g c f N n j  m).2)), mV g x m 0 0 2 [(0, .ref c), (1, .ref f), (2, .int (nI j))] [] := by
  intro n
  induction n with
  | zero =>
    intro j  m hc hs hN hj hp
    refine v_iload_n (pc := 2) hX dX2_bothWaysAgree_2 rfl ?_
    refine v_aload_n (pc := 3) hX dX2_bothWaysAgree_3 rfl ?_
    refine v_getN (v := .int (nI N)) (pc := 4) hX dX2_bothWaysAgree_4 hs.k (ci := 5) (r := vwC5) rfl 3 (by decide) wd_156 (congrArg Value.int hN) ?_
    refine v_icmp_ge (tgt := 47) (pc := 7) hX dX2_bothWaysAgree_7 (by decide) (fun c1 => ?_) (fun c1 => ?_)
    ·
      refine v_iconst (v := 1) (pc := 47) hX dX2_bothWaysAgree_47 (by decide) ?_
      exact v_zret (pc := 48) hX hZ dX2_bothWaysAgree_48 rfl (by decide) (by decide) (by rw [X2_bothWaysAgree_l1] at hp; exact hp)
    · exact absurd (nI_le (by omega) (by omega)) c1
  | succ n ih =>
    intro j  m hc hs hN hj hp
    refine v_iload_n (pc := 2) hX dX2_bothWaysAgree_2 rfl ?_
    refine v_aload_n (pc := 3) hX dX2_bothWaysAgree_3 rfl ?_
    refine v_getN (v := .int (nI N)) (pc := 4) hX dX2_bothWaysAgree_4 hs.k (ci := 5) (r := vwC5) rfl 3 (by decide) wd_156 (congrArg Value.int hN) ?_
    refine v_icmp_ge (tgt := 47) (pc := 7) hX dX2_bothWaysAgree_7 (by decide) (fun c1 => ?_) (fun c1 => ?_)
    · exact absurd c1 (nI_ge (by omega) (by omega))
    ·
      refine v_aload_n (pc := 10) hX dX2_bothWaysAgree_10 rfl ?_
      refine v_getN (v := .ref (f + 2)) (pc := 11) hX dX2_bothWaysAgree_11 hs.k (ci := 5) (r := vwC5) rfl 1 (by decide) wd_153 (fvR hs.r1) ?_
      refine v_iload_n (pc := 14) hX dX2_bothWaysAgree_14 rfl ?_
      refine v_aaldR (q := pa m f j) (pc := 15) hX dX2_bothWaysAgree_15 hs.k2 (by decide) (by decide) rfl (by omega) (by decide) (hs.qp (i := j) (by omega)) ?_
      refine v_getN (v := .int (gI m 288 (pa m f j))) (pc := 16) hX dX2_bothWaysAgree_16 (hs.kp (i := j) (by omega)) (ci := 9) (r := vwC9) rfl 0 (by decide) wd_92 rfl ?_
      refine v_istore_n (pc := 19) hX dX2_bothWaysAgree_19 (by decide) rfl ?_
      refine v_aload_n (pc := 20) hX dX2_bothWaysAgree_20 rfl ?_
      refine v_aload_n (pc := 21) hX dX2_bothWaysAgree_21 rfl ?_
      refine v_iload_n (pc := 22) hX dX2_bothWaysAgree_22 rfl ?_
      refine v_bipush (v := 20) (pc := 23) hX dX2_bothWaysAgree_23 (by decide) ?_
      refine v_callV (z := yX2_minutesOnCopy) (pc := 25) hX dX2_bothWaysAgree_25 (c_X2_minutesOnCopy hO m c f (gI m 288 (pa m f j)) 20 N hc hs hN hN8) hc.k rfl wd_411 wd_412 wd_413 wd_9 wd_414 ⟨by decide, by decide, (by decide +kernel : (parseMethodDescriptor yX2_minutesOnCopy.desc).map (fun d => d.parameters.length) = some 3)⟩ rfl (Nat.le_of_ble_eq_true rfl) ⟨⟨by decide, by decide⟩, by decide, by decide⟩ (fun E m9 h9 => h9.elim) (fun r9 m9 h9 => ?_)
      obtain ⟨rfl, h8⟩ := h9
      replace h8 := h8.symm
      subst h8
      show mV g x _ _ _ _ _ [.int (X2_minutesOnCopy_r g m c f (gI m 288 (pa m f j)) 20 N)]
      refine v_aload_n (pc := 28) hX dX2_bothWaysAgree_28 rfl ?_
      refine v_aload_n (pc := 29) hX dX2_bothWaysAgree_29 rfl ?_
      refine v_iload_n (pc := 30) hX dX2_bothWaysAgree_30 rfl ?_
      refine v_bipush (v := 20) (pc := 31) hX dX2_bothWaysAgree_31 (by decide) ?_
      refine v_callV (z := yX2_minutesAlone) (pc := 33) hX dX2_bothWaysAgree_33 (c_X2_minutesAlone hO ((X2_minutesOnCopy_m g m c f (gI m 288 (pa m f j)) 20 N)) c f (gI m 288 (pa m f j)) 20 N (hc.to (by simp only [mm, kK_X2_minutesOnCopy]) (fun k hk a => by simp [mm, kR_X2_minutesOnCopy, hk]) (by simp only [mm, kQ_X2_minutesOnCopy])) (hs.to (by simp only [mm, kK_X2_minutesOnCopy]) (by simp [mm, kR_X2_minutesOnCopy]) (by simp [mm, kR_X2_minutesOnCopy]) (by simp [mm, kR_X2_minutesOnCopy]) (by simp only [mm, kQ_X2_minutesOnCopy])) (((show Fr c (c + 19) m ((X2_minutesOnCopy_m g m c f (gI m 288 (pa m f j)) 20 N)) from ((Fr.rf).tr (fr_X2_minutesOnCopy g m c f (gI m 288 (pa m f j)) 20 N hc hs hN8) (by omega) (by omega))).gI (k := 163) (a := f) (by omega)).trans hN) hN8) (by simp only [mm, kK_X2_minutesOnCopy]; exact hc.k) rfl wd_458 wd_459 wd_460 wd_9 wd_461 ⟨by decide, by decide, (by decide +kernel : (parseMethodDescriptor yX2_minutesAlone.desc).map (fun d => d.parameters.length) = some 3)⟩ rfl (Nat.le_of_ble_eq_true rfl) ⟨⟨by decide, by decide⟩, by decide, by decide⟩ (fun E m9 h9 => h9.elim) (fun r9 m9 h9 => ?_)
      obtain ⟨rfl, h8⟩ := h9
      replace h8 := h8.symm
      subst h8
      show mV g x _ _ _ _ _ [.int (X2_minutesAlone_r g ((X2_minutesOnCopy_m g m c f (gI m 288 (pa m f j)) 20 N)) c f (gI m 288 (pa m f j)) 20 N), .int (X2_minutesOnCopy_r g m c f (gI m 288 (pa m f j)) 20 N)]
      refine v_icmp_eq (tgt := 41) (pc := 36) hX dX2_bothWaysAgree_36 (by decide) (fun c2 => ?_) (fun c2 => ?_)
      ·
        refine v_iinc (w := nI (j + 1)) (pc := 41) hX dX2_bothWaysAgree_41 rfl (nI_1 _) (by decide) rfl ?_
        refine v_goto (tgt := 2) (pc := 44) hX dX2_bothWaysAgree_44 (by decide) ?_
        refine mV_sub (lv' := [(0, .ref c), (1, .ref f), (2, .int (nI (j + 1)))]) ⟨rfl, rfl, rfl, trivial⟩ ?_
        exact ih (j + 1)  ((X2_minutesAlone_m g ((X2_minutesOnCopy_m g m c f (gI m 288 (pa m f j)) 20 N)) c f (gI m 288 (pa m f j)) 20 N)) (hc.to (by simp only [mm, kK_X2_minutesAlone, kK_X2_minutesOnCopy]) (fun k hk a => by simp [mm, kR_X2_minutesAlone, kR_X2_minutesOnCopy, hk]) (by simp only [mm, kQ_X2_minutesAlone, kQ_X2_minutesOnCopy])) (hs.to (by simp only [mm, kK_X2_minutesAlone, kK_X2_minutesOnCopy]) (by simp [mm, kR_X2_minutesAlone, kR_X2_minutesOnCopy]) (by simp [mm, kR_X2_minutesAlone, kR_X2_minutesOnCopy]) (by simp [mm, kR_X2_minutesAlone, kR_X2_minutesOnCopy]) (by simp only [mm, kQ_X2_minutesAlone, kQ_X2_minutesOnCopy])) (((show Fr c (c + 19) m ((X2_minutesAlone_m g ((X2_minutesOnCopy_m g m c f (gI m 288 (pa m f j)) 20 N)) c f (gI m 288 (pa m f j)) 20 N)) from ((((Fr.rf).tr (fr_X2_minutesOnCopy g m c f (gI m 288 (pa m f j)) 20 N hc hs hN8) (by omega) (by omega))).tr (fr_X2_minutesAlone g (X2_minutesOnCopy_m g m c f (gI m 288 (pa m f j)) 20 N) c f (gI m 288 (pa m f j)) 20 N (hc.to (by simp only [mm, kK_X2_minutesOnCopy]) (fun k hk a => by simp [mm, kR_X2_minutesOnCopy, hk]) (by simp only [mm, kQ_X2_minutesOnCopy])) (hs.to (by simp only [mm, kK_X2_minutesOnCopy]) (by simp [mm, kR_X2_minutesOnCopy]) (by simp [mm, kR_X2_minutesOnCopy]) (by simp [mm, kR_X2_minutesOnCopy]) (by simp only [mm, kQ_X2_minutesOnCopy])) hN8) (by omega) (by omega))).gI (k := 163) (a := f) (by omega)).trans hN) (by omega) (by rw [X2_bothWaysAgree_l1, if_pos c2] at hp; exact hp)
      ·
        refine v_iconst (v := 0) (pc := 39) hX dX2_bothWaysAgree_39 (by decide) ?_
        exact v_zret (pc := 40) hX hZ dX2_bothWaysAgree_40 rfl (by decide) (by decide) (by rw [X2_bothWaysAgree_l1, if_neg c2] at hp; exact hp)
theorem kK_X2_bothWaysAgree_l1 (g : mG) (c : Nat) (f : Nat) (N : Nat) : ∀ (n j : Nat)  (m : mM), gK ((X2_bothWaysAgree_l1 g c f N n j  m).2) = gK m := by
  intro n
  induction n with
  | zero =>
    intro j  m
    rw [X2_bothWaysAgree_l1]
    repeat' split
    all_goals simp only [mm, kK_X2_minutesAlone, kK_X2_minutesOnCopy]
  | succ n ih =>
    intro j  m
    rw [X2_bothWaysAgree_l1]
    repeat' split
    all_goals simp only [mm, ih, kK_X2_minutesAlone, kK_X2_minutesOnCopy]
theorem kN_X2_bothWaysAgree_l1 (g : mG) (c : Nat) (f : Nat) (N : Nat) : ∀ (n j : Nat)  (m : mM), gN ((X2_bothWaysAgree_l1 g c f N n j  m).2) = gN m := by
  intro n
  induction n with
  | zero =>
    intro j  m
    rw [X2_bothWaysAgree_l1]
    repeat' split
    all_goals simp only [mm, kN_X2_minutesAlone, kN_X2_minutesOnCopy]
  | succ n ih =>
    intro j  m
    rw [X2_bothWaysAgree_l1]
    repeat' split
    all_goals simp only [mm, ih, kN_X2_minutesAlone, kN_X2_minutesOnCopy]
theorem kI_X2_bothWaysAgree_l1 (g : mG) (c : Nat) (f : Nat) (N : Nat) (k a9 : Nat) (h0 : k ≠ 163) (h1 : k ≠ 164) (h2 : k ≠ 165) (h3 : k ≠ 166) (h4 : k ≠ 167) (h5 : k ≠ 168) (h6 : k ≠ 169) (h7 : k ≠ 170) (h8 : k ≠ 192) (h9 : k ≠ 193) (h10 : k ≠ 194) (h11 : k ≠ 224) (h12 : k ≠ 225) (h13 : k ≠ 288) (h14 : k ≠ 289) (h15 : k ≠ 290) (h16 : k ≠ 291) (h17 : k ≠ 292) (h18 : k ≠ 293) (h19 : k ≠ 294) : ∀ (n j : Nat)  (m : mM), gI ((X2_bothWaysAgree_l1 g c f N n j  m).2) k a9 = gI m k a9 := by
  intro n
  induction n with
  | zero =>
    intro j  m
    rw [X2_bothWaysAgree_l1]
    repeat' split
    all_goals simp [mm, kI_X2_minutesAlone, kI_X2_minutesOnCopy, h0, h1, h2, h3, h4, h5, h6, h7, h8, h9, h10, h11, h12, h13, h14, h15, h16, h17, h18, h19]
  | succ n ih =>
    intro j  m
    rw [X2_bothWaysAgree_l1]
    repeat' split
    all_goals simp [mm, ih, kI_X2_minutesAlone, kI_X2_minutesOnCopy, h0, h1, h2, h3, h4, h5, h6, h7, h8, h9, h10, h11, h12, h13, h14, h15, h16, h17, h18, h19]
theorem kJ_X2_bothWaysAgree_l1 (g : mG) (c : Nat) (f : Nat) (N : Nat) (k a9 : Nat) (h0 : k ≠ 171) (h1 : k ≠ 195) : ∀ (n j : Nat)  (m : mM), gJ ((X2_bothWaysAgree_l1 g c f N n j  m).2) k a9 = gJ m k a9 := by
  intro n
  induction n with
  | zero =>
    intro j  m
    rw [X2_bothWaysAgree_l1]
    repeat' split
    all_goals simp [mm, kJ_X2_minutesAlone, kJ_X2_minutesOnCopy, h0, h1]
  | succ n ih =>
    intro j  m
    rw [X2_bothWaysAgree_l1]
    repeat' split
    all_goals simp [mm, ih, kJ_X2_minutesAlone, kJ_X2_minutesOnCopy, h0, h1]
theorem kR_X2_bothWaysAgree_l1 (g : mG) (c : Nat) (f : Nat) (N : Nat) (k a9 : Nat) (h0 : k ≠ 295) : ∀ (n j : Nat)  (m : mM), gR ((X2_bothWaysAgree_l1 g c f N n j  m).2) k a9 = gR m k a9 := by
  intro n
  induction n with
  | zero =>
    intro j  m
    rw [X2_bothWaysAgree_l1]
    repeat' split
    all_goals simp [mm, kR_X2_minutesAlone, kR_X2_minutesOnCopy, h0]
  | succ n ih =>
    intro j  m
    rw [X2_bothWaysAgree_l1]
    repeat' split
    all_goals simp [mm, ih, kR_X2_minutesAlone, kR_X2_minutesOnCopy, h0]
theorem kA_X2_bothWaysAgree_l1 (g : mG) (c : Nat) (f : Nat) (N : Nat) : ∀ (n j : Nat)  (m : mM), gA ((X2_bothWaysAgree_l1 g c f N n j  m).2) = gA m := by
  intro n
  induction n with
  | zero =>
    intro j  m
    rw [X2_bothWaysAgree_l1]
    repeat' split
    all_goals simp only [mm, kA_X2_minutesAlone, kA_X2_minutesOnCopy]
  | succ n ih =>
    intro j  m
    rw [X2_bothWaysAgree_l1]
    repeat' split
    all_goals simp only [mm, ih, kA_X2_minutesAlone, kA_X2_minutesOnCopy]
theorem kQ_X2_bothWaysAgree_l1 (g : mG) (c : Nat) (f : Nat) (N : Nat) : ∀ (n j : Nat)  (m : mM), gQ ((X2_bothWaysAgree_l1 g c f N n j  m).2) = gQ m := by
  intro n
  induction n with
  | zero =>
    intro j  m
    rw [X2_bothWaysAgree_l1]
    repeat' split
    all_goals simp only [mm, kQ_X2_minutesAlone, kQ_X2_minutesOnCopy]
  | succ n ih =>
    intro j  m
    rw [X2_bothWaysAgree_l1]
    repeat' split
    all_goals simp only [mm, ih, kQ_X2_minutesAlone, kQ_X2_minutesOnCopy]
theorem kL_X2_bothWaysAgree_l1 (g : mG) (c : Nat) (f : Nat) (N : Nat) : ∀ (n j : Nat)  (m : mM), gL ((X2_bothWaysAgree_l1 g c f N n j  m).2) = gL m := by
  intro n
  induction n with
  | zero =>
    intro j  m
    rw [X2_bothWaysAgree_l1]
    repeat' split
    all_goals simp only [mm, kL_X2_minutesAlone, kL_X2_minutesOnCopy]
  | succ n ih =>
    intro j  m
    rw [X2_bothWaysAgree_l1]
    repeat' split
    all_goals simp only [mm, ih, kL_X2_minutesAlone, kL_X2_minutesOnCopy]
theorem kD_X2_bothWaysAgree_l1 (g : mG) (c : Nat) (f : Nat) (N : Nat) : ∀ (n j : Nat)  (m : mM), gD ((X2_bothWaysAgree_l1 g c f N n j  m).2) = gD m := by
  intro n
  induction n with
  | zero =>
    intro j  m
    rw [X2_bothWaysAgree_l1]
    repeat' split
    all_goals simp only [mm, kD_X2_minutesAlone, kD_X2_minutesOnCopy]
  | succ n ih =>
    intro j  m
    rw [X2_bothWaysAgree_l1]
    repeat' split
    all_goals simp only [mm, ih, kD_X2_minutesAlone, kD_X2_minutesOnCopy]
theorem fr_X2_bothWaysAgree_l1 (g : mG) (c : Nat) (f : Nat) (N : Nat) (hN8 : N ≤ 8) : ∀ (n j : Nat)  (m : mM) (hc : SC m c) (hs : SF m f), j + n = N → Fr c (c + 19) m ((X2_bothWaysAgree_l1 g c f N n j  m).2) := by
  intro n
  induction n with
  | zero =>
    intro j  m hc hs hj
    rw [X2_bothWaysAgree_l1]
    exact Fr.rf
  | succ n ih =>
    intro j  m hc hs hj
    rw [X2_bothWaysAgree_l1]
    split
    ·
      exact (((((Fr.rf).tr (fr_X2_minutesOnCopy g m c f (gI m 288 (pa m f j)) 20 N hc hs hN8) (by omega) (by omega))).tr (fr_X2_minutesAlone g (X2_minutesOnCopy_m g m c f (gI m 288 (pa m f j)) 20 N) c f (gI m 288 (pa m f j)) 20 N (hc.to (by simp only [mm, kK_X2_minutesOnCopy]) (fun k hk a => by simp [mm, kR_X2_minutesOnCopy, hk]) (by simp only [mm, kQ_X2_minutesOnCopy])) (hs.to (by simp only [mm, kK_X2_minutesOnCopy]) (by simp [mm, kR_X2_minutesOnCopy]) (by simp [mm, kR_X2_minutesOnCopy]) (by simp [mm, kR_X2_minutesOnCopy]) (by simp only [mm, kQ_X2_minutesOnCopy])) hN8) (by omega) (by omega))).tr (ih (j + 1)  (X2_minutesAlone_m g ((X2_minutesOnCopy_m g m c f (gI m 288 (pa m f j)) 20 N)) c f (gI m 288 (pa m f j)) 20 N) (hc.to (by simp only [mm, kK_X2_minutesAlone, kK_X2_minutesOnCopy]) (fun k hk a => by simp [mm, kR_X2_minutesAlone, kR_X2_minutesOnCopy, hk]) (by simp only [mm, kQ_X2_minutesAlone, kQ_X2_minutesOnCopy])) (hs.to (by simp only [mm, kK_X2_minutesAlone, kK_X2_minutesOnCopy]) (by simp [mm, kR_X2_minutesAlone, kR_X2_minutesOnCopy]) (by simp [mm, kR_X2_minutesAlone, kR_X2_minutesOnCopy]) (by simp [mm, kR_X2_minutesAlone, kR_X2_minutesOnCopy]) (by simp only [mm, kQ_X2_minutesAlone, kQ_X2_minutesOnCopy])) (by omega)) (Nat.le_refl _) (Nat.le_refl _)
    ·
      exact ((((Fr.rf).tr (fr_X2_minutesOnCopy g m c f (gI m 288 (pa m f j)) 20 N hc hs hN8) (by omega) (by omega))).tr (fr_X2_minutesAlone g (X2_minutesOnCopy_m g m c f (gI m 288 (pa m f j)) 20 N) c f (gI m 288 (pa m f j)) 20 N (hc.to (by simp only [mm, kK_X2_minutesOnCopy]) (fun k hk a => by simp [mm, kR_X2_minutesOnCopy, hk]) (by simp only [mm, kQ_X2_minutesOnCopy])) (hs.to (by simp only [mm, kK_X2_minutesOnCopy]) (by simp [mm, kR_X2_minutesOnCopy]) (by simp [mm, kR_X2_minutesOnCopy]) (by simp [mm, kR_X2_minutesOnCopy]) (by simp only [mm, kQ_X2_minutesOnCopy])) hN8) (by omega) (by omega))
def X2_bothWaysAgree_r (g : mG) (m : mM) (c : Nat) (f : Nat) (N : Nat) : Int32 := (X2_bothWaysAgree_l1 g c f N N 0  m).1
def X2_bothWaysAgree_m (g : mG) (m : mM) (c : Nat) (f : Nat) (N : Nat) : mM := (X2_bothWaysAgree_l1 g c f N N 0  m).2
theorem kK_X2_bothWaysAgree (g : mG) (m : mM) (c : Nat) (f : Nat) (N : Nat) : gK (X2_bothWaysAgree_m g m c f N) = gK m := by
  unfold X2_bothWaysAgree_m
  repeat' split
  all_goals simp only [mm, kK_X2_bothWaysAgree_l1]
theorem kN_X2_bothWaysAgree (g : mG) (m : mM) (c : Nat) (f : Nat) (N : Nat) : gN (X2_bothWaysAgree_m g m c f N) = gN m := by
  unfold X2_bothWaysAgree_m
  repeat' split
  all_goals simp only [mm, kN_X2_bothWaysAgree_l1]
theorem kI_X2_bothWaysAgree (g : mG) (m : mM) (c : Nat) (f : Nat) (N : Nat) (k a9 : Nat) (h0 : k ≠ 163) (h1 : k ≠ 164) (h2 : k ≠ 165) (h3 : k ≠ 166) (h4 : k ≠ 167) (h5 : k ≠ 168) (h6 : k ≠ 169) (h7 : k ≠ 170) (h8 : k ≠ 192) (h9 : k ≠ 193) (h10 : k ≠ 194) (h11 : k ≠ 224) (h12 : k ≠ 225) (h13 : k ≠ 288) (h14 : k ≠ 289) (h15 : k ≠ 290) (h16 : k ≠ 291) (h17 : k ≠ 292) (h18 : k ≠ 293) (h19 : k ≠ 294) : gI (X2_bothWaysAgree_m g m c f N) k a9 = gI m k a9 := by
  unfold X2_bothWaysAgree_m
  repeat' split
  all_goals simp [mm, kI_X2_bothWaysAgree_l1, h0, h1, h2, h3, h4, h5, h6, h7, h8, h9, h10, h11, h12, h13, h14, h15, h16, h17, h18, h19]
theorem kJ_X2_bothWaysAgree (g : mG) (m : mM) (c : Nat) (f : Nat) (N : Nat) (k a9 : Nat) (h0 : k ≠ 171) (h1 : k ≠ 195) : gJ (X2_bothWaysAgree_m g m c f N) k a9 = gJ m k a9 := by
  unfold X2_bothWaysAgree_m
  repeat' split
  all_goals simp [mm, kJ_X2_bothWaysAgree_l1, h0, h1]
theorem kR_X2_bothWaysAgree (g : mG) (m : mM) (c : Nat) (f : Nat) (N : Nat) (k a9 : Nat) (h0 : k ≠ 295) : gR (X2_bothWaysAgree_m g m c f N) k a9 = gR m k a9 := by
  unfold X2_bothWaysAgree_m
  repeat' split
  all_goals simp [mm, kR_X2_bothWaysAgree_l1, h0]
theorem kA_X2_bothWaysAgree (g : mG) (m : mM) (c : Nat) (f : Nat) (N : Nat) : gA (X2_bothWaysAgree_m g m c f N) = gA m := by
  unfold X2_bothWaysAgree_m
  repeat' split
  all_goals simp only [mm, kA_X2_bothWaysAgree_l1]
theorem kQ_X2_bothWaysAgree (g : mG) (m : mM) (c : Nat) (f : Nat) (N : Nat) : gQ (X2_bothWaysAgree_m g m c f N) = gQ m := by
  unfold X2_bothWaysAgree_m
  repeat' split
  all_goals simp only [mm, kQ_X2_bothWaysAgree_l1]
theorem kL_X2_bothWaysAgree (g : mG) (m : mM) (c : Nat) (f : Nat) (N : Nat) : gL (X2_bothWaysAgree_m g m c f N) = gL m := by
  unfold X2_bothWaysAgree_m
  repeat' split
  all_goals simp only [mm, kL_X2_bothWaysAgree_l1]
theorem kD_X2_bothWaysAgree (g : mG) (m : mM) (c : Nat) (f : Nat) (N : Nat) : gD (X2_bothWaysAgree_m g m c f N) = gD m := by
  unfold X2_bothWaysAgree_m
  repeat' split
  all_goals simp only [mm, kD_X2_bothWaysAgree_l1]
theorem fr_X2_bothWaysAgree (g : mG) (m : mM) (c : Nat) (f : Nat) (N : Nat) (hc : SC m c) (hs : SF m f) (hN8 : N ≤ 8) : Fr c (c + 19) m (X2_bothWaysAgree_m g m c f N) := by
  unfold X2_bothWaysAgree_m
  exact (Fr.rf).tr (fr_X2_bothWaysAgree_l1 g c f N hN8 N 0  m hc hs (by omega)) (Nat.le_refl _) (Nat.le_refl _)
set_option maxHeartbeats 4000000 in
set_option maxRecDepth 100000 in
theorem c_X2_bothWaysAgree {l : Launch} {g : mG} (hO : mO l g) (m : mM) (c : Nat) (f : Nat) (N : Nat) (hc : SC m c) (hs : SF m f) (hN : gI m 163 f = nI N) (hN8 : N ≤ 8) (hd : f + 16 ≤ c) : mT l g yX2_bothWaysAgree (.code yX2_bothWaysAgree cX2_bothWaysAgree 4 (Option.some FieldType.boolean)) 5 107 0 0 [.ref c, .ref f] m (fun r m' => r = some (.int (X2_bothWaysAgree_r g m c f N)) ∧ m' = X2_bothWaysAgree_m g m c f N) nX := by
  refine mT_of hO (by decide) (Nat.le_of_ble_eq_true rfl) (fun x hX hZ => ?_)
  show mV g x m 0 0 0 [(0, .ref c), (1, .ref f)] []
  refine v_iconst (v := 0) (pc := 0) hX dX2_bothWaysAgree_0 (by decide) ?_
  refine v_istore_n (pc := 1) hX dX2_bothWaysAgree_1 (by decide) rfl ?_
  refine mV_sub (lv' := [(0, .ref c), (1, .ref f), (2, .int (nI 0))]) ⟨rfl, rfl, rfl, trivial⟩ ?_
  exact lp_X2_bothWaysAgree_l1 hO c f N hN8 hd hX hZ N 0  m hc hs hN (by omega) ⟨(by rw [X2_bothWaysAgree_r]), (by rw [X2_bothWaysAgree_m])⟩
