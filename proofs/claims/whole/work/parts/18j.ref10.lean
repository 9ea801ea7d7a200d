def X11_thinks_l1 (g : mG) (r : Nat)  : Nat → Nat → mM → mM
  | 0, j, m => m
  | n + 1, j, m => X11_thinks_l1 g r  n (j + 1)  ((sA m (r + 5) j (gA m (r + 1) j)))
set_option maxHeartbeats 4000000 in
set_option maxRecDepth 100000 in
theorem lp_X11_thinks_l1 {l : Launch} {g : mG} {x : mCx} (hO : mO l g) (r : Nat)   {pst : Option Value → mM → Prop} {XX : String → mM → Prop} (hX : mX l g x cX11_thinks yX11_thinks { frames := 1, cells := 0, slots := 0, locals := 20 } 2) (hZ : mZ g x (Option.none : Option FieldType) [] pst XX 0 0) : ∀ (n j : Nat)  (m : mM) (hs : SR m r) (hj : j + n = 13) (hp : pst none (X11_thinks_l1 g r  n j  m)), mV g x m 0 0 2 [(0, .ref r), (1, .int (nI j))] [] := by
  intro n
  induction n with
  | zero =>
    intro j  m hs hj hp
    refine v_iload_n (pc := 2) hX dX11_thinks_2 rfl ?_
    refine v_bipush (v := 13) (pc := 3) hX dX11_thinks_3 (by decide) ?_
    refine v_icmp_ge (tgt := 26) (pc := 5) hX dX11_thinks_5 (by decide) (fun c1 => ?_) (fun c1 => ?_)
    ·
      exact v_vret (pc := 26) hX hZ dX11_thinks_26 (by decide) (by decide) (by rw [X11_thinks_l1] at hp; exact hp)
    · exact absurd (show nI 13 ≤ nI j from nI_le (by omega) (by omega)) c1
  | succ n ih =>
    intro j  m hs hj hp
    refine v_iload_n (pc := 2) hX dX11_thinks_2 rfl ?_
    refine v_bipush (v := 13) (pc := 3) hX dX11_thinks_3 (by decide) ?_
    refine v_icmp_ge (tgt := 26) (pc := 5) hX dX11_thinks_5 (by decide) (fun c1 => ?_) (fun c1 => ?_)
    · exact absurd c1 (show ¬ nI 13 ≤ nI j from nI_ge (by omega) (by omega))
    ·
      refine v_aload_n (pc := 8) hX dX11_thinks_8 rfl ?_
      refine v_get (v := .ref (r + 5)) (pc := 9) hX dX11_thinks_9 hs.k (ci := 12) (r := vwC12) rfl 9 (by decide) wd_1515 (fvA rfl hs.r5) ?_
      refine v_iload_n (pc := 12) hX dX11_thinks_12 rfl ?_
      refine v_aload_n (pc := 13) hX dX11_thinks_13 rfl ?_
      refine v_get (v := .ref (r + 1)) (pc := 14) hX dX11_thinks_14 hs.k (ci := 12) (r := vwC12) rfl 5 (by decide) wd_1511 (fvA rfl hs.r1) ?_
      refine v_iload_n (pc := 17) hX dX11_thinks_17 rfl ?_
      refine v_iald (j := j) (v := (gA m (r + 1) j)) (pc := 18) hX dX11_thinks_18 hs.k1 rfl (by omega) (by decide) rfl ?_
      refine v_iast (j := j) (pc := 19) hX dX11_thinks_19 hs.k5 rfl (by omega) (by decide) ?_
      refine v_iinc (w := nI (j + 1)) (pc := 20) hX dX11_thinks_20 rfl (nI_1 _) (by decide) rfl ?_
      refine v_goto (tgt := 2) (pc := 23) hX dX11_thinks_23 (by decide) ?_
      refine mV_sub (lv' := [(0, .ref r), (1, .int (nI (j + 1)))]) ⟨rfl, rfl, trivial⟩ ?_
      exact ih (j + 1)  ((sA m (r + 5) j (gA m (r + 1) j))) (hs.to (by simp only [mm]) (by simp only [mm])) (by omega) (by rw [X11_thinks_l1] at hp; exact hp)
theorem kK_X11_thinks_l1 (g : mG) (r : Nat)  : ∀ (n j : Nat)  (m : mM), gK (X11_thinks_l1 g r  n j  m) = gK m := by
  intro n
  induction n with
  | zero =>
    intro j  m
    rw [X11_thinks_l1]
    repeat' split
    all_goals simp only [mm]
  | succ n ih =>
    intro j  m
    rw [X11_thinks_l1]
    repeat' split
    all_goals simp only [mm, ih]
theorem kN_X11_thinks_l1 (g : mG) (r : Nat)  : ∀ (n j : Nat)  (m : mM), gN (X11_thinks_l1 g r  n j  m) = gN m := by
  intro n
  induction n with
  | zero =>
    intro j  m
    rw [X11_thinks_l1]
    repeat' split
    all_goals simp only [mm]
  | succ n ih =>
    intro j  m
    rw [X11_thinks_l1]
    repeat' split
    all_goals simp only [mm, ih]
theorem kI_X11_thinks_l1 (g : mG) (r : Nat)  : ∀ (n j : Nat)  (m : mM), gI (X11_thinks_l1 g r  n j  m) = gI m := by
  intro n
  induction n with
  | zero =>
    intro j  m
    rw [X11_thinks_l1]
    repeat' split
    all_goals simp only [mm]
  | succ n ih =>
    intro j  m
    rw [X11_thinks_l1]
    repeat' split
    all_goals simp only [mm, ih]
theorem kJ_X11_thinks_l1 (g : mG) (r : Nat)  : ∀ (n j : Nat)  (m : mM), gJ (X11_thinks_l1 g r  n j  m) = gJ m := by
  intro n
  induction n with
  | zero =>
    intro j  m
    rw [X11_thinks_l1]
    repeat' split
    all_goals simp only [mm]
  | succ n ih =>
    intro j  m
    rw [X11_thinks_l1]
    repeat' split
    all_goals simp only [mm, ih]
theorem kR_X11_thinks_l1 (g : mG) (r : Nat)  : ∀ (n j : Nat)  (m : mM), gR (X11_thinks_l1 g r  n j  m) = gR m := by
  intro n
  induction n with
  | zero =>
    intro j  m
    rw [X11_thinks_l1]
    repeat' split
    all_goals simp only [mm]
  | succ n ih =>
    intro j  m
    rw [X11_thinks_l1]
    repeat' split
    all_goals simp only [mm, ih]
theorem kQ_X11_thinks_l1 (g : mG) (r : Nat)  : ∀ (n j : Nat)  (m : mM), gQ (X11_thinks_l1 g r  n j  m) = gQ m := by
  intro n
  induction n with
  | zero =>
    intro j  m
    rw [X11_thinks_l1]
    repeat' split
    all_goals simp only [mm]
  | succ n ih =>
    intro j  m
    rw [X11_thinks_l1]
    repeat' split
    all_goals simp only [mm, ih]
theorem kL_X11_thinks_l1 (g : mG) (r : Nat)  : ∀ (n j : Nat)  (m : mM), gL (X11_thinks_l1 g r  n j  m) = gL m := by
  intro n
  induction n with
  | zero =>
    intro j  m
    rw [X11_thinks_l1]
    repeat' split
    all_goals simp only [mm]
  | succ n ih =>
    intro j  m
    rw [X11_thinks_l1]
    repeat' split
    all_goals simp only [mm, ih]
theorem kD_X11_thinks_l1 (g : mG) (r : Nat)  : ∀ (n j : Nat)  (m : mM), gD (X11_thinks_l1 g r  n j  m) = gD m := by
  intro n
  induction n with
  | zero =>
    intro j  m
    rw [X11_thinks_l1]
    repeat' split
    all_goals simp only [mm]
  | succ n ih =>
    intro j  m
    rw [X11_thinks_l1]
    repeat' split
    all_goals simp only [mm, ih]
theorem kA_X11_thinks_l1 (g : mG) (r : Nat)  (c9 i9 : Nat) (h0 : c9 ≠ r + 5) : ∀ (n j : Nat)  (m : mM), gA (X11_thinks_l1 g r  n j  m) c9 i9 = gA m c9 i9 := by
  intro n
  induction n with
  | zero =>
    intro j  m
    rw [X11_thinks_l1]
    repeat' split
    all_goals simp [mm, h0]
  | succ n ih =>
    intro j  m
    rw [X11_thinks_l1]
    repeat' split
    all_goals simp [mm, ih, h0]
def X11_thinks_m (g : mG) (m : mM) (r : Nat)  : mM := X11_thinks_l1 g r  13 0  m
theorem kK_X11_thinks (g : mG) (m : mM) (r : Nat)  : gK (X11_thinks_m g m r ) = gK m := by
  unfold X11_thinks_m
  repeat' split
  all_goals simp only [mm, kK_X11_thinks_l1]
theorem kN_X11_thinks (g : mG) (m : mM) (r : Nat)  : gN (X11_thinks_m g m r ) = gN m := by
  unfold X11_thinks_m
  repeat' split
  all_goals simp only [mm, kN_X11_thinks_l1]
theorem kI_X11_thinks (g : mG) (m : mM) (r : Nat)  : gI (X11_thinks_m g m r ) = gI m := by
  unfold X11_thinks_m
  repeat' split
  all_goals simp only [mm, kI_X11_thinks_l1]
theorem kJ_X11_thinks (g : mG) (m : mM) (r : Nat)  : gJ (X11_thinks_m g m r ) = gJ m := by
  unfold X11_thinks_m
  repeat' split
  all_goals simp only [mm, kJ_X11_thinks_l1]
theorem kR_X11_thinks (g : mG) (m : mM) (r : Nat)  : gR (X11_thinks_m g m r ) = gR m := by
  unfold X11_thinks_m
  repeat' split
  all_goals simp only [mm, kR_X11_thinks_l1]
theorem kQ_X11_thinks (g : mG) (m : mM) (r : Nat)  : gQ (X11_thinks_m g m r ) = gQ m := by
  unfold X11_thinks_m
  repeat' split
  all_goals simp only [mm, kQ_X11_thinks_l1]
theorem kL_X11_thinks (g : mG) (m : mM) (r : Nat)  : gL (X11_thinks_m g m r ) = gL m := by
  unfold X11_thinks_m
  repeat' split
  all_goals simp only [mm, kL_X11_thinks_l1]
theorem kD_X11_thinks (g : mG) (m : mM) (r : Nat)  : gD (X11_thinks_m g m r ) = gD m := by
  unfold X11_thinks_m
  repeat' split
  all_goals simp only [mm, kD_X11_thinks_l1]
theorem kA_X11_thinks (g : mG) (m : mM) (r : Nat)  (c9 i9 : Nat) (h0 : c9 ≠ r + 5) : gA (X11_thinks_m g m r ) c9 i9 = gA m c9 i9 := by
  unfold X11_thinks_m
  repeat' split
  all_goals simp [mm, kA_X11_thinks_l1, h0]
set_option maxHeartbeats 4000000 in
set_option maxRecDepth 100000 in
theorem c_X11_thinks {l : Launch} {g : mG} (hO : mO l g) (m : mM) (r : Nat)  (hs : SR m r) : mT l g yX11_thinks (.code yX11_thinks cX11_thinks 2 (Option.none : Option FieldType)) 1 20 0 0 [.ref r] m (fun u m' => u = none ∧ m' = X11_thinks_m g m r ) nX := by
  refine mT_of hO (by decide) (Nat.le_of_ble_eq_true rfl) (fun x hX hZ => ?_)
  show mV g x m 0 0 0 [(0, .ref r)] []
  refine v_iconst (v := 0) (pc := 0) hX dX11_thinks_0 (by decide) ?_
  refine v_istore_n (pc := 1) hX dX11_thinks_1 (by decide) rfl ?_
  refine mV_sub (lv' := [(0, .ref r), (1, .int (nI 0))]) ⟨rfl, rfl, trivial⟩ ?_
  exact lp_X11_thinks_l1 hO r   hX hZ 13 0  m hs (by omega) ⟨rfl, (by rw [X11_thinks_m])⟩
theorem isI_200 {a : Int32} (h : ¬ isI a 0 200 = 0) : a = nI a.toNatClampNeg ∧ a.toNatClampNeg ≤ 200 := by
  have h1 := isI_0 h
  obtain ⟨j, hj, rfl⟩ := nI_of2 (M := 200) (n := 200) (by decide) h1.1 h1.2
  rw [nI_clamp (by omega)]
  exact ⟨rfl, hj⟩
def X11_furnaceAfter_l1 (g : mG) (r : Nat) (a : Int32)  : Nat → Nat → mM → Int32 × mM
  | 0, j, m => (gA m (r + 5) 1, m)
  | n + 1, j, m => X11_furnaceAfter_l1 g r a  n (j + 1)  ((X11_burns_m g m (r + 5) 16))
set_option maxHeartbeats 4000000 in
set_option maxRecDepth 100000 in
theorem lp_X11_furnaceAfter_l1 {l : Launch} {g : mG} {x : mCx} (hO : mO l g) (r : Nat) (a : Int32)  (hT : a = nI a.toNatClampNeg ∧ a.toNatClampNeg ≤ 200) {pst : Option Value → mM → Prop} {XX : String → mM → Prop} (hX : mX l g x cX11_furnaceAfter yX11_furnaceAfter { frames := 2, cells := 0, slots := 0, locals := 42 } 3) (hZ : mZ g x (Option.some FieldType.int) [] pst XX 0 0) : ∀ (n j : Nat)  (m : mM) (hs : SR m r) (hj : j + n = a.toNatClampNeg) (hp : pst (some (.int ((X11_furnaceAfter_l1 g r a  n j  m).1))) ((X11_furnaceAfter_l1 g r a  n j  m).2)), mV g x m 0 0 35 [(0, .ref r), (1, .int a), (2, .int (nI j))] [] := by
  intro n
  induction n with
  | zero =>
    intro j  m hs hj hp
    refine v_iload_n (pc := 35) hX dX11_furnaceAfter_35 rfl ?_
    refine v_iload_n (pc := 36) hX dX11_furnaceAfter_36 rfl ?_
    refine v_icmp_ge (tgt := 53) (pc := 37) hX dX11_furnaceAfter_37 (by decide) (fun c1 => ?_) (fun c1 => ?_)
    ·
      refine v_aload_n (pc := 53) hX dX11_furnaceAfter_53 rfl ?_
      refine v_get (v := .ref (r + 5)) (pc := 54) hX dX11_furnaceAfter_54 hs.k (ci := 12) (r := vwC12) rfl 9 (by decide) wd_1515 (fvA rfl hs.r5) ?_
      refine v_iconst (v := 1) (pc := 57) hX dX11_furnaceAfter_57 (by decide) ?_
      refine v_iald (j := 1) (v := (gA m (r + 5) 1)) (pc := 58) hX dX11_furnaceAfter_58 hs.k5 rfl (by decide) (by decide) rfl ?_
      exact v_iret (pc := 59) hX hZ dX11_furnaceAfter_59 (by decide) (by decide) (by rw [X11_furnaceAfter_l1] at hp; exact hp)
    · exact absurd (by rw [hT.1]; exact nI_le (by omega) (by have := hT.2; omega)) c1
  | succ n ih =>
    intro j  m hs hj hp
    refine v_iload_n (pc := 35) hX dX11_furnaceAfter_35 rfl ?_
    refine v_iload_n (pc := 36) hX dX11_furnaceAfter_36 rfl ?_
    refine v_icmp_ge (tgt := 53) (pc := 37) hX dX11_furnaceAfter_37 (by decide) (fun c1 => ?_) (fun c1 => ?_)
    · exact absurd c1 (by rw [hT.1]; exact nI_ge (by omega) (by have := hT.2; omega))
    ·
      refine v_aload_n (pc := 40) hX dX11_furnaceAfter_40 rfl ?_
      refine v_get (v := .ref (r + 5)) (pc := 41) hX dX11_furnaceAfter_41 hs.k (ci := 12) (r := vwC12) rfl 9 (by decide) wd_1515 (fvA rfl hs.r5) ?_
      refine v_callS (z := yX11_burns) (pc := 44) hX dX11_furnaceAfter_44 (c_X11_burns hO m (r + 5) 16 hs.k5 (by decide) (by decide)) wd_1623 wd_1624 wd_16 wd_1625 ⟨by decide, by decide, (by decide +kernel : (parseMethodDescriptor yX11_burns.desc).map (fun d => d.parameters.length) = some 1)⟩ rfl (Nat.le_of_ble_eq_true rfl) ⟨⟨by decide, by decide⟩, by decide, by decide⟩ (fun E m9 h9 => h9.elim) (fun r9 m9 h9 => ?_)
      obtain ⟨rfl, h8⟩ := h9
      replace h8 := h8.symm
      subst h8
      show mV g x _ _ _ _ _ []
      refine v_iinc (w := nI (j + 1)) (pc := 47) hX dX11_furnaceAfter_47 rfl (nI_1 _) (by decide) rfl ?_
      refine v_goto (tgt := 35) (pc := 50) hX dX11_furnaceAfter_50 (by decide) ?_
      refine mV_sub (lv' := [(0, .ref r), (1, .int a), (2, .int (nI (j + 1)))]) ⟨rfl, rfl, rfl, trivial⟩ ?_
      exact ih (j + 1)  ((X11_burns_m g m (r + 5) 16)) (hs.to (by simp only [mm, kK_X11_burns]) (by simp only [mm, kR_X11_burns])) (by omega) (by rw [X11_furnaceAfter_l1] at hp; exact hp)
theorem kK_X11_furnaceAfter_l1 (g : mG) (r : Nat) (a : Int32)  : ∀ (n j : Nat)  (m : mM), gK ((X11_furnaceAfter_l1 g r a  n j  m).2) = gK m := by
  intro n
  induction n with
  | zero =>
    intro j  m
    rw [X11_furnaceAfter_l1]
    repeat' split
    all_goals simp only [mm, kK_X11_burns]
  | succ n ih =>
    intro j  m
    rw [X11_furnaceAfter_l1]
    repeat' split
    all_goals simp only [mm, ih, kK_X11_burns]
theorem kN_X11_furnaceAfter_l1 (g : mG) (r : Nat) (a : Int32)  : ∀ (n j : Nat)  (m : mM), gN ((X11_furnaceAfter_l1 g r a  n j  m).2) = gN m := by
  intro n
  induction n with
  | zero =>
    intro j  m
    rw [X11_furnaceAfter_l1]
    repeat' split
    all_goals simp only [mm, kN_X11_burns]
  | succ n ih =>
    intro j  m
    rw [X11_furnaceAfter_l1]
    repeat' split
    all_goals simp only [mm, ih, kN_X11_burns]
theorem kI_X11_furnaceAfter_l1 (g : mG) (r : Nat) (a : Int32)  : ∀ (n j : Nat)  (m : mM), gI ((X11_furnaceAfter_l1 g r a  n j  m).2) = gI m := by
  intro n
  induction n with
  | zero =>
    intro j  m
    rw [X11_furnaceAfter_l1]
    repeat' split
    all_goals simp only [mm, kI_X11_burns]
  | succ n ih =>
    intro j  m
    rw [X11_furnaceAfter_l1]
    repeat' split
    all_goals simp only [mm, ih, kI_X11_burns]
theorem kJ_X11_furnaceAfter_l1 (g : mG) (r : Nat) (a : Int32)  : ∀ (n j : Nat)  (m : mM), gJ ((X11_furnaceAfter_l1 g r a  n j  m).2) = gJ m := by
  intro n
  induction n with
  | zero =>
    intro j  m
    rw [X11_furnaceAfter_l1]
    repeat' split
    all_goals simp only [mm, kJ_X11_burns]
  | succ n ih =>
    intro j  m
    rw [X11_furnaceAfter_l1]
    repeat' split
    all_goals simp only [mm, ih, kJ_X11_burns]
theorem kR_X11_furnaceAfter_l1 (g : mG) (r : Nat) (a : Int32)  : ∀ (n j : Nat)  (m : mM), gR ((X11_furnaceAfter_l1 g r a  n j  m).2) = gR m := by
  intro n
  induction n with
  | zero =>
    intro j  m
    rw [X11_furnaceAfter_l1]
    repeat' split
    all_goals simp only [mm, kR_X11_burns]
  | succ n ih =>
    intro j  m
    rw [X11_furnaceAfter_l1]
    repeat' split
    all_goals simp only [mm, ih, kR_X11_burns]
theorem kQ_X11_furnaceAfter_l1 (g : mG) (r : Nat) (a : Int32)  : ∀ (n j : Nat)  (m : mM), gQ ((X11_furnaceAfter_l1 g r a  n j  m).2) = gQ m := by
  intro n
  induction n with
  | zero =>
    intro j  m
    rw [X11_furnaceAfter_l1]
    repeat' split
    all_goals simp only [mm, kQ_X11_burns]
  | succ n ih =>
    intro j  m
    rw [X11_furnaceAfter_l1]
    repeat' split
    all_goals simp only [mm, ih, kQ_X11_burns]
theorem kL_X11_furnaceAfter_l1 (g : mG) (r : Nat) (a : Int32)  : ∀ (n j : Nat)  (m : mM), gL ((X11_furnaceAfter_l1 g r a  n j  m).2) = gL m := by
  intro n
  induction n with
  | zero =>
    intro j  m
    rw [X11_furnaceAfter_l1]
    repeat' split
    all_goals simp only [mm, kL_X11_burns]
  | succ n ih =>
    intro j  m
    rw [X11_furnaceAfter_l1]
    repeat' split
    all_goals simp only [mm, ih, kL_X11_burns]
theorem kD_X11_furnaceAfter_l1 (g : mG) (r : Nat) (a : Int32)  : ∀ (n j : Nat)  (m : mM), gD ((X11_furnaceAfter_l1 g r a  n j  m).2) = gD m := by
  intro n
  induction n with
  | zero =>
    intro j  m
    rw [X11_furnaceAfter_l1]
    repeat' split
    all_goals simp only [mm, kD_X11_burns]
  | succ n ih =>
    intro j  m
    rw [X11_furnaceAfter_l1]
    repeat' split
    all_goals simp only [mm, ih, kD_X11_burns]
theorem kA_X11_furnaceAfter_l1 (g : mG) (r : Nat) (a : Int32)  (c9 i9 : Nat) (h0 : c9 ≠ r + 5) : ∀ (n j : Nat)  (m : mM), gA ((X11_furnaceAfter_l1 g r a  n j  m).2) c9 i9 = gA m c9 i9 := by
  intro n
  induction n with
  | zero =>
    intro j  m
    rw [X11_furnaceAfter_l1]
    repeat' split
    all_goals simp [mm, kA_X11_burns, h0]
  | succ n ih =>
    intro j  m
    rw [X11_furnaceAfter_l1]
    repeat' split
    all_goals simp [mm, ih, kA_X11_burns, h0]
def X11_furnaceAfter_r (g : mG) (m : mM) (r : Nat) (a : Int32)  : Int32 := (if (isI a 0 200) = 0 then ((0, (sI m 384 r 1))) else (X11_furnaceAfter_l1 g r a  a.toNatClampNeg 0  ((X11_thinks_m g ((sI m 384 r 0)) r )))).1
def X11_furnaceAfter_m (g : mG) (m : mM) (r : Nat) (a : Int32)  : mM := (if (isI a 0 200) = 0 then ((0, (sI m 384 r 1))) else (X11_furnaceAfter_l1 g r a  a.toNatClampNeg 0  ((X11_thinks_m g ((sI m 384 r 0)) r )))).2
theorem kK_X11_furnaceAfter (g : mG) (m : mM) (r : Nat) (a : Int32)  : gK (X11_furnaceAfter_m g m r a ) = gK m := by
  unfold X11_furnaceAfter_m
  repeat' split
  all_goals simp only [mm, kK_X11_furnaceAfter_l1, kK_X11_thinks]
theorem kN_X11_furnaceAfter (g : mG) (m : mM) (r : Nat) (a : Int32)  : gN (X11_furnaceAfter_m g m r a ) = gN m := by
  unfold X11_furnaceAfter_m
  repeat' split
  all_goals simp only [mm, kN_X11_furnaceAfter_l1, kN_X11_thinks]
theorem kI_X11_furnaceAfter (g : mG) (m : mM) (r : Nat) (a : Int32)  (k a9 : Nat) (h0 : k ≠ 384) : gI (X11_furnaceAfter_m g m r a ) k a9 = gI m k a9 := by
  unfold X11_furnaceAfter_m
  repeat' split
  all_goals simp [mm, kI_X11_furnaceAfter_l1, kI_X11_thinks, h0]
theorem kJ_X11_furnaceAfter (g : mG) (m : mM) (r : Nat) (a : Int32)  : gJ (X11_furnaceAfter_m g m r a ) = gJ m := by
  unfold X11_furnaceAfter_m
  repeat' split
  all_goals simp only [mm, kJ_X11_furnaceAfter_l1, kJ_X11_thinks]
theorem kR_X11_furnaceAfter (g : mG) (m : mM) (r : Nat) (a : Int32)  : gR (X11_furnaceAfter_m g m r a ) = gR m := by
  unfold X11_furnaceAfter_m
  repeat' split
  all_goals simp only [mm, kR_X11_furnaceAfter_l1, kR_X11_thinks]
theorem kQ_X11_furnaceAfter (g : mG) (m : mM) (r : Nat) (a : Int32)  : gQ (X11_furnaceAfter_m g m r a ) = gQ m := by
  unfold X11_furnaceAfter_m
  repeat' split
  all_goals simp only [mm, kQ_X11_furnaceAfter_l1, kQ_X11_thinks]
theorem kL_X11_furnaceAfter (g : mG) (m : mM) (r : Nat) (a : Int32)  : gL (X11_furnaceAfter_m g m r a ) = gL m := by
  unfold X11_furnaceAfter_m
  repeat' split
  all_goals simp only [mm, kL_X11_furnaceAfter_l1, kL_X11_thinks]
theorem kD_X11_furnaceAfter (g : mG) (m : mM) (r : Nat) (a : Int32)  : gD (X11_furnaceAfter_m g m r a ) = gD m := by
  unfold X11_furnaceAfter_m
  repeat' split
  all_goals simp only [mm, kD_X11_furnaceAfter_l1, kD_X11_thinks]
theorem kA_X11_furnaceAfter (g : mG) (m : mM) (r : Nat) (a : Int32)  (c9 i9 : Nat) (h0 : c9 ≠ r + 5) : gA (X11_furnaceAfter_m g m r a ) c9 i9 = gA m c9 i9 := by
  unfold X11_furnaceAfter_m
  repeat' split
  all_goals simp [mm, kA_X11_furnaceAfter_l1, kA_X11_thinks, h0]
set_option maxHeartbeats 4000000 in
set_option maxRecDepth 100000 in
theorem c_X11_furnaceAfter {l : Launch} {g : mG} (hO : mO l g) (m : mM) (r : Nat) (a : Int32)  (hs : SR m r) : mT l g yX11_furnaceAfter (.code yX11_furnaceAfter cX11_furnaceAfter 3 (Option.some FieldType.int)) 2 42 0 0 [.ref r, .int a] m (fun u m' => u = some (.int (X11_furnaceAfter_r g m r a )) ∧ m' = X11_furnaceAfter_m g m r a ) nX := by
  refine mT_of hO (by decide) (Nat.le_of_ble_eq_true rfl) (fun x hX hZ => ?_)
  show mV g x m 0 0 0 [(0, .ref r), (1, .int a)] []
  refine v_aload_n (pc := 0) hX dX11_furnaceAfter_0 rfl ?_
  refine v_iload_n (pc := 1) hX dX11_furnaceAfter_1 rfl ?_
  refine v_iconst (v := 0) (pc := 2) hX dX11_furnaceAfter_2 (by decide) ?_
  refine v_sipush (v := 200) (pc := 3) hX dX11_furnaceAfter_3 (by decide) ?_
  refine v_callS (z := yX11_isIn) (pc := 6) hX dX11_furnaceAfter_6 (c_isI hO m a 0 200) wd_1592 wd_1593 wd_16 wd_1594 ⟨by decide, by decide, (by decide +kernel : (parseMethodDescriptor yX11_isIn.desc).map (fun d => d.parameters.length) = some 3)⟩ rfl (Nat.le_of_ble_eq_true rfl) ⟨⟨by decide, by decide⟩, by decide, by decide⟩ (fun E m9 h9 => h9.elim) (fun r9 m9 h9 => ?_)
  obtain ⟨rfl, h8⟩ := h9
  replace h8 := h8.symm
  subst h8
  show mV g x _ _ _ _ _ [.int (isI a 0 200), .ref r]
  refine v_if_eq (tgt := 16) (pc := 9) hX dX11_furnaceAfter_9 (by decide) (fun c1 => ?_) (fun c1 => ?_)
  ·
    refine v_iconst (v := 1) (pc := 16) hX dX11_furnaceAfter_16 (by decide) ?_
    refine v_put (m1 := (sI m 384 r 1)) (pc := 17) hX dX11_furnaceAfter_17 hs.k (ci := 12) (r := vwC12) rfl 0 (by decide) wd_1506 rfl rfl rfl rfl ?_
    refine v_aload_n (pc := 20) hX dX11_furnaceAfter_20 rfl ?_
    refine v_get (v := .int 1) (pc := 21) hX dX11_furnaceAfter_21 (by simp only [mm]; exact hs.k) (ci := 12) (r := vwC12) rfl 0 (by decide) wd_1506 (by show Value.int _ = Value.int _; simp [mm]) ?_
    refine v_if_eq (tgt := 29) (pc := 24) hX dX11_furnaceAfter_24 (by decide) (fun c2 => ?_) (fun c2 => ?_)
    · exact absurd c2 (by decide)
    ·
      refine v_iconst (v := 0) (pc := 27) hX dX11_furnaceAfter_27 (by decide) ?_
      exact v_iret (pc := 28) hX hZ dX11_furnaceAfter_28 (by decide) (by decide) ⟨(by rw [X11_furnaceAfter_r, if_pos c1]), (by rw [X11_furnaceAfter_m, if_pos c1])⟩
  ·
    refine v_iconst (v := 0) (pc := 12) hX dX11_furnaceAfter_12 (by decide) ?_
    refine v_goto (tgt := 17) (pc := 13) hX dX11_furnaceAfter_13 (by decide) ?_
    refine v_put (m1 := (sI m 384 r 0)) (pc := 17) hX dX11_furnaceAfter_17 hs.k (ci := 12) (r := vwC12) rfl 0 (by decide) wd_1506 rfl rfl rfl rfl ?_
    refine v_aload_n (pc := 20) hX dX11_furnaceAfter_20 rfl ?_
    refine v_get (v := .int 0) (pc := 21) hX dX11_furnaceAfter_21 (by simp only [mm]; exact hs.k) (ci := 12) (r := vwC12) rfl 0 (by decide) wd_1506 (by show Value.int _ = Value.int _; simp [mm]) ?_
    refine v_if_eq (tgt := 29) (pc := 24) hX dX11_furnaceAfter_24 (by decide) (fun c3 => ?_) (fun c3 => ?_)
    ·
      have hT := isI_200 (a := a) (by assumption)
      refine v_aload_n (pc := 29) hX dX11_furnaceAfter_29 rfl ?_
      refine v_callV (z := yX11_thinks) (pc := 30) hX dX11_furnaceAfter_30 (c_X11_thinks hO ((sI m 384 r 0)) r  (hs.to (by simp only [mm]) (by simp only [mm]))) (by simp only [mm]; exact hs.k) rfl wd_1772 wd_1774 wp_43 wd_16 wd_1775 ⟨by decide, by decide, (by decide +kernel : (parseMethodDescriptor yX11_thinks.desc).map (fun d => d.parameters.length) = some 0)⟩ rfl (Nat.le_of_ble_eq_true rfl) ⟨⟨by decide, by decide⟩, by decide, by decide⟩ (fun E m9 h9 => h9.elim) (fun r9 m9 h9 => ?_)
      obtain ⟨rfl, h8⟩ := h9
      replace h8 := h8.symm
      subst h8
      show mV g x _ _ _ _ _ []
      refine v_iconst (v := 0) (pc := 33) hX dX11_furnaceAfter_33 (by decide) ?_
      refine v_istore_n (pc := 34) hX dX11_furnaceAfter_34 (by decide) rfl ?_
      refine mV_sub (lv' := [(0, .ref r), (1, .int a), (2, .int (nI 0))]) ⟨rfl, rfl, rfl, trivial⟩ ?_
      exact lp_X11_furnaceAfter_l1 hO r a  hT hX hZ a.toNatClampNeg 0  ((X11_thinks_m g ((sI m 384 r 0)) r )) (hs.to (by simp only [mm, kK_X11_thinks]) (by simp only [mm, kR_X11_thinks])) (by omega) ⟨(by rw [X11_furnaceAfter_r, if_neg c1]), (by rw [X11_furnaceAfter_m, if_neg c1])⟩
    · exact absurd (by decide) c3
def X11_minutesToCool_l1 (g : mG) (r : Nat) (a : Int32) (b : Int32) (N : Nat) : Nat → Nat → Int32 → Int32 → mM → Int32 × mM
  | 0, j, pp, wm, m => if wm ≤ b then (if wm ≤ b then ((nI j, (sI m 384 r 0))) else ((0, (sI m 384 r 3)))) else (if wm ≤ b then ((nI j, (sI m 384 r 0))) else ((0, (sI m 384 r 3))))
  | n + 1, j, pp, wm, m => if wm ≤ b then (if wm ≤ b then ((nI j, (sI m 384 r 0))) else ((0, (sI m 384 r 3)))) else (if (gA m (r + 1) (8 * pp.toNatClampNeg + 18)) = 1 then (X11_minutesToCool_l1 g r a b N n (j + 1) pp (lat wm 1 (gA ((X11_burns_m g m (r + 5) 16)) (r + 5) (1))) ((X11_burns_m g m (r + 5) 16))) else (X11_minutesToCool_l1 g r a b N n (j + 1) pp (lat wm 0 (gA ((X11_burns_m g m (r + 5) 16)) (r + 5) (1))) ((X11_burns_m g m (r + 5) 16))))
set_option maxHeartbeats 4000000 in
set_option maxRecDepth 100000 in
theorem lp_X11_minutesToCool_l1 {l : Launch} {g : mG} {x : mCx} (hO : mO l g) (r : Nat) (a : Int32) (b : Int32) (N : Nat) (hN8 : N ≤ 8) {pst : Option Value → mM → Prop} {XX : String → mM → Prop} (hX : mX l g x cX11_minutesToCool yX11_minutesToCool { frames := 3, cells := 0, slots := 0, locals := 63 } 6) (hZ : mZ g x (Option.some FieldType.int) [] pst XX 0 0) : ∀ (n j : Nat) (pp : Int32) (wm : Int32) (m : mM) (hs : SR m r) (hN : gA m (r + 1) 5 = nI N) (hpp : okI pp 7) (hj : j + n = 200) (hp : pst (some (.int ((X11_minutesToCool_l1 g r a b N n j pp wm m).1))) ((X11_minutesToCool_l1 g r a b N n j pp wm m).2)), mV g x m 0 0 63 [(0, .ref r), (1, .int a), (2, .int b), (3, .int pp), (4, .int wm), (5, .int (nI j))] [] := by
  intro n
  induction n with
  | zero =>
    intro j pp wm m hs hN hpp hj hp
    refine v_iload (pc := 63) hX dX11_minutesToCool_63 rfl ?_
    refine v_iload_n (pc := 65) hX dX11_minutesToCool_65 rfl ?_
    refine v_icmp_le (tgt := 122) (pc := 66) hX dX11_minutesToCool_66 (by decide) (fun c1 => ?_) (fun c1 => ?_)
    ·
      refine v_aload_n (pc := 122) hX dX11_minutesToCool_122 rfl ?_
      refine v_iload (pc := 123) hX dX11_minutesToCool_123 rfl ?_
      refine v_iload_n (pc := 125) hX dX11_minutesToCool_125 rfl ?_
      refine v_icmp_le (tgt := 133) (pc := 126) hX dX11_minutesToCool_126 (by decide) (fun c2 => ?_) (fun c2 => ?_)
      ·
        refine v_iconst (v := 0) (pc := 133) hX dX11_minutesToCool_133 (by decide) ?_
        refine v_put (m1 := (sI m 384 r 0)) (pc := 134) hX dX11_minutesToCool_134 hs.k (ci := 12) (r := vwC12) rfl 0 (by decide) wd_1506 rfl rfl rfl rfl ?_
        refine v_aload_n (pc := 137) hX dX11_minutesToCool_137 rfl ?_
        refine v_get (v := .int 0) (pc := 138) hX dX11_minutesToCool_138 (by simp only [mm]; exact hs.k) (ci := 12) (r := vwC12) rfl 0 (by decide) wd_1506 (by show Value.int _ = Value.int _; simp [mm]) ?_
        refine v_if_ne (tgt := 149) (pc := 141) hX dX11_minutesToCool_141 (by decide) (fun c3 => ?_) (fun c3 => ?_)
        · exact absurd (by decide) c3
        ·
          refine v_iload (pc := 144) hX dX11_minutesToCool_144 rfl ?_
          refine v_goto (tgt := 150) (pc := 146) hX dX11_minutesToCool_146 (by decide) ?_
          exact v_iret (pc := 150) hX hZ dX11_minutesToCool_150 (by decide) (by decide) (by rw [X11_minutesToCool_l1, if_pos c1, if_pos c2] at hp; exact hp)
      ·
        refine v_iconst (v := 3) (pc := 129) hX dX11_minutesToCool_129 (by decide) ?_
        refine v_goto (tgt := 134) (pc := 130) hX dX11_minutesToCool_130 (by decide) ?_
        refine v_put (m1 := (sI m 384 r 3)) (pc := 134) hX dX11_minutesToCool_134 hs.k (ci := 12) (r := vwC12) rfl 0 (by decide) wd_1506 rfl rfl rfl rfl ?_
        refine v_aload_n (pc := 137) hX dX11_minutesToCool_137 rfl ?_
        refine v_get (v := .int 3) (pc := 138) hX dX11_minutesToCool_138 (by simp only [mm]; exact hs.k) (ci := 12) (r := vwC12) rfl 0 (by decide) wd_1506 (by show Value.int _ = Value.int _; simp [mm]) ?_
        refine v_if_ne (tgt := 149) (pc := 141) hX dX11_minutesToCool_141 (by decide) (fun c4 => ?_) (fun c4 => ?_)
        ·
          refine v_iconst (v := 0) (pc := 149) hX dX11_minutesToCool_149 (by decide) ?_
          exact v_iret (pc := 150) hX hZ dX11_minutesToCool_150 (by decide) (by decide) (by rw [X11_minutesToCool_l1, if_pos c1, if_neg c2] at hp; exact hp)
        · exact absurd c4 (by decide)
    ·
      refine v_iload (pc := 69) hX dX11_minutesToCool_69 rfl ?_
      refine v_sipush (v := 200) (pc := 71) hX dX11_minutesToCool_71 (by decide) ?_
      refine v_icmp_ge (tgt := 122) (pc := 74) hX dX11_minutesToCool_74 (by decide) (fun c5 => ?_) (fun c5 => ?_)
      ·
        refine v_aload_n (pc := 122) hX dX11_minutesToCool_122 rfl ?_
        refine v_iload (pc := 123) hX dX11_minutesToCool_123 rfl ?_
        refine v_iload_n (pc := 125) hX dX11_minutesToCool_125 rfl ?_
        refine v_icmp_le (tgt := 133) (pc := 126) hX dX11_minutesToCool_126 (by decide) (fun c6 => ?_) (fun c6 => ?_)
        ·
          refine v_iconst (v := 0) (pc := 133) hX dX11_minutesToCool_133 (by decide) ?_
          refine v_put (m1 := (sI m 384 r 0)) (pc := 134) hX dX11_minutesToCool_134 hs.k (ci := 12) (r := vwC12) rfl 0 (by decide) wd_1506 rfl rfl rfl rfl ?_
          refine v_aload_n (pc := 137) hX dX11_minutesToCool_137 rfl ?_
          refine v_get (v := .int 0) (pc := 138) hX dX11_minutesToCool_138 (by simp only [mm]; exact hs.k) (ci := 12) (r := vwC12) rfl 0 (by decide) wd_1506 (by show Value.int _ = Value.int _; simp [mm]) ?_
          refine v_if_ne (tgt := 149) (pc := 141) hX dX11_minutesToCool_141 (by decide) (fun c7 => ?_) (fun c7 => ?_)
          · exact absurd (by decide) c7
          ·
            refine v_iload (pc := 144) hX dX11_minutesToCool_144 rfl ?_
            refine v_goto (tgt := 150) (pc := 146) hX dX11_minutesToCool_146 (by decide) ?_
            exact v_iret (pc := 150) hX hZ dX11_minutesToCool_150 (by decide) (by decide) (by rw [X11_minutesToCool_l1, if_neg c1, if_pos c6] at hp; exact hp)
        ·
          refine v_iconst (v := 3) (pc := 129) hX dX11_minutesToCool_129 (by decide) ?_
          refine v_goto (tgt := 134) (pc := 130) hX dX11_minutesToCool_130 (by decide) ?_
          refine v_put (m1 := (sI m 384 r 3)) (pc := 134) hX dX11_minutesToCool_134 hs.k (ci := 12) (r := vwC12) rfl 0 (by decide) wd_1506 rfl rfl rfl rfl ?_
          refine v_aload_n (pc := 137) hX dX11_minutesToCool_137 rfl ?_
          refine v_get (v := .int 3) (pc := 138) hX dX11_minutesToCool_138 (by simp only [mm]; exact hs.k) (ci := 12) (r := vwC12) rfl 0 (by decide) wd_1506 (by show Value.int _ = Value.int _; simp [mm]) ?_
          refine v_if_ne (tgt := 149) (pc := 141) hX dX11_minutesToCool_141 (by decide) (fun c8 => ?_) (fun c8 => ?_)
          ·
            refine v_iconst (v := 0) (pc := 149) hX dX11_minutesToCool_149 (by decide) ?_
            exact v_iret (pc := 150) hX hZ dX11_minutesToCool_150 (by decide) (by decide) (by rw [X11_minutesToCool_l1, if_neg c1, if_neg c6] at hp; exact hp)
          · exact absurd c8 (by decide)
      · exact absurd (show nI 200 ≤ nI j from nI_le (by omega) (by omega)) c5
  | succ n ih =>
    intro j pp wm m hs hN hpp hj hp
    refine v_iload (pc := 63) hX dX11_minutesToCool_63 rfl ?_
    refine v_iload_n (pc := 65) hX dX11_minutesToCool_65 rfl ?_
    refine v_icmp_le (tgt := 122) (pc := 66) hX dX11_minutesToCool_66 (by decide) (fun c1 => ?_) (fun c1 => ?_)
    ·
      refine v_aload_n (pc := 122) hX dX11_minutesToCool_122 rfl ?_
      refine v_iload (pc := 123) hX dX11_minutesToCool_123 rfl ?_
      refine v_iload_n (pc := 125) hX dX11_minutesToCool_125 rfl ?_
      refine v_icmp_le (tgt := 133) (pc := 126) hX dX11_minutesToCool_126 (by decide) (fun c2 => ?_) (fun c2 => ?_)
      ·
        refine v_iconst (v := 0) (pc := 133) hX dX11_minutesToCool_133 (by decide) ?_
        refine v_put (m1 := (sI m 384 r 0)) (pc := 134) hX dX11_minutesToCool_134 hs.k (ci := 12) (r := vwC12) rfl 0 (by decide) wd_1506 rfl rfl rfl rfl ?_
        refine v_aload_n (pc := 137) hX dX11_minutesToCool_137 rfl ?_
        refine v_get (v := .int 0) (pc := 138) hX dX11_minutesToCool_138 (by simp only [mm]; exact hs.k) (ci := 12) (r := vwC12) rfl 0 (by decide) wd_1506 (by show Value.int _ = Value.int _; simp [mm]) ?_
        refine v_if_ne (tgt := 149) (pc := 141) hX dX11_minutesToCool_141 (by decide) (fun c3 => ?_) (fun c3 => ?_)
        · exact absurd (by decide) c3
        ·
          refine v_iload (pc := 144) hX dX11_minutesToCool_144 rfl ?_
          refine v_goto (tgt := 150) (pc := 146) hX dX11_minutesToCool_146 (by decide) ?_
          exact v_iret (pc := 150) hX hZ dX11_minutesToCool_150 (by decide) (by decide) (by rw [X11_minutesToCool_l1, if_pos c1, if_pos c2] at hp; exact hp)
      ·
        refine v_iconst (v := 3) (pc := 129) hX dX11_minutesToCool_129 (by decide) ?_
        refine v_goto (tgt := 134) (pc := 130) hX dX11_minutesToCool_130 (by decide) ?_
        refine v_put (m1 := (sI m 384 r 3)) (pc := 134) hX dX11_minutesToCool_134 hs.k (ci := 12) (r := vwC12) rfl 0 (by decide) wd_1506 rfl rfl rfl rfl ?_
        refine v_aload_n (pc := 137) hX dX11_minutesToCool_137 rfl ?_
        refine v_get (v := .int 3) (pc := 138) hX dX11_minutesToCool_138 (by simp only [mm]; exact hs.k) (ci := 12) (r := vwC12) rfl 0 (by decide) wd_1506 (by show Value.int _ = Value.int _; simp [mm]) ?_
        refine v_if_ne (tgt := 149) (pc := 141) hX dX11_minutesToCool_141 (by decide) (fun c4 => ?_) (fun c4 => ?_)
        ·
          refine v_iconst (v := 0) (pc := 149) hX dX11_minutesToCool_149 (by decide) ?_
          exact v_iret (pc := 150) hX hZ dX11_minutesToCool_150 (by decide) (by decide) (by rw [X11_minutesToCool_l1, if_pos c1, if_neg c2] at hp; exact hp)
        · exact absurd c4 (by decide)
    ·
      refine v_iload (pc := 69) hX dX11_minutesToCool_69 rfl ?_
      refine v_sipush (v := 200) (pc := 71) hX dX11_minutesToCool_71 (by decide) ?_
      refine v_icmp_ge (tgt := 122) (pc := 74) hX dX11_minutesToCool_74 (by decide) (fun c5 => ?_) (fun c5 => ?_)
      · exact absurd c5 (show ¬ nI 200 ≤ nI j from nI_ge (by omega) (by omega))
      ·
        have hpp2 := hpp.2
        refine v_aload_n (pc := 77) hX dX11_minutesToCool_77 rfl ?_
        refine v_get (v := .ref (r + 5)) (pc := 78) hX dX11_minutesToCool_78 hs.k (ci := 12) (r := vwC12) rfl 9 (by decide) wd_1515 (fvA rfl hs.r5) ?_
        refine v_callS (z := yX11_burns) (pc := 81) hX dX11_minutesToCool_81 (c_X11_burns hO m (r + 5) 16 hs.k5 (by decide) (by decide)) wd_1623 wd_1624 wd_16 wd_1625 ⟨by decide, by decide, (by decide +kernel : (parseMethodDescriptor yX11_burns.desc).map (fun d => d.parameters.length) = some 1)⟩ rfl (Nat.le_of_ble_eq_true rfl) ⟨⟨by decide, by decide⟩, by decide, by decide⟩ (fun E m9 h9 => h9.elim) (fun r9 m9 h9 => ?_)
        obtain ⟨rfl, h8⟩ := h9
        replace h8 := h8.symm
        subst h8
        show mV g x _ _ _ _ _ []
        refine v_iload (pc := 84) hX dX11_minutesToCool_84 rfl ?_
        refine v_aload_n (pc := 86) hX dX11_minutesToCool_86 rfl ?_
        refine v_get (v := .ref (r + 1)) (pc := 87) hX dX11_minutesToCool_87 (by simp only [mm, kK_X11_burns]; exact hs.k) (ci := 12) (r := vwC12) rfl 5 (by decide) wd_1511 (fvA rfl (by simp [mm, kR_X11_burns, hs.r1])) ?_
        refine v_iload_n (pc := 90) hX dX11_minutesToCool_90 rfl ?_
        refine v_iconst (v := 5) (pc := 91) hX dX11_minutesToCool_91 (by decide) ?_
        refine v_callS (z := yX11_of) (pc := 92) hX dX11_minutesToCool_92 (c_of2 hO ((X11_burns_m g m (r + 5) 16)) pp pp.toNatClampNeg 5 hpp.1) wd_1626 wd_1627 wd_16 wd_1628 ⟨by decide, by decide, (by decide +kernel : (parseMethodDescriptor yX11_of.desc).map (fun d => d.parameters.length) = some 2)⟩ rfl (Nat.le_of_ble_eq_true rfl) ⟨⟨by decide, by decide⟩, by decide, by decide⟩ (fun E m9 h9 => h9.elim) (fun r9 m9 h9 => ?_)
        obtain ⟨rfl, h8⟩ := h9
        replace h8 := h8.symm
        subst h8
        show mV g x _ _ _ _ _ [.int (nI (8 * pp.toNatClampNeg + 18)), .ref (r + 1), .int wm]
        refine v_iald (j := 8 * pp.toNatClampNeg + 18) (v := (gA m (r + 1) (8 * pp.toNatClampNeg + 18))) (pc := 95) hX dX11_minutesToCool_95 (by simp only [mm, kK_X11_burns]; exact hs.k1) rfl (by omega) (by decide) (((kA_X11_burns g m (r + 5) 16 (r + 1) (8 * pp.toNatClampNeg + 18) (by omega)).trans rfl)) ?_
        refine v_iconst (v := 1) (pc := 96) hX dX11_minutesToCool_96 (by decide) ?_
        refine v_icmp_ne (tgt := 104) (pc := 97) hX dX11_minutesToCool_97 (by decide) (fun c6 => ?_) (fun c6 => ?_)
        ·
          refine v_iconst (v := 0) (pc := 104) hX dX11_minutesToCool_104 (by decide) ?_
          refine v_aload_n (pc := 105) hX dX11_minutesToCool_105 rfl ?_
          refine v_get (v := .ref (r + 5)) (pc := 106) hX dX11_minutesToCool_106 (by simp only [mm, kK_X11_burns]; exact hs.k) (ci := 12) (r := vwC12) rfl 9 (by decide) wd_1515 (fvA rfl (by simp [mm, kR_X11_burns, hs.r5])) ?_
          refine v_iconst (v := 1) (pc := 109) hX dX11_minutesToCool_109 (by decide) ?_
          refine v_iald (j := 1) (v := (gA ((X11_burns_m g m (r + 5) 16)) (r + 5) (1))) (pc := 110) hX dX11_minutesToCool_110 (by simp only [mm, kK_X11_burns]; exact hs.k5) rfl (by decide) (by decide) rfl ?_
          refine v_callS (z := yX11_later) (pc := 111) hX dX11_minutesToCool_111 (c_lat hO ((X11_burns_m g m (r + 5) 16)) wm 0 (gA ((X11_burns_m g m (r + 5) 16)) (r + 5) (1))) wd_1629 wd_1630 wd_16 wd_1631 ⟨by decide, by decide, (by decide +kernel : (parseMethodDescriptor yX11_later.desc).map (fun d => d.parameters.length) = some 3)⟩ rfl (Nat.le_of_ble_eq_true rfl) ⟨⟨by decide, by decide⟩, by decide, by decide⟩ (fun E m9 h9 => h9.elim) (fun r9 m9 h9 => ?_)
          obtain ⟨rfl, h8⟩ := h9
          replace h8 := h8.symm
          subst h8
          show mV g x _ _ _ _ _ [.int (lat wm 0 (gA ((X11_burns_m g m (r + 5) 16)) (r + 5) (1)))]
          refine v_istore (pc := 114) hX dX11_minutesToCool_114 (by decide) rfl ?_
          refine v_iinc (w := nI (j + 1)) (pc := 116) hX dX11_minutesToCool_116 rfl (nI_1 _) (by decide) rfl ?_
          refine v_goto (tgt := 63) (pc := 119) hX dX11_minutesToCool_119 (by decide) ?_
          refine mV_sub (lv' := [(0, .ref r), (1, .int a), (2, .int b), (3, .int pp), (4, .int (lat wm 0 (gA ((X11_burns_m g m (r + 5) 16)) (r + 5) (1)))), (5, .int (nI (j + 1)))]) ⟨rfl, rfl, rfl, rfl, rfl, rfl, trivial⟩ ?_
          exact ih (j + 1) pp (lat wm 0 (gA ((X11_burns_m g m (r + 5) 16)) (r + 5) (1))) ((X11_burns_m g m (r + 5) 16)) (hs.to (by simp only [mm, kK_X11_burns]) (by simp only [mm, kR_X11_burns])) (((kA_X11_burns g m (r + 5) 16 (r + 1) (5) (by omega)).trans rfl).trans hN) hpp (by omega) (by rw [X11_minutesToCool_l1, if_neg c1, if_neg c6] at hp; exact hp)
        ·
          refine v_iconst (v := 1) (pc := 100) hX dX11_minutesToCool_100 (by decide) ?_
          refine v_goto (tgt := 105) (pc := 101) hX dX11_minutesToCool_101 (by decide) ?_
          refine v_aload_n (pc := 105) hX dX11_minutesToCool_105 rfl ?_
          refine v_get (v := .ref (r + 5)) (pc := 106) hX dX11_minutesToCool_106 (by simp only [mm, kK_X11_burns]; exact hs.k) (ci := 12) (r := vwC12) rfl 9 (by decide) wd_1515 (fvA rfl (by simp [mm, kR_X11_burns, hs.r5])) ?_
          refine v_iconst (v := 1) (pc := 109) hX dX11_minutesToCool_109 (by decide) ?_
          refine v_iald (j := 1) (v := (gA ((X11_burns_m g m (r + 5) 16)) (r + 5) (1))) (pc := 110) hX dX11_minutesToCool_110 (by simp only [mm, kK_X11_burns]; exact hs.k5) rfl (by decide) (by decide) rfl ?_
          refine v_callS (z := yX11_later) (pc := 111) hX dX11_minutesToCool_111 (c_lat hO ((X11_burns_m g m (r + 5) 16)) wm 1 (gA ((X11_burns_m g m (r + 5) 16)) (r + 5) (1))) wd_1629 wd_1630 wd_16 wd_1631 ⟨by decide, by decide, (by decide +kernel : (parseMethodDescriptor yX11_later.desc).map (fun d => d.parameters.length) = some 3)⟩ rfl (Nat.le_of_ble_eq_true rfl) ⟨⟨by decide, by decide⟩, by decide, by decide⟩ (fun E m9 h9 => h9.elim) (fun r9 m9 h9 => ?_)
          obtain ⟨rfl, h8⟩ := h9
          replace h8 := h8.symm
          subst h8
          show mV g x _ _ _ _ _ [.int (lat wm 1 (gA ((X11_burns_m g m (r + 5) 16)) (r + 5) (1)))]
          refine v_istore (pc := 114) hX dX11_minutesToCool_114 (by decide) rfl ?_
          refine v_iinc (w := nI (j + 1)) (pc := 116) hX dX11_minutesToCool_116 rfl (nI_1 _) (by decide) rfl ?_
          refine v_goto (tgt := 63) (pc := 119) hX dX11_minutesToCool_119 (by decide) ?_
          refine mV_sub (lv' := [(0, .ref r), (1, .int a), (2, .int b), (3, .int pp), (4, .int (lat wm 1 (gA ((X11_burns_m g m (r + 5) 16)) (r + 5) (1)))), (5, .int (nI (j + 1)))]) ⟨rfl, rfl, rfl, rfl, rfl, rfl, trivial⟩ ?_
          exact ih (j + 1) pp (lat wm 1 (gA ((X11_burns_m g m (r + 5) 16)) (r + 5) (1))) ((X11_burns_m g m (r + 5) 16)) (hs.to (by simp only [mm, kK_X11_burns]) (by simp only [mm, kR_X11_burns])) (((kA_X11_burns g m (r + 5) 16 (r + 1) (5) (by omega)).trans rfl).trans hN) hpp (by omega) (by rw [X11_minutesToCool_l1, if_neg c1, if_pos c6] at hp; exact hp)
theorem kK_X11_minutesToCool_l1 (g : mG) (r : Nat) (a : Int32) (b : Int32) (N : Nat) : ∀ (n j : Nat) (pp : Int32) (wm : Int32) (m : mM), gK ((X11_minutesToCool_l1 g r a b N n j pp wm m).2) = gK m := by
  intro n
  induction n with
  | zero =>
    intro j pp wm m
    rw [X11_minutesToCool_l1]
    repeat' split
    all_goals simp only [mm, kK_X11_burns]
  | succ n ih =>
    intro j pp wm m
    rw [X11_minutesToCool_l1]
    repeat' split
    all_goals simp only [mm, ih, kK_X11_burns]
theorem kN_X11_minutesToCool_l1 (g : mG) (r : Nat) (a : Int32) (b : Int32) (N : Nat) : ∀ (n j : Nat) (pp : Int32) (wm : Int32) (m : mM), gN ((X11_minutesToCool_l1 g r a b N n j pp wm m).2) = gN m := by
  intro n
  induction n with
  | zero =>
    intro j pp wm m
    rw [X11_minutesToCool_l1]
    repeat' split
    all_goals simp only [mm, kN_X11_burns]
  | succ n ih =>
    intro j pp wm m
    rw [X11_minutesToCool_l1]
    repeat' split
    all_goals simp only [mm, ih, kN_X11_burns]
theorem kI_X11_minutesToCool_l1 (g : mG) (r : Nat) (a : Int32) (b : Int32) (N : Nat) (k a9 : Nat) (h0 : k ≠ 384) : ∀ (n j : Nat) (pp : Int32) (wm : Int32) (m : mM), gI ((X11_minutesToCool_l1 g r a b N n j pp wm m).2) k a9 = gI m k a9 := by
  intro n
  induction n with
  | zero =>
    intro j pp wm m
    rw [X11_minutesToCool_l1]
    repeat' split
    all_goals simp [mm, kI_X11_burns, h0]
  | succ n ih =>
    intro j pp wm m
    rw [X11_minutesToCool_l1]
    repeat' split
    all_goals simp [mm, ih, kI_X11_burns, h0]
theorem kJ_X11_minutesToCool_l1 (g : mG) (r : Nat) (a : Int32) (b : Int32) (N : Nat) : ∀ (n j : Nat) (pp : Int32) (wm : Int32) (m : mM), gJ ((X11_minutesToCool_l1 g r a b N n j pp wm m).2) = gJ m := by
  intro n
  induction n with
  | zero =>
    intro j pp wm m
    rw [X11_minutesToCool_l1]
    repeat' split
    all_goals simp only [mm, kJ_X11_burns]
  | succ n ih =>
    intro j pp wm m
    rw [X11_minutesToCool_l1]
    repeat' split
    all_goals simp only [mm, ih, kJ_X11_burns]
theorem kR_X11_minutesToCool_l1 (g : mG) (r : Nat) (a : Int32) (b : Int32) (N : Nat) : ∀ (n j : Nat) (pp : Int32) (wm : Int32) (m : mM), gR ((X11_minutesToCool_l1 g r a b N n j pp wm m).2) = gR m := by
  intro n
  induction n with
  | zero =>
    intro j pp wm m
    rw [X11_minutesToCool_l1]
    repeat' split
    all_goals simp only [mm, kR_X11_burns]
  | succ n ih =>
    intro j pp wm m
    rw [X11_minutesToCool_l1]
    repeat' split
    all_goals simp only [mm, ih, kR_X11_burns]
theorem kQ_X11_minutesToCool_l1 (g : mG) (r : Nat) (a : Int32) (b : Int32) (N : Nat) : ∀ (n j : Nat) (pp : Int32) (wm : Int32) (m : mM), gQ ((X11_minutesToCool_l1 g r a b N n j pp wm m).2) = gQ m := by
  intro n
  induction n with
  | zero =>
    intro j pp wm m
    rw [X11_minutesToCool_l1]
    repeat' split
    all_goals simp only [mm, kQ_X11_burns]
  | succ n ih =>
    intro j pp wm m
    rw [X11_minutesToCool_l1]
    repeat' split
    all_goals simp only [mm, ih, kQ_X11_burns]
theorem kL_X11_minutesToCool_l1 (g : mG) (r : Nat) (a : Int32) (b : Int32) (N : Nat) : ∀ (n j : Nat) (pp : Int32) (wm : Int32) (m : mM), gL ((X11_minutesToCool_l1 g r a b N n j pp wm m).2) = gL m := by
  intro n
  induction n with
  | zero =>
    intro j pp wm m
    rw [X11_minutesToCool_l1]
    repeat' split
    all_goals simp only [mm, kL_X11_burns]
  | succ n ih =>
    intro j pp wm m
    rw [X11_minutesToCool_l1]
    repeat' split
    all_goals simp only [mm, ih, kL_X11_burns]
theorem kD_X11_minutesToCool_l1 (g : mG) (r : Nat) (a : Int32) (b : Int32) (N : Nat) : ∀ (n j : Nat) (pp : Int32) (wm : Int32) (m : mM), gD ((X11_minutesToCool_l1 g r a b N n j pp wm m).2) = gD m := by
  intro n
  induction n with
  | zero =>
    intro j pp wm m
    rw [X11_minutesToCool_l1]
    repeat' split
    all_goals simp only [mm, kD_X11_burns]
  | succ n ih =>
    intro j pp wm m
    rw [X11_minutesToCool_l1]
    repeat' split
    all_goals simp only [mm, ih, kD_X11_burns]
theorem kA_X11_minutesToCool_l1 (g : mG) (r : Nat) (a : Int32) (b : Int32) (N : Nat) (c9 i9 : Nat) (h0 : c9 ≠ r + 5) : ∀ (n j : Nat) (pp : Int32) (wm : Int32) (m : mM), gA ((X11_minutesToCool_l1 g r a b N n j pp wm m).2) c9 i9 = gA m c9 i9 := by
  intro n
  induction n with
  | zero =>
    intro j pp wm m
    rw [X11_minutesToCool_l1]
    repeat' split
    all_goals simp [mm, kA_X11_burns, h0]
  | succ n ih =>
    intro j pp wm m
    rw [X11_minutesToCool_l1]
    repeat' split
    all_goals simp [mm, ih, kA_X11_burns, h0]
def X11_minutesToCool_r (g : mG) (m : mM) (r : Nat) (a : Int32) (b : Int32) (N : Nat) : Int32 := (if 0 ≤ (X11_find_r g m r a N) then (if (isI b 20 1200) = 0 then ((0, (sI m 384 r 2))) else (X11_minutesToCool_l1 g r a b N 200 0 (X11_find_r g m r a N) (gA m (r + 1) (8 * ((X11_find_r g m r a N).toNatClampNeg) + 15)) ((X11_thinks_m g ((sI m 384 r 0)) r )))) else ((0, (sI m 384 r 1)))).1
def X11_minutesToCool_m (g : mG) (m : mM) (r : Nat) (a : Int32) (b : Int32) (N : Nat) : mM := (if 0 ≤ (X11_find_r g m r a N) then (if (isI b 20 1200) = 0 then ((0, (sI m 384 r 2))) else (X11_minutesToCool_l1 g r a b N 200 0 (X11_find_r g m r a N) (gA m (r + 1) (8 * ((X11_find_r g m r a N).toNatClampNeg) + 15)) ((X11_thinks_m g ((sI m 384 r 0)) r )))) else ((0, (sI m 384 r 1)))).2
theorem kK_X11_minutesToCool (g : mG) (m : mM) (r : Nat) (a : Int32) (b : Int32) (N : Nat) : gK (X11_minutesToCool_m g m r a b N) = gK m := by
  unfold X11_minutesToCool_m
  repeat' split
  all_goals simp only [mm, kK_X11_minutesToCool_l1, kK_X11_thinks]
theorem kN_X11_minutesToCool (g : mG) (m : mM) (r : Nat) (a : Int32) (b : Int32) (N : Nat) : gN (X11_minutesToCool_m g m r a b N) = gN m := by
  unfold X11_minutesToCool_m
  repeat' split
  all_goals simp only [mm, kN_X11_minutesToCool_l1, kN_X11_thinks]
theorem kI_X11_minutesToCool (g : mG) (m : mM) (r : Nat) (a : Int32) (b : Int32) (N : Nat) (k a9 : Nat) (h0 : k ≠ 384) : gI (X11_minutesToCool_m g m r a b N) k a9 = gI m k a9 := by
  unfold X11_minutesToCool_m
  repeat' split
  all_goals simp [mm, kI_X11_minutesToCool_l1, kI_X11_thinks, h0]
theorem kJ_X11_minutesToCool (g : mG) (m : mM) (r : Nat) (a : Int32) (b : Int32) (N : Nat) : gJ (X11_minutesToCool_m g m r a b N) = gJ m := by
  unfold X11_minutesToCool_m
  repeat' split
  all_goals simp only [mm, kJ_X11_minutesToCool_l1, kJ_X11_thinks]
theorem kR_X11_minutesToCool (g : mG) (m : mM) (r : Nat) (a : Int32) (b : Int32) (N : Nat) : gR (X11_minutesToCool_m g m r a b N) = gR m := by
  unfold X11_minutesToCool_m
  repeat' split
  all_goals simp only [mm, kR_X11_minutesToCool_l1, kR_X11_thinks]
theorem kQ_X11_minutesToCool (g : mG) (m : mM) (r : Nat) (a : Int32) (b : Int32) (N : Nat) : gQ (X11_minutesToCool_m g m r a b N) = gQ m := by
  unfold X11_minutesToCool_m
  repeat' split
  all_goals simp only [mm, kQ_X11_minutesToCool_l1, kQ_X11_thinks]
theorem kL_X11_minutesToCool (g : mG) (m : mM) (r : Nat) (a : Int32) (b : Int32) (N : Nat) : gL (X11_minutesToCool_m g m r a b N) = gL m := by
  unfold X11_minutesToCool_m
  repeat' split
  all_goals simp only [mm, kL_X11_minutesToCool_l1, kL_X11_thinks]
theorem kD_X11_minutesToCool (g : mG) (m : mM) (r : Nat) (a : Int32) (b : Int32) (N : Nat) : gD (X11_minutesToCool_m g m r a b N) = gD m := by
  unfold X11_minutesToCool_m
  repeat' split
  all_goals simp only [mm, kD_X11_minutesToCool_l1, kD_X11_thinks]
theorem kA_X11_minutesToCool (g : mG) (m : mM) (r : Nat) (a : Int32) (b : Int32) (N : Nat) (c9 i9 : Nat) (h0 : c9 ≠ r + 5) : gA (X11_minutesToCool_m g m r a b N) c9 i9 = gA m c9 i9 := by
  unfold X11_minutesToCool_m
  repeat' split
  all_goals simp [mm, kA_X11_minutesToCool_l1, kA_X11_thinks, h0]
set_option maxHeartbeats 4000000 in
set_option maxRecDepth 100000 in
theorem c_X11_minutesToCool {l : Launch} {g : mG} (hO : mO l g) (m : mM) (r : Nat) (a : Int32) (b : Int32) (N : Nat) (hs : SR m r) (hN : gA m (r + 1) 5 = nI N) (hN8 : N ≤ 8) : mT l g yX11_minutesToCool (.code yX11_minutesToCool cX11_minutesToCool 6 (Option.some FieldType.int)) 3 63 0 0 [.ref r, .int a, .int b] m (fun u m' => u = some (.int (X11_minutesToCool_r g m r a b N)) ∧ m' = X11_minutesToCool_m g m r a b N) nX := by
  refine mT_of hO (by decide) (Nat.le_of_ble_eq_true rfl) (fun x hX hZ => ?_)
  show mV g x m 0 0 0 [(0, .ref r), (1, .int a), (2, .int b)] []
  refine v_aload_n (pc := 0) hX dX11_minutesToCool_0 rfl ?_
  refine v_iload_n (pc := 1) hX dX11_minutesToCool_1 rfl ?_
  refine v_callV (z := yX11_find) (pc := 2) hX dX11_minutesToCool_2 (c_X11_find hO m r a N hs hN hN8) hs.k rfl wd_1652 wd_1654 wp_26 wd_16 wd_1655 ⟨by decide, by decide, (by decide +kernel : (parseMethodDescriptor yX11_find.desc).map (fun d => d.parameters.length) = some 1)⟩ rfl (Nat.le_of_ble_eq_true rfl) ⟨⟨by decide, by decide⟩, by decide, by decide⟩ (fun E m9 h9 => h9.elim) (fun r9 m9 h9 => ?_)
  obtain ⟨rfl, h8⟩ := h9
  replace h8 := h8.symm
  subst h8
  show mV g x _ _ _ _ _ [.int (X11_find_r g m r a N)]
  refine v_istore_n (pc := 5) hX dX11_minutesToCool_5 (by decide) rfl ?_
  refine v_aload_n (pc := 6) hX dX11_minutesToCool_6 rfl ?_
  refine v_iload_n (pc := 7) hX dX11_minutesToCool_7 rfl ?_
  refine v_if_ge (tgt := 15) (pc := 8) hX dX11_minutesToCool_8 (by decide) (fun c1 => ?_) (fun c1 => ?_)
  ·
    refine v_iload_n (pc := 15) hX dX11_minutesToCool_15 rfl ?_
    refine v_bipush (v := 20) (pc := 16) hX dX11_minutesToCool_16 (by decide) ?_
    refine v_sipush (v := 1200) (pc := 18) hX dX11_minutesToCool_18 (by decide) ?_
    refine v_callS (z := yX11_isIn) (pc := 21) hX dX11_minutesToCool_21 (c_isI hO m b 20 1200) wd_1592 wd_1593 wd_16 wd_1594 ⟨by decide, by decide, (by decide +kernel : (parseMethodDescriptor yX11_isIn.desc).map (fun d => d.parameters.length) = some 3)⟩ rfl (Nat.le_of_ble_eq_true rfl) ⟨⟨by decide, by decide⟩, by decide, by decide⟩ (fun E m9 h9 => h9.elim) (fun r9 m9 h9 => ?_)
    obtain ⟨rfl, h8⟩ := h9
    replace h8 := h8.symm
    subst h8
    show mV g x _ _ _ _ _ [.int (isI b 20 1200), .ref r]
    refine v_if_eq (tgt := 31) (pc := 24) hX dX11_minutesToCool_24 (by decide) (fun c2 => ?_) (fun c2 => ?_)
    ·
      refine v_iconst (v := 2) (pc := 31) hX dX11_minutesToCool_31 (by decide) ?_
      refine v_put (m1 := (sI m 384 r 2)) (pc := 32) hX dX11_minutesToCool_32 hs.k (ci := 12) (r := vwC12) rfl 0 (by decide) wd_1506 rfl rfl rfl rfl ?_
      refine v_aload_n (pc := 35) hX dX11_minutesToCool_35 rfl ?_
      refine v_get (v := .int 2) (pc := 36) hX dX11_minutesToCool_36 (by simp only [mm]; exact hs.k) (ci := 12) (r := vwC12) rfl 0 (by decide) wd_1506 (by show Value.int _ = Value.int _; simp [mm]) ?_
      refine v_if_eq (tgt := 44) (pc := 39) hX dX11_minutesToCool_39 (by decide) (fun c3 => ?_) (fun c3 => ?_)
      · exact absurd c3 (by decide)
      ·
        refine v_iconst (v := 0) (pc := 42) hX dX11_minutesToCool_42 (by decide) ?_
        exact v_iret (pc := 43) hX hZ dX11_minutesToCool_43 (by decide) (by decide) ⟨(by rw [X11_minutesToCool_r, if_pos c1, if_pos c2]), (by rw [X11_minutesToCool_m, if_pos c1, if_pos c2])⟩
    ·
      refine v_iconst (v := 0) (pc := 27) hX dX11_minutesToCool_27 (by decide) ?_
      refine v_goto (tgt := 32) (pc := 28) hX dX11_minutesToCool_28 (by decide) ?_
      refine v_put (m1 := (sI m 384 r 0)) (pc := 32) hX dX11_minutesToCool_32 hs.k (ci := 12) (r := vwC12) rfl 0 (by decide) wd_1506 rfl rfl rfl rfl ?_
      refine v_aload_n (pc := 35) hX dX11_minutesToCool_35 rfl ?_
      refine v_get (v := .int 0) (pc := 36) hX dX11_minutesToCool_36 (by simp only [mm]; exact hs.k) (ci := 12) (r := vwC12) rfl 0 (by decide) wd_1506 (by show Value.int _ = Value.int _; simp [mm]) ?_
      refine v_if_eq (tgt := 44) (pc := 39) hX dX11_minutesToCool_39 (by decide) (fun c4 => ?_) (fun c4 => ?_)
      ·
        refine v_aload_n (pc := 44) hX dX11_minutesToCool_44 rfl ?_
        refine v_callV (z := yX11_thinks) (pc := 45) hX dX11_minutesToCool_45 (c_X11_thinks hO ((sI m 384 r 0)) r  (hs.to (by simp only [mm]) (by simp only [mm]))) (by simp only [mm]; exact hs.k) rfl wd_1772 wd_1774 wp_43 wd_16 wd_1775 ⟨by decide, by decide, (by decide +kernel : (parseMethodDescriptor yX11_thinks.desc).map (fun d => d.parameters.length) = some 0)⟩ rfl (Nat.le_of_ble_eq_true rfl) ⟨⟨by decide, by decide⟩, by decide, by decide⟩ (fun E m9 h9 => h9.elim) (fun r9 m9 h9 => ?_)
        obtain ⟨rfl, h8⟩ := h9
        replace h8 := h8.symm
        subst h8
        show mV g x _ _ _ _ _ []
        refine v_aload_n (pc := 48) hX dX11_minutesToCool_48 rfl ?_
        refine v_get (v := .ref (r + 1)) (pc := 49) hX dX11_minutesToCool_49 (by simp only [mm, kK_X11_thinks]; exact hs.k) (ci := 12) (r := vwC12) rfl 5 (by decide) wd_1511 (fvA rfl (by simp [mm, kR_X11_thinks, hs.r1])) ?_
        refine v_iload_n (pc := 52) hX dX11_minutesToCool_52 rfl ?_
        refine v_iconst (v := 2) (pc := 53) hX dX11_minutesToCool_53 (by decide) ?_
        have hpo := fd_ge (g := g) (m := m) (r := r) (a := a) hN8 (by assumption)
        have hpo2 := hpo.1.2
        refine v_callS (z := yX11_of) (pc := 54) hX dX11_minutesToCool_54 (c_of2 hO ((X11_thinks_m g ((sI m 384 r 0)) r )) (X11_find_r g m r a N) ((X11_find_r g m r a N).toNatClampNeg) 2 hpo.1.1) wd_1626 wd_1627 wd_16 wd_1628 ⟨by decide, by decide, (by decide +kernel : (parseMethodDescriptor yX11_of.desc).map (fun d => d.parameters.length) = some 2)⟩ rfl (Nat.le_of_ble_eq_true rfl) ⟨⟨by decide, by decide⟩, by decide, by decide⟩ (fun E m9 h9 => h9.elim) (fun r9 m9 h9 => ?_)
        obtain ⟨rfl, h8⟩ := h9
        replace h8 := h8.symm
        subst h8
        show mV g x _ _ _ _ _ [.int (nI (8 * ((X11_find_r g m r a N).toNatClampNeg) + 15)), .ref (r + 1)]
        refine v_iald (j := 8 * ((X11_find_r g m r a N).toNatClampNeg) + 15) (v := (gA m (r + 1) (8 * ((X11_find_r g m r a N).toNatClampNeg) + 15))) (pc := 57) hX dX11_minutesToCool_57 (by simp only [mm, kK_X11_thinks]; exact hs.k1) rfl (by omega) (by decide) (((kA_X11_thinks g (sI m 384 r 0) r (r + 1) (8 * ((X11_find_r g m r a N).toNatClampNeg) + 15) (by omega)).trans rfl)) ?_
        refine v_istore (pc := 58) hX dX11_minutesToCool_58 (by decide) rfl ?_
        refine v_iconst (v := 0) (pc := 60) hX dX11_minutesToCool_60 (by decide) ?_
        refine v_istore (pc := 61) hX dX11_minutesToCool_61 (by decide) rfl ?_
        refine mV_sub (lv' := [(0, .ref r), (1, .int a), (2, .int b), (3, .int (X11_find_r g m r a N)), (4, .int (gA m (r + 1) (8 * ((X11_find_r g m r a N).toNatClampNeg) + 15))), (5, .int (nI 0))]) ⟨rfl, rfl, rfl, rfl, rfl, rfl, trivial⟩ ?_
        exact lp_X11_minutesToCool_l1 hO r a b N hN8 hX hZ 200 0 (X11_find_r g m r a N) (gA m (r + 1) (8 * ((X11_find_r g m r a N).toNatClampNeg) + 15)) ((X11_thinks_m g ((sI m 384 r 0)) r )) (hs.to (by simp only [mm, kK_X11_thinks]) (by simp only [mm, kR_X11_thinks])) (((kA_X11_thinks g (sI m 384 r 0) r (r + 1) (5) (by omega)).trans rfl).trans hN) (fd_ge (g := g) (m := m) (r := r) (a := a) hN8 (by assumption)).1 (by omega) ⟨(by rw [X11_minutesToCool_r, if_pos c1, if_neg c2]), (by rw [X11_minutesToCool_m, if_pos c1, if_neg c2])⟩
      · exact absurd (by decide) c4
  ·
    refine v_iconst (v := 1) (pc := 11) hX dX11_minutesToCool_11 (by decide) ?_
    refine v_goto (tgt := 32) (pc := 12) hX dX11_minutesToCool_12 (by decide) ?_
    refine v_put (m1 := (sI m 384 r 1)) (pc := 32) hX dX11_minutesToCool_32 hs.k (ci := 12) (r := vwC12) rfl 0 (by decide) wd_1506 rfl rfl rfl rfl ?_
    refine v_aload_n (pc := 35) hX dX11_minutesToCool_35 rfl ?_
    refine v_get (v := .int 1) (pc := 36) hX dX11_minutesToCool_36 (by simp only [mm]; exact hs.k) (ci := 12) (r := vwC12) rfl 0 (by decide) wd_1506 (by show Value.int _ = Value.int _; simp [mm]) ?_
    refine v_if_eq (tgt := 44) (pc := 39) hX dX11_minutesToCool_39 (by decide) (fun c5 => ?_) (fun c5 => ?_)
    · exact absurd c5 (by decide)
    ·
      refine v_iconst (v := 0) (pc := 42) hX dX11_minutesToCool_42 (by decide) ?_
      exact v_iret (pc := 43) hX hZ dX11_minutesToCool_43 (by decide) (by decide) ⟨(by rw [X11_minutesToCool_r, if_neg c1]), (by rw [X11_minutesToCool_m, if_neg c1])⟩
def X11_minutesToCoolAlone_r (g : mG) (m : mM) (r : Nat) (a : Int32) (b : Int32) (N : Nat) : Int32 := X11_minutesToCool_r g m r a b N
def X11_minutesToCoolAlone_m (g : mG) (m : mM) (r : Nat) (a : Int32) (b : Int32) (N : Nat) : mM := (X11_minutesToCool_m g m r a b N)
theorem kK_X11_minutesToCoolAlone (g : mG) (m : mM) (r : Nat) (a : Int32) (b : Int32) (N : Nat) : gK (X11_minutesToCoolAlone_m g m r a b N) = gK m := by
  unfold X11_minutesToCoolAlone_m
  repeat' split
  all_goals simp only [mm, kK_X11_minutesToCool]
theorem kN_X11_minutesToCoolAlone (g : mG) (m : mM) (r : Nat) (a : Int32) (b : Int32) (N : Nat) : gN (X11_minutesToCoolAlone_m g m r a b N) = gN m := by
  unfold X11_minutesToCoolAlone_m
  repeat' split
  all_goals simp only [mm, kN_X11_minutesToCool]
theorem kI_X11_minutesToCoolAlone (g : mG) (m : mM) (r : Nat) (a : Int32) (b : Int32) (N : Nat) (k a9 : Nat) (h0 : k ≠ 384) : gI (X11_minutesToCoolAlone_m g m r a b N) k a9 = gI m k a9 := by
  unfold X11_minutesToCoolAlone_m
  repeat' split
  all_goals simp [mm, kI_X11_minutesToCool, h0]
theorem kJ_X11_minutesToCoolAlone (g : mG) (m : mM) (r : Nat) (a : Int32) (b : Int32) (N : Nat) : gJ (X11_minutesToCoolAlone_m g m r a b N) = gJ m := by
  unfold X11_minutesToCoolAlone_m
  repeat' split
  all_goals simp only [mm, kJ_X11_minutesToCool]
theorem kR_X11_minutesToCoolAlone (g : mG) (m : mM) (r : Nat) (a : Int32) (b : Int32) (N : Nat) : gR (X11_minutesToCoolAlone_m g m r a b N) = gR m := by
  unfold X11_minutesToCoolAlone_m
  repeat' split
  all_goals simp only [mm, kR_X11_minutesToCool]
theorem kQ_X11_minutesToCoolAlone (g : mG) (m : mM) (r : Nat) (a : Int32) (b : Int32) (N : Nat) : gQ (X11_minutesToCoolAlone_m g m r a b N) = gQ m := by
  unfold X11_minutesToCoolAlone_m
  repeat' split
  all_goals simp only [mm, kQ_X11_minutesToCool]
theorem kL_X11_minutesToCoolAlone (g : mG) (m : mM) (r : Nat) (a : Int32) (b : Int32) (N : Nat) : gL (X11_minutesToCoolAlone_m g m r a b N) = gL m := by
  unfold X11_minutesToCoolAlone_m
  repeat' split
  all_goals simp only [mm, kL_X11_minutesToCool]
theorem kD_X11_minutesToCoolAlone (g : mG) (m : mM) (r : Nat) (a : Int32) (b : Int32) (N : Nat) : gD (X11_minutesToCoolAlone_m g m r a b N) = gD m := by
  unfold X11_minutesToCoolAlone_m
  repeat' split
  all_goals simp only [mm, kD_X11_minutesToCool]
theorem kA_X11_minutesToCoolAlone (g : mG) (m : mM) (r : Nat) (a : Int32) (b : Int32) (N : Nat) (c9 i9 : Nat) (h0 : c9 ≠ r + 5) : gA (X11_minutesToCoolAlone_m g m r a b N) c9 i9 = gA m c9 i9 := by
  unfold X11_minutesToCoolAlone_m
  repeat' split
  all_goals simp [mm, kA_X11_minutesToCool, h0]
set_option maxHeartbeats 4000000 in
set_option maxRecDepth 100000 in
theorem c_X11_minutesToCoolAlone {l : Launch} {g : mG} (hO : mO l g) (m : mM) (r : Nat) (a : Int32) (b : Int32) (N : Nat) (hs : SR m r) (hN : gA m (r + 1) 5 = nI N) (hN8 : N ≤ 8) : mT l g yX11_minutesToCoolAlone (.code yX11_minutesToCoolAlone cX11_minutesToCoolAlone 3 (Option.some FieldType.int)) 4 88 0 0 [.ref r, .int a, .int b] m (fun u m' => u = some (.int (X11_minutesToCoolAlone_r g m r a b N)) ∧ m' = X11_minutesToCoolAlone_m g m r a b N) nX := by
  refine mT_of hO (by decide) (Nat.le_of_ble_eq_true rfl) (fun x hX hZ => ?_)
  show mV g x m 0 0 0 [(0, .ref r), (1, .int a), (2, .int b)] []
  refine v_aload_n (pc := 0) hX dX11_minutesToCoolAlone_0 rfl ?_
  refine v_iload_n (pc := 1) hX dX11_minutesToCoolAlone_1 rfl ?_
  refine v_iload_n (pc := 2) hX dX11_minutesToCoolAlone_2 rfl ?_
  refine v_callV (z := yX11_minutesToCool) (pc := 3) hX dX11_minutesToCoolAlone_3 (c_X11_minutesToCool hO m r a b N hs hN hN8) hs.k rfl wd_1832 wd_1825 wd_1826 wd_16 wd_1827 ⟨by decide, by decide, (by decide +kernel : (parseMethodDescriptor yX11_minutesToCool.desc).map (fun d => d.parameters.length) = some 2)⟩ rfl (Nat.le_of_ble_eq_true rfl) ⟨⟨by decide, by decide⟩, by decide, by decide⟩ (fun E m9 h9 => h9.elim) (fun r9 m9 h9 => ?_)
  obtain ⟨rfl, h8⟩ := h9
  replace h8 := h8.symm
  subst h8
  show mV g x _ _ _ _ _ [.int (X11_minutesToCool_r g m r a b N)]
  exact v_iret (pc := 6) hX hZ dX11_minutesToCoolAlone_6 (by decide) (by decide) ⟨(by rw [X11_minutesToCoolAlone_r]), (by rw [X11_minutesToCoolAlone_m])⟩
