def X11_goes_l1 (g : mG) (r : Nat) (a : Int32)  : Nat → Nat → mM → mM
  | 0, j, m => (sA m (r + 1) 5 ((gA m (r + 1) 5) - 1))
  | n + 1, j, m => if 77 ≤ ((nI j) + 8) then (X11_goes_l1 g r a  n (j + 1)  ((sA m (r + 1) j 0))) else (X11_goes_l1 g r a  n (j + 1)  ((sA m (r + 1) j (gA m (r + 1) (j + 8)))))
set_option maxHeartbeats 4000000 in
set_option maxRecDepth 100000 in
theorem lp_X11_goes_l1 {l : Launch} {g : mG} {x : mCx} (hO : mO l g) (r : Nat) (a : Int32)  (hpa : okI a 7) {pst : Option Value → mM → Prop} {XX : String → mM → Prop} (hX : mX l g x cX11_goes yX11_goes { frames := 2, cells := 0, slots := 0, locals := 41 } 3) (hZ : mZ g x (Option.none : Option FieldType) [] pst XX 0 0) : ∀ (n j : Nat)  (m : mM) (hs : SR m r) (hj : j + n = 77) (hp : pst none (X11_goes_l1 g r a  n j  m)), mV g x m 0 0 6 [(0, .ref r), (1, .int a), (2, .int (nI j))] [] := by
  intro n
  induction n with
  | zero =>
    intro j  m hs hj hp
    refine v_iload_n (pc := 6) hX dX11_goes_6 rfl ?_
    refine v_bipush (v := 77) (pc := 7) hX dX11_goes_7 (by decide) ?_
    refine v_icmp_ge (tgt := 46) (pc := 9) hX dX11_goes_9 (by decide) (fun c1 => ?_) (fun c1 => ?_)
    ·
      refine v_aload_n (pc := 46) hX dX11_goes_46 rfl ?_
      refine v_get (v := .ref (r + 1)) (pc := 47) hX dX11_goes_47 hs.k (ci := 12) (r := vwC12) rfl 5 (by decide) wd_1511 (fvA rfl hs.r1) ?_
      refine v_iconst (v := 5) (pc := 50) hX dX11_goes_50 (by decide) ?_
      refine v_dup2 (pc := 51) hX dX11_goes_51 rfl rfl ?_
      refine v_iald (j := 5) (v := (gA m (r + 1) 5)) (pc := 52) hX dX11_goes_52 hs.k1 rfl (by decide) (by decide) rfl ?_
      refine v_iconst (v := 1) (pc := 53) hX dX11_goes_53 (by decide) ?_
      refine v_isub (pc := 54) hX dX11_goes_54 ?_
      refine v_iast (j := 5) (pc := 55) hX dX11_goes_55 hs.k1 rfl (by decide) (by decide) ?_
      exact v_vret (pc := 56) hX hZ dX11_goes_56 (by decide) (by decide) (by rw [X11_goes_l1] at hp; exact hp)
    · exact absurd (show nI 77 ≤ nI j from nI_le (by omega) (by omega)) c1
  | succ n ih =>
    intro j  m hs hj hp
    refine v_iload_n (pc := 6) hX dX11_goes_6 rfl ?_
    refine v_bipush (v := 77) (pc := 7) hX dX11_goes_7 (by decide) ?_
    refine v_icmp_ge (tgt := 46) (pc := 9) hX dX11_goes_9 (by decide) (fun c1 => ?_) (fun c1 => ?_)
    · exact absurd c1 (show ¬ nI 77 ≤ nI j from nI_ge (by omega) (by omega))
    ·
      refine v_aload_n (pc := 12) hX dX11_goes_12 rfl ?_
      refine v_get (v := .ref (r + 1)) (pc := 13) hX dX11_goes_13 hs.k (ci := 12) (r := vwC12) rfl 5 (by decide) wd_1511 (fvA rfl hs.r1) ?_
      refine v_iload_n (pc := 16) hX dX11_goes_16 rfl ?_
      refine v_iload_n (pc := 17) hX dX11_goes_17 rfl ?_
      refine v_bipush (v := 8) (pc := 18) hX dX11_goes_18 (by decide) ?_
      refine v_iadd (pc := 20) hX dX11_goes_20 ?_
      refine v_bipush (v := 77) (pc := 21) hX dX11_goes_21 (by decide) ?_
      refine v_icmp_ge (tgt := 38) (pc := 23) hX dX11_goes_23 (by decide) (fun c2 => ?_) (fun c2 => ?_)
      ·
        refine v_iconst (v := 0) (pc := 38) hX dX11_goes_38 (by decide) ?_
        refine v_iast (j := j) (pc := 39) hX dX11_goes_39 hs.k1 rfl (by omega) (by decide) ?_
        refine v_iinc (w := nI (j + 1)) (pc := 40) hX dX11_goes_40 rfl (nI_1 _) (by decide) rfl ?_
        refine v_goto (tgt := 6) (pc := 43) hX dX11_goes_43 (by decide) ?_
        refine mV_sub (lv' := [(0, .ref r), (1, .int a), (2, .int (nI (j + 1)))]) ⟨rfl, rfl, rfl, trivial⟩ ?_
        exact ih (j + 1)  ((sA m (r + 1) j 0)) (hs.to (by simp only [mm]) (by simp only [mm])) (by omega) (by rw [X11_goes_l1, if_pos c2] at hp; exact hp)
      ·
        refine v_aload_n (pc := 26) hX dX11_goes_26 rfl ?_
        refine v_get (v := .ref (r + 1)) (pc := 27) hX dX11_goes_27 hs.k (ci := 12) (r := vwC12) rfl 5 (by decide) wd_1511 (fvA rfl hs.r1) ?_
        refine v_iload_n (pc := 30) hX dX11_goes_30 rfl ?_
        refine v_bipush (v := 8) (pc := 31) hX dX11_goes_31 (by decide) ?_
        refine v_iadd (pc := 33) hX dX11_goes_33 ?_
        refine v_iald (j := j + 8) (v := (gA m (r + 1) (j + 8))) (pc := 34) hX dX11_goes_34 hs.k1 (ix_pl j 8) (by omega) (by decide) rfl ?_
        refine v_goto (tgt := 39) (pc := 35) hX dX11_goes_35 (by decide) ?_
        refine v_iast (j := j) (pc := 39) hX dX11_goes_39 hs.k1 rfl (by omega) (by decide) ?_
        refine v_iinc (w := nI (j + 1)) (pc := 40) hX dX11_goes_40 rfl (nI_1 _) (by decide) rfl ?_
        refine v_goto (tgt := 6) (pc := 43) hX dX11_goes_43 (by decide) ?_
        refine mV_sub (lv' := [(0, .ref r), (1, .int a), (2, .int (nI (j + 1)))]) ⟨rfl, rfl, rfl, trivial⟩ ?_
        exact ih (j + 1)  ((sA m (r + 1) j (gA m (r + 1) (j + 8)))) (hs.to (by simp only [mm]) (by simp only [mm])) (by omega) (by rw [X11_goes_l1, if_neg c2] at hp; exact hp)
theorem kK_X11_goes_l1 (g : mG) (r : Nat) (a : Int32)  : ∀ (n j : Nat)  (m : mM), gK (X11_goes_l1 g r a  n j  m) = gK m := by
  intro n
  induction n with
  | zero =>
    intro j  m
    rw [X11_goes_l1]
    repeat' split
    all_goals simp only [mm]
  | succ n ih =>
    intro j  m
    rw [X11_goes_l1]
    repeat' split
    all_goals simp only [mm, ih]
theorem kN_X11_goes_l1 (g : mG) (r : Nat) (a : Int32)  : ∀ (n j : Nat)  (m : mM), gN (X11_goes_l1 g r a  n j  m) = gN m := by
  intro n
  induction n with
  | zero =>
    intro j  m
    rw [X11_goes_l1]
    repeat' split
    all_goals simp only [mm]
  | succ n ih =>
    intro j  m
    rw [X11_goes_l1]
    repeat' split
    all_goals simp only [mm, ih]
theorem kI_X11_goes_l1 (g : mG) (r : Nat) (a : Int32)  : ∀ (n j : Nat)  (m : mM), gI (X11_goes_l1 g r a  n j  m) = gI m := by
  intro n
  induction n with
  | zero =>
    intro j  m
    rw [X11_goes_l1]
    repeat' split
    all_goals simp only [mm]
  | succ n ih =>
    intro j  m
    rw [X11_goes_l1]
    repeat' split
    all_goals simp only [mm, ih]
theorem kJ_X11_goes_l1 (g : mG) (r : Nat) (a : Int32)  : ∀ (n j : Nat)  (m : mM), gJ (X11_goes_l1 g r a  n j  m) = gJ m := by
  intro n
  induction n with
  | zero =>
    intro j  m
    rw [X11_goes_l1]
    repeat' split
    all_goals simp only [mm]
  | succ n ih =>
    intro j  m
    rw [X11_goes_l1]
    repeat' split
    all_goals simp only [mm, ih]
theorem kR_X11_goes_l1 (g : mG) (r : Nat) (a : Int32)  : ∀ (n j : Nat)  (m : mM), gR (X11_goes_l1 g r a  n j  m) = gR m := by
  intro n
  induction n with
  | zero =>
    intro j  m
    rw [X11_goes_l1]
    repeat' split
    all_goals simp only [mm]
  | succ n ih =>
    intro j  m
    rw [X11_goes_l1]
    repeat' split
    all_goals simp only [mm, ih]
theorem kQ_X11_goes_l1 (g : mG) (r : Nat) (a : Int32)  : ∀ (n j : Nat)  (m : mM), gQ (X11_goes_l1 g r a  n j  m) = gQ m := by
  intro n
  induction n with
  | zero =>
    intro j  m
    rw [X11_goes_l1]
    repeat' split
    all_goals simp only [mm]
  | succ n ih =>
    intro j  m
    rw [X11_goes_l1]
    repeat' split
    all_goals simp only [mm, ih]
theorem kL_X11_goes_l1 (g : mG) (r : Nat) (a : Int32)  : ∀ (n j : Nat)  (m : mM), gL (X11_goes_l1 g r a  n j  m) = gL m := by
  intro n
  induction n with
  | zero =>
    intro j  m
    rw [X11_goes_l1]
    repeat' split
    all_goals simp only [mm]
  | succ n ih =>
    intro j  m
    rw [X11_goes_l1]
    repeat' split
    all_goals simp only [mm, ih]
theorem kD_X11_goes_l1 (g : mG) (r : Nat) (a : Int32)  : ∀ (n j : Nat)  (m : mM), gD (X11_goes_l1 g r a  n j  m) = gD m := by
  intro n
  induction n with
  | zero =>
    intro j  m
    rw [X11_goes_l1]
    repeat' split
    all_goals simp only [mm]
  | succ n ih =>
    intro j  m
    rw [X11_goes_l1]
    repeat' split
    all_goals simp only [mm, ih]
theorem kA_X11_goes_l1 (g : mG) (r : Nat) (a : Int32)  (c9 i9 : Nat) (h0 : c9 ≠ r + 1) : ∀ (n j : Nat)  (m : mM), gA (X11_goes_l1 g r a  n j  m) c9 i9 = gA m c9 i9 := by
  intro n
  induction n with
  | zero =>
    intro j  m
    rw [X11_goes_l1]
    repeat' split
    all_goals simp [mm, h0]
  | succ n ih =>
    intro j  m
    rw [X11_goes_l1]
    repeat' split
    all_goals simp [mm, ih, h0]
def X11_goes_m (g : mG) (m : mM) (r : Nat) (a : Int32)  : mM := X11_goes_l1 g r a  (77 - (8 * a.toNatClampNeg + 13)) (8 * a.toNatClampNeg + 13)  m
theorem kK_X11_goes (g : mG) (m : mM) (r : Nat) (a : Int32)  : gK (X11_goes_m g m r a ) = gK m := by
  unfold X11_goes_m
  repeat' split
  all_goals simp only [mm, kK_X11_goes_l1]
theorem kN_X11_goes (g : mG) (m : mM) (r : Nat) (a : Int32)  : gN (X11_goes_m g m r a ) = gN m := by
  unfold X11_goes_m
  repeat' split
  all_goals simp only [mm, kN_X11_goes_l1]
theorem kI_X11_goes (g : mG) (m : mM) (r : Nat) (a : Int32)  : gI (X11_goes_m g m r a ) = gI m := by
  unfold X11_goes_m
  repeat' split
  all_goals simp only [mm, kI_X11_goes_l1]
theorem kJ_X11_goes (g : mG) (m : mM) (r : Nat) (a : Int32)  : gJ (X11_goes_m g m r a ) = gJ m := by
  unfold X11_goes_m
  repeat' split
  all_goals simp only [mm, kJ_X11_goes_l1]
theorem kR_X11_goes (g : mG) (m : mM) (r : Nat) (a : Int32)  : gR (X11_goes_m g m r a ) = gR m := by
  unfold X11_goes_m
  repeat' split
  all_goals simp only [mm, kR_X11_goes_l1]
theorem kQ_X11_goes (g : mG) (m : mM) (r : Nat) (a : Int32)  : gQ (X11_goes_m g m r a ) = gQ m := by
  unfold X11_goes_m
  repeat' split
  all_goals simp only [mm, kQ_X11_goes_l1]
theorem kL_X11_goes (g : mG) (m : mM) (r : Nat) (a : Int32)  : gL (X11_goes_m g m r a ) = gL m := by
  unfold X11_goes_m
  repeat' split
  all_goals simp only [mm, kL_X11_goes_l1]
theorem kD_X11_goes (g : mG) (m : mM) (r : Nat) (a : Int32)  : gD (X11_goes_m g m r a ) = gD m := by
  unfold X11_goes_m
  repeat' split
  all_goals simp only [mm, kD_X11_goes_l1]
theorem kA_X11_goes (g : mG) (m : mM) (r : Nat) (a : Int32)  (c9 i9 : Nat) (h0 : c9 ≠ r + 1) : gA (X11_goes_m g m r a ) c9 i9 = gA m c9 i9 := by
  unfold X11_goes_m
  repeat' split
  all_goals simp [mm, kA_X11_goes_l1, h0]
set_option maxHeartbeats 4000000 in
set_option maxRecDepth 100000 in
theorem c_X11_goes {l : Launch} {g : mG} (hO : mO l g) (m : mM) (r : Nat) (a : Int32)  (hs : SR m r) (hpa : okI a 7) : mT l g yX11_goes (.code yX11_goes cX11_goes 3 (Option.none : Option FieldType)) 2 41 0 0 [.ref r, .int a] m (fun u m' => u = none ∧ m' = X11_goes_m g m r a ) nX := by
  refine mT_of hO (by decide) (Nat.le_of_ble_eq_true rfl) (fun x hX hZ => ?_)
  show mV g x m 0 0 0 [(0, .ref r), (1, .int a)] []
  have hpa2 := hpa.2
  refine v_iload_n (pc := 0) hX dX11_goes_0 rfl ?_
  refine v_iconst (v := 0) (pc := 1) hX dX11_goes_1 (by decide) ?_
  refine v_callS (z := yX11_of) (pc := 2) hX dX11_goes_2 (c_of2 hO m a a.toNatClampNeg 0 hpa.1) wd_1626 wd_1627 wd_16 wd_1628 ⟨by decide, by decide, (by decide +kernel : (parseMethodDescriptor yX11_of.desc).map (fun d => d.parameters.length) = some 2)⟩ rfl (Nat.le_of_ble_eq_true rfl) ⟨⟨by decide, by decide⟩, by decide, by decide⟩ (fun E m9 h9 => h9.elim) (fun r9 m9 h9 => ?_)
  obtain ⟨rfl, h8⟩ := h9
  replace h8 := h8.symm
  subst h8
  show mV g x _ _ _ _ _ [.int (nI (8 * a.toNatClampNeg + 13))]
  refine v_istore_n (pc := 5) hX dX11_goes_5 (by decide) rfl ?_
  refine mV_sub (lv' := [(0, .ref r), (1, .int a), (2, .int (nI (8 * a.toNatClampNeg + 13)))]) ⟨rfl, rfl, rfl, trivial⟩ ?_
  exact lp_X11_goes_l1 hO r a  hpa hX hZ (77 - (8 * a.toNatClampNeg + 13)) (8 * a.toNatClampNeg + 13)  m hs (by omega) ⟨rfl, (by rw [X11_goes_m])⟩
def X11_isReady_r (g : mG) (m : mM) (r : Nat) (a : Int32)  : Int32 := if (gA m (r + 1) (8 * a.toNatClampNeg + 18)) = 0 then (if (gA m (r + 1) (8 * a.toNatClampNeg + 20)) = 1 then 1 else 0) else 0

set_option maxHeartbeats 4000000 in
set_option maxRecDepth 100000 in
theorem c_X11_isReady {l : Launch} {g : mG} (hO : mO l g) (m : mM) (r : Nat) (a : Int32)  (hs : SR m r) (hpa : okI a 7) : mT l g yX11_isReady (.code yX11_isReady cX11_isReady 2 (Option.some FieldType.boolean)) 2 41 0 0 [.ref r, .int a] m (fun u m' => u = some (.int (X11_isReady_r g m r a )) ∧ m' = m) nX := by
  refine mT_of hO (by decide) (Nat.le_of_ble_eq_true rfl) (fun x hX hZ => ?_)
  show mV g x m 0 0 0 [(0, .ref r), (1, .int a)] []
  have hpa2 := hpa.2
  refine v_aload_n (pc := 0) hX dX11_isReady_0 rfl ?_
  refine v_get (v := .ref (r + 1)) (pc := 1) hX dX11_isReady_1 hs.k (ci := 12) (r := vwC12) rfl 5 (by decide) wd_1511 (fvA rfl hs.r1) ?_
  refine v_iload_n (pc := 4) hX dX11_isReady_4 rfl ?_
  refine v_iconst (v := 5) (pc := 5) hX dX11_isReady_5 (by decide) ?_
  refine v_callS (z := yX11_of) (pc := 6) hX dX11_isReady_6 (c_of2 hO m a a.toNatClampNeg 5 hpa.1) wd_1626 wd_1627 wd_16 wd_1628 ⟨by decide, by decide, (by decide +kernel : (parseMethodDescriptor yX11_of.desc).map (fun d => d.parameters.length) = some 2)⟩ rfl (Nat.le_of_ble_eq_true rfl) ⟨⟨by decide, by decide⟩, by decide, by decide⟩ (fun E m9 h9 => h9.elim) (fun r9 m9 h9 => ?_)
  obtain ⟨rfl, h8⟩ := h9
  replace h8 := h8.symm
  subst h8
  show mV g x _ _ _ _ _ [.int (nI (8 * a.toNatClampNeg + 18)), .ref (r + 1)]
  refine v_iald (j := 8 * a.toNatClampNeg + 18) (v := (gA m (r + 1) (8 * a.toNatClampNeg + 18))) (pc := 9) hX dX11_isReady_9 hs.k1 rfl (by omega) (by decide) rfl ?_
  refine v_if_ne (tgt := 32) (pc := 10) hX dX11_isReady_10 (by decide) (fun c1 => ?_) (fun c1 => ?_)
  ·
    refine v_iconst (v := 0) (pc := 32) hX dX11_isReady_32 (by decide) ?_
    exact v_zret (pc := 33) hX hZ dX11_isReady_33 rfl (by decide) (by decide) ⟨(by rw [X11_isReady_r, if_neg c1]), rfl⟩
  ·
    refine v_aload_n (pc := 13) hX dX11_isReady_13 rfl ?_
    refine v_get (v := .ref (r + 1)) (pc := 14) hX dX11_isReady_14 hs.k (ci := 12) (r := vwC12) rfl 5 (by decide) wd_1511 (fvA rfl hs.r1) ?_
    refine v_iload_n (pc := 17) hX dX11_isReady_17 rfl ?_
    refine v_bipush (v := 7) (pc := 18) hX dX11_isReady_18 (by decide) ?_
    refine v_callS (z := yX11_of) (pc := 20) hX dX11_isReady_20 (c_of2 hO m a a.toNatClampNeg 7 hpa.1) wd_1626 wd_1627 wd_16 wd_1628 ⟨by decide, by decide, (by decide +kernel : (parseMethodDescriptor yX11_of.desc).map (fun d => d.parameters.length) = some 2)⟩ rfl (Nat.le_of_ble_eq_true rfl) ⟨⟨by decide, by decide⟩, by decide, by decide⟩ (fun E m9 h9 => h9.elim) (fun r9 m9 h9 => ?_)
    obtain ⟨rfl, h8⟩ := h9
    replace h8 := h8.symm
    subst h8
    show mV g x _ _ _ _ _ [.int (nI (8 * a.toNatClampNeg + 20)), .ref (r + 1)]
    refine v_iald (j := 8 * a.toNatClampNeg + 20) (v := (gA m (r + 1) (8 * a.toNatClampNeg + 20))) (pc := 23) hX dX11_isReady_23 hs.k1 rfl (by omega) (by decide) rfl ?_
    refine v_iconst (v := 1) (pc := 24) hX dX11_isReady_24 (by decide) ?_
    refine v_icmp_ne (tgt := 32) (pc := 25) hX dX11_isReady_25 (by decide) (fun c2 => ?_) (fun c2 => ?_)
    ·
      refine v_iconst (v := 0) (pc := 32) hX dX11_isReady_32 (by decide) ?_
      exact v_zret (pc := 33) hX hZ dX11_isReady_33 rfl (by decide) (by decide) ⟨(by rw [X11_isReady_r, if_pos c1, if_neg c2]), rfl⟩
    ·
      refine v_iconst (v := 1) (pc := 28) hX dX11_isReady_28 (by decide) ?_
      refine v_goto (tgt := 33) (pc := 29) hX dX11_isReady_29 (by decide) ?_
      exact v_zret (pc := 33) hX hZ dX11_isReady_33 rfl (by decide) (by decide) ⟨(by rw [X11_isReady_r, if_pos c1, if_pos c2]), rfl⟩
