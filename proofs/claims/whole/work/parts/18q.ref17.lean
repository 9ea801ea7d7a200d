/-- the pieces in the furnace, of n from the j-th on -/
def inC (m : mM) (r : Nat) : Nat → Nat → Nat
  | 0, _ => 0
  | n + 1, j => (if gA m (r + 1) (8 * j + 18) = 0 then 0 else 1) + inC m r n (j + 1)
theorem inC_cg {m m1 : mM} {r : Nat} (h : gA m1 (r + 1) = gA m (r + 1)) : ∀ (n j : Nat), inC m1 r n j = inC m r n j := by
  intro n
  induction n with
  | zero => intro j; rw [inC, inC]
  | succ n ih => intro j; rw [inC, inC, h, ih]
theorem inC_0 {m : mM} {r n j : Nat} (h : gA m (r + 1) (8 * j + 18) = 0) : inC m r (n + 1) j = inC m r n (j + 1) := by
  rw [inC, if_pos h, Nat.zero_add]
theorem inC_1 {m : mM} {r n j : Nat} (h : ¬ gA m (r + 1) (8 * j + 18) = 0) : inC m r (n + 1) j = 1 + inC m r n (j + 1) := by
  rw [inC, if_neg h]
theorem wn_Ln {g : mG} {m : mM} {r B x : Nat} (h : okI (gI m 403 r) B) (hB : B ≤ 45) : okI (gI (X11_writesNumber_m g m r x) 403 r) (B + 4) := by
  have w1 : ∀ {M : mM} {a : Int32} {B : Nat}, okI (gI M 403 r) B → B ≤ 100 → okI (gI (X11_writes_m g M r a) 403 r) (B + 1) := fun q hq => wr_Ln q (by omega)
  unfold X11_writesNumber_m
  split
  · exact okI_mono (w1 h (by omega)) (by omega)
  · split
    · exact okI_mono (w1 (w1 h (by omega)) (by omega)) (by omega)
    · split
      · exact okI_mono (w1 (w1 (w1 h (by omega)) (by omega)) (by omega)) (by omega)
      · exact w1 (w1 (w1 (w1 h (by omega)) (by omega)) (by omega)) (by omega)
theorem ln_0 {m : mM} {r : Nat} : okI (gI (sI m 403 r 0) 403 r) 0 := by
  simp only [mm]
  rw [if_pos (by simp)]
  exact okI_nI (n := 0) (Nat.le_refl _) (by decide)
def X11_writeFurnace_l1 (g : mG) (r : Nat) (N : Nat) : Nat → Nat → mM → Int32 × mM
  | 0, j, m => (gI m 403 r, m)
  | n + 1, j, m => if (gA m (r + 1) (8 * j + 18)) = 0 then (X11_writeFurnace_l1 g r N n (j + 1)  m) else (X11_writeFurnace_l1 g r N n (j + 1)  ((X11_writesNumber_m g ((X11_writes_m g m r 32 )) r ((gA m (r + 1) (8 * j + 13)).toNatClampNeg))))
set_option maxHeartbeats 4000000 in
set_option maxRecDepth 100000 in
theorem lp_X11_writeFurnace_l1 {l : Launch} {g : mG} {x : mCx} (hO : mO l g) (r : Nat) (N : Nat) (hN8 : N ≤ 8) {pst : Option Value → mM → Prop} {XX : String → mM → Prop} (hX : mX l g x cX11_writeFurnace yX11_writeFurnace { frames := 3, cells := 0, slots := 0, locals := 63 } 2) (hZ : mZ g x (Option.some FieldType.int) [] pst XX 0 0) : ∀ (n j : Nat)  (m : mM) (hs : SR m r) (hN : gA m (r + 1) 5 = nI N) (hnum : ∀ i, i < N → okI (gA m (r + 1) (8 * i + 13)) 9999) (hlc : okI (gI m 403 r) (29 - 5 * inC m r n j)) (hc3 : inC m r n j ≤ 3) (hj : j + n = N) (hp : pst (some (.int ((X11_writeFurnace_l1 g r N n j  m).1))) ((X11_writeFurnace_l1 g r N n j  m).2)), mV g x m 0 0 54 [(0, .ref r), (1, .int (nI j))] [] := by
  intro n
  induction n with
  | zero =>
    intro j  m hs hN hnum hlc hc3 hj hp
    refine v_iload_n (pc := 54) hX dX11_writeFurnace_54 rfl ?_
    refine v_aload_n (pc := 55) hX dX11_writeFurnace_55 rfl ?_
    refine v_get (v := .ref (r + 1)) (pc := 56) hX dX11_writeFurnace_56 hs.k (ci := 12) (r := vwC12) rfl 5 (by decide) wd_1511 (fvA rfl hs.r1) ?_
    refine v_iconst (v := 5) (pc := 59) hX dX11_writeFurnace_59 (by decide) ?_
    refine v_iald (j := 5) (v := (nI N)) (pc := 60) hX dX11_writeFurnace_60 hs.k1 rfl (by decide) (by decide) ((rfl).trans hN) ?_
    refine v_icmp_ge (tgt := 106) (pc := 61) hX dX11_writeFurnace_61 (by decide) (fun c1 => ?_) (fun c1 => ?_)
    ·
      refine v_aload_n (pc := 106) hX dX11_writeFurnace_106 rfl ?_
      refine v_get (v := .int (gI m 403 r)) (pc := 107) hX dX11_writeFurnace_107 hs.k (ci := 12) (r := vwC12) rfl 19 (by decide) wd_1525 rfl ?_
      exact v_iret (pc := 110) hX hZ dX11_writeFurnace_110 (by decide) (by decide) (by rw [X11_writeFurnace_l1] at hp; exact hp)
    · exact absurd (nI_le (by omega) (by omega)) c1
  | succ n ih =>
    intro j  m hs hN hnum hlc hc3 hj hp
    refine v_iload_n (pc := 54) hX dX11_writeFurnace_54 rfl ?_
    refine v_aload_n (pc := 55) hX dX11_writeFurnace_55 rfl ?_
    refine v_get (v := .ref (r + 1)) (pc := 56) hX dX11_writeFurnace_56 hs.k (ci := 12) (r := vwC12) rfl 5 (by decide) wd_1511 (fvA rfl hs.r1) ?_
    refine v_iconst (v := 5) (pc := 59) hX dX11_writeFurnace_59 (by decide) ?_
    refine v_iald (j := 5) (v := (nI N)) (pc := 60) hX dX11_writeFurnace_60 hs.k1 rfl (by decide) (by decide) ((rfl).trans hN) ?_
    refine v_icmp_ge (tgt := 106) (pc := 61) hX dX11_writeFurnace_61 (by decide) (fun c1 => ?_) (fun c1 => ?_)
    · exact absurd c1 (nI_ge (by omega) (by omega))
    ·
      refine v_aload_n (pc := 64) hX dX11_writeFurnace_64 rfl ?_
      refine v_get (v := .ref (r + 1)) (pc := 65) hX dX11_writeFurnace_65 hs.k (ci := 12) (r := vwC12) rfl 5 (by decide) wd_1511 (fvA rfl hs.r1) ?_
      refine v_iload_n (pc := 68) hX dX11_writeFurnace_68 rfl ?_
      refine v_iconst (v := 5) (pc := 69) hX dX11_writeFurnace_69 (by decide) ?_
      refine v_callS (z := yX11_of) (pc := 70) hX dX11_writeFurnace_70 (c_of2 hO m (nI j) j 5 rfl) wd_1626 wd_1627 wd_16 wd_1628 ⟨by decide, by decide, (by decide +kernel : (parseMethodDescriptor yX11_of.desc).map (fun d => d.parameters.length) = some 2)⟩ rfl (Nat.le_of_ble_eq_true rfl) ⟨⟨by decide, by decide⟩, by decide, by decide⟩ (fun E m9 h9 => h9.elim) (fun r9 m9 h9 => ?_)
      obtain ⟨rfl, h8⟩ := h9
      replace h8 := h8.symm
      subst h8
      show mV g x _ _ _ _ _ [.int (nI (8 * j + 18)), .ref (r + 1)]
      refine v_iald (j := 8 * j + 18) (v := (gA m (r + 1) (8 * j + 18))) (pc := 73) hX dX11_writeFurnace_73 hs.k1 rfl (by omega) (by decide) rfl ?_
      refine v_if_ne (tgt := 80) (pc := 74) hX dX11_writeFurnace_74 (by decide) (fun c2 => ?_) (fun c2 => ?_)
      ·
        refine v_aload_n (pc := 80) hX dX11_writeFurnace_80 rfl ?_
        refine v_bipush (v := 32) (pc := 81) hX dX11_writeFurnace_81 (by decide) ?_
        refine v_callV (z := yX11_writes) (pc := 83) hX dX11_writeFurnace_83 (c_X11_writes hO m r 32 hs (okI_mono hlc (by omega))) hs.k rfl wd_1937 wd_1939 wp_55 wd_16 wd_1940 ⟨by decide, by decide, (by decide +kernel : (parseMethodDescriptor yX11_writes.desc).map (fun d => d.parameters.length) = some 1)⟩ rfl (Nat.le_of_ble_eq_true rfl) ⟨⟨by decide, by decide⟩, by decide, by decide⟩ (fun E m9 h9 => h9.elim) (fun r9 m9 h9 => ?_)
        obtain ⟨rfl, h8⟩ := h9
        replace h8 := h8.symm
        subst h8
        show mV g x _ _ _ _ _ []
        refine v_aload_n (pc := 86) hX dX11_writeFurnace_86 rfl ?_
        refine v_aload_n (pc := 87) hX dX11_writeFurnace_87 rfl ?_
        refine v_get (v := .ref (r + 1)) (pc := 88) hX dX11_writeFurnace_88 (by simp only [mm, kK_X11_writes]; exact hs.k) (ci := 12) (r := vwC12) rfl 5 (by decide) wd_1511 (fvA rfl (by simp [mm, kR_X11_writes, hs.r1])) ?_
        refine v_iload_n (pc := 91) hX dX11_writeFurnace_91 rfl ?_
        refine v_iconst (v := 0) (pc := 92) hX dX11_writeFurnace_92 (by decide) ?_
        refine v_callS (z := yX11_of) (pc := 93) hX dX11_writeFurnace_93 (c_of2 hO ((X11_writes_m g m r 32 )) (nI j) j 0 rfl) wd_1626 wd_1627 wd_16 wd_1628 ⟨by decide, by decide, (by decide +kernel : (parseMethodDescriptor yX11_of.desc).map (fun d => d.parameters.length) = some 2)⟩ rfl (Nat.le_of_ble_eq_true rfl) ⟨⟨by decide, by decide⟩, by decide, by decide⟩ (fun E m9 h9 => h9.elim) (fun r9 m9 h9 => ?_)
        obtain ⟨rfl, h8⟩ := h9
        replace h8 := h8.symm
        subst h8
        show mV g x _ _ _ _ _ [.int (nI (8 * j + 13)), .ref (r + 1), .ref r]
        refine v_iald (j := 8 * j + 13) (v := (gA m (r + 1) (8 * j + 13))) (pc := 96) hX dX11_writeFurnace_96 (by simp only [mm, kK_X11_writes]; exact hs.k1) rfl (by omega) (by decide) (((kA_X11_writes g m r 32 (r + 1) (8 * j + 13) (by omega)).trans rfl)) ?_
        refine v_callV (z := yX11_writesNumber) (pc := 97) hX dX11_writeFurnace_97 (c_wnI hO ((X11_writes_m g m r 32 )) r (gA m (r + 1) (8 * j + 13)) ((gA m (r + 1) (8 * j + 13)).toNatClampNeg) (hnum j (by omega)).1 (hs.to (by simp only [mm, kK_X11_writes]) (by simp only [mm, kR_X11_writes])) (Nat.lt_of_le_of_lt (hnum j (by omega)).2 (by decide)) (okI_mono (wr_Ln hlc (by omega)) (by omega))) (by simp only [mm, kK_X11_writes]; exact hs.k) rfl wd_1933 wd_1935 wp_54 wd_16 wd_1936 ⟨by decide, by decide, (by decide +kernel : (parseMethodDescriptor yX11_writesNumber.desc).map (fun d => d.parameters.length) = some 1)⟩ rfl (Nat.le_of_ble_eq_true rfl) ⟨⟨by decide, by decide⟩, by decide, by decide⟩ (fun E m9 h9 => h9.elim) (fun r9 m9 h9 => ?_)
        obtain ⟨rfl, h8⟩ := h9
        replace h8 := h8.symm
        subst h8
        show mV g x _ _ _ _ _ []
        refine v_iinc (w := nI (j + 1)) (pc := 100) hX dX11_writeFurnace_100 rfl (nI_1 _) (by decide) rfl ?_
        refine v_goto (tgt := 54) (pc := 103) hX dX11_writeFurnace_103 (by decide) ?_
        refine mV_sub (lv' := [(0, .ref r), (1, .int (nI (j + 1)))]) ⟨rfl, rfl, trivial⟩ ?_
        exact ih (j + 1)  ((X11_writesNumber_m g ((X11_writes_m g m r 32 )) r ((gA m (r + 1) (8 * j + 13)).toNatClampNeg))) (hs.to (by simp only [mm, kK_X11_writes, kK_X11_writesNumber]) (by simp only [mm, kR_X11_writes, kR_X11_writesNumber])) (((kA_X11_writesNumber g (X11_writes_m g m r 32) r ((gA m (r + 1) (8 * j + 13)).toNatClampNeg) (r + 1) (5) (by omega)).trans ((kA_X11_writes g m r 32 (r + 1) (5) (by omega)).trans rfl)).trans hN) (fun i hi => by simp [mm, kA_X11_writes, kA_X11_writesNumber]; exact hnum i hi) (by rw [inC_cg (m := m) (m1 := (X11_writesNumber_m g ((X11_writes_m g m r 32 )) r ((gA m (r + 1) (8 * j + 13)).toNatClampNeg))) ((funext fun i => kA_X11_writesNumber g (X11_writes_m g m r 32) r ((gA m (r + 1) (8 * j + 13)).toNatClampNeg) (r + 1) i (by omega)).trans ((funext fun i => kA_X11_writes g m r 32 (r + 1) i (by omega)).trans rfl))]; have e := inC_1 (n := n) (show ¬ gA m (r + 1) (8 * j + 18) = 0 by assumption); exact okI_mono (wn_Ln (wr_Ln hlc (by omega)) (by omega)) (by omega)) (by rw [inC_cg (m := m) (m1 := (X11_writesNumber_m g ((X11_writes_m g m r 32 )) r ((gA m (r + 1) (8 * j + 13)).toNatClampNeg))) ((funext fun i => kA_X11_writesNumber g (X11_writes_m g m r 32) r ((gA m (r + 1) (8 * j + 13)).toNatClampNeg) (r + 1) i (by omega)).trans ((funext fun i => kA_X11_writes g m r 32 (r + 1) i (by omega)).trans rfl))]; have e := inC_1 (n := n) (show ¬ gA m (r + 1) (8 * j + 18) = 0 by assumption); omega) (by omega) (by rw [X11_writeFurnace_l1, if_neg c2] at hp; exact hp)
      ·
        refine v_goto (tgt := 100) (pc := 77) hX dX11_writeFurnace_77 (by decide) ?_
        refine v_iinc (w := nI (j + 1)) (pc := 100) hX dX11_writeFurnace_100 rfl (nI_1 _) (by decide) rfl ?_
        refine v_goto (tgt := 54) (pc := 103) hX dX11_writeFurnace_103 (by decide) ?_
        refine mV_sub (lv' := [(0, .ref r), (1, .int (nI (j + 1)))]) ⟨rfl, rfl, trivial⟩ ?_
        exact ih (j + 1)  m hs hN hnum (by have e := inC_0 (n := n) (show gA m (r + 1) (8 * j + 18) = 0 by assumption); rw [e] at hlc; exact hlc) (by have e := inC_0 (n := n) (show gA m (r + 1) (8 * j + 18) = 0 by assumption); omega) (by omega) (by rw [X11_writeFurnace_l1, if_pos c2] at hp; exact hp)
theorem kK_X11_writeFurnace_l1 (g : mG) (r : Nat) (N : Nat) : ∀ (n j : Nat)  (m : mM), gK ((X11_writeFurnace_l1 g r N n j  m).2) = gK m := by
  intro n
  induction n with
  | zero =>
    intro j  m
    rw [X11_writeFurnace_l1]
    repeat' split
    all_goals simp only [mm, kK_X11_writes, kK_X11_writesNumber]
  | succ n ih =>
    intro j  m
    rw [X11_writeFurnace_l1]
    repeat' split
    all_goals simp only [mm, ih, kK_X11_writes, kK_X11_writesNumber]
theorem kN_X11_writeFurnace_l1 (g : mG) (r : Nat) (N : Nat) : ∀ (n j : Nat)  (m : mM), gN ((X11_writeFurnace_l1 g r N n j  m).2) = gN m := by
  intro n
  induction n with
  | zero =>
    intro j  m
    rw [X11_writeFurnace_l1]
    repeat' split
    all_goals simp only [mm, kN_X11_writes, kN_X11_writesNumber]
  | succ n ih =>
    intro j  m
    rw [X11_writeFurnace_l1]
    repeat' split
    all_goals simp only [mm, ih, kN_X11_writes, kN_X11_writesNumber]
theorem kI_X11_writeFurnace_l1 (g : mG) (r : Nat) (N : Nat) (k a9 : Nat) (h0 : k ≠ 403) : ∀ (n j : Nat)  (m : mM), gI ((X11_writeFurnace_l1 g r N n j  m).2) k a9 = gI m k a9 := by
  intro n
  induction n with
  | zero =>
    intro j  m
    rw [X11_writeFurnace_l1]
    repeat' split
    all_goals simp [mm, kI_X11_writes, kI_X11_writesNumber, h0]
  | succ n ih =>
    intro j  m
    rw [X11_writeFurnace_l1]
    repeat' split
    all_goals simp [mm, ih, kI_X11_writes, kI_X11_writesNumber, h0]
theorem kJ_X11_writeFurnace_l1 (g : mG) (r : Nat) (N : Nat) : ∀ (n j : Nat)  (m : mM), gJ ((X11_writeFurnace_l1 g r N n j  m).2) = gJ m := by
  intro n
  induction n with
  | zero =>
    intro j  m
    rw [X11_writeFurnace_l1]
    repeat' split
    all_goals simp only [mm, kJ_X11_writes, kJ_X11_writesNumber]
  | succ n ih =>
    intro j  m
    rw [X11_writeFurnace_l1]
    repeat' split
    all_goals simp only [mm, ih, kJ_X11_writes, kJ_X11_writesNumber]
theorem kR_X11_writeFurnace_l1 (g : mG) (r : Nat) (N : Nat) : ∀ (n j : Nat)  (m : mM), gR ((X11_writeFurnace_l1 g r N n j  m).2) = gR m := by
  intro n
  induction n with
  | zero =>
    intro j  m
    rw [X11_writeFurnace_l1]
    repeat' split
    all_goals simp only [mm, kR_X11_writes, kR_X11_writesNumber]
  | succ n ih =>
    intro j  m
    rw [X11_writeFurnace_l1]
    repeat' split
    all_goals simp only [mm, ih, kR_X11_writes, kR_X11_writesNumber]
theorem kQ_X11_writeFurnace_l1 (g : mG) (r : Nat) (N : Nat) : ∀ (n j : Nat)  (m : mM), gQ ((X11_writeFurnace_l1 g r N n j  m).2) = gQ m := by
  intro n
  induction n with
  | zero =>
    intro j  m
    rw [X11_writeFurnace_l1]
    repeat' split
    all_goals simp only [mm, kQ_X11_writes, kQ_X11_writesNumber]
  | succ n ih =>
    intro j  m
    rw [X11_writeFurnace_l1]
    repeat' split
    all_goals simp only [mm, ih, kQ_X11_writes, kQ_X11_writesNumber]
theorem kL_X11_writeFurnace_l1 (g : mG) (r : Nat) (N : Nat) : ∀ (n j : Nat)  (m : mM), gL ((X11_writeFurnace_l1 g r N n j  m).2) = gL m := by
  intro n
  induction n with
  | zero =>
    intro j  m
    rw [X11_writeFurnace_l1]
    repeat' split
    all_goals simp only [mm, kL_X11_writes, kL_X11_writesNumber]
  | succ n ih =>
    intro j  m
    rw [X11_writeFurnace_l1]
    repeat' split
    all_goals simp only [mm, ih, kL_X11_writes, kL_X11_writesNumber]
theorem kD_X11_writeFurnace_l1 (g : mG) (r : Nat) (N : Nat) : ∀ (n j : Nat)  (m : mM), gD ((X11_writeFurnace_l1 g r N n j  m).2) = gD m := by
  intro n
  induction n with
  | zero =>
    intro j  m
    rw [X11_writeFurnace_l1]
    repeat' split
    all_goals simp only [mm, kD_X11_writes, kD_X11_writesNumber]
  | succ n ih =>
    intro j  m
    rw [X11_writeFurnace_l1]
    repeat' split
    all_goals simp only [mm, ih, kD_X11_writes, kD_X11_writesNumber]
theorem kA_X11_writeFurnace_l1 (g : mG) (r : Nat) (N : Nat) (c9 i9 : Nat) (h0 : c9 ≠ r + 7) : ∀ (n j : Nat)  (m : mM), gA ((X11_writeFurnace_l1 g r N n j  m).2) c9 i9 = gA m c9 i9 := by
  intro n
  induction n with
  | zero =>
    intro j  m
    rw [X11_writeFurnace_l1]
    repeat' split
    all_goals simp [mm, kA_X11_writes, kA_X11_writesNumber, h0]
  | succ n ih =>
    intro j  m
    rw [X11_writeFurnace_l1]
    repeat' split
    all_goals simp [mm, ih, kA_X11_writes, kA_X11_writesNumber, h0]
def X11_writeFurnace_r (g : mG) (m : mM) (r : Nat) (N : Nat) : Int32 := (X11_writeFurnace_l1 g r N N 0  ((X11_writesNumber_m g ((X11_writes_m g ((X11_writesNumber_m g ((X11_writes_m g ((X11_writesNumber_m g ((sI (sI m 384 r 0) 403 r 0)) r ((gA m (r + 1) 1).toNatClampNeg))) r 64 )) r ((gA m (r + 1) 2).toNatClampNeg))) r 35 )) r ((gA m (r + 1) 3).toNatClampNeg)))).1
def X11_writeFurnace_m (g : mG) (m : mM) (r : Nat) (N : Nat) : mM := (X11_writeFurnace_l1 g r N N 0  ((X11_writesNumber_m g ((X11_writes_m g ((X11_writesNumber_m g ((X11_writes_m g ((X11_writesNumber_m g ((sI (sI m 384 r 0) 403 r 0)) r ((gA m (r + 1) 1).toNatClampNeg))) r 64 )) r ((gA m (r + 1) 2).toNatClampNeg))) r 35 )) r ((gA m (r + 1) 3).toNatClampNeg)))).2
theorem kK_X11_writeFurnace (g : mG) (m : mM) (r : Nat) (N : Nat) : gK (X11_writeFurnace_m g m r N) = gK m := by
  unfold X11_writeFurnace_m
  repeat' split
  all_goals simp only [mm, kK_X11_writeFurnace_l1, kK_X11_writes, kK_X11_writesNumber]
theorem kN_X11_writeFurnace (g : mG) (m : mM) (r : Nat) (N : Nat) : gN (X11_writeFurnace_m g m r N) = gN m := by
  unfold X11_writeFurnace_m
  repeat' split
  all_goals simp only [mm, kN_X11_writeFurnace_l1, kN_X11_writes, kN_X11_writesNumber]
theorem kI_X11_writeFurnace (g : mG) (m : mM) (r : Nat) (N : Nat) (k a9 : Nat) (h0 : k ≠ 384) (h1 : k ≠ 403) : gI (X11_writeFurnace_m g m r N) k a9 = gI m k a9 := by
  unfold X11_writeFurnace_m
  repeat' split
  all_goals simp [mm, kI_X11_writeFurnace_l1, kI_X11_writes, kI_X11_writesNumber, h0, h1]
theorem kJ_X11_writeFurnace (g : mG) (m : mM) (r : Nat) (N : Nat) : gJ (X11_writeFurnace_m g m r N) = gJ m := by
  unfold X11_writeFurnace_m
  repeat' split
  all_goals simp only [mm, kJ_X11_writeFurnace_l1, kJ_X11_writes, kJ_X11_writesNumber]
theorem kR_X11_writeFurnace (g : mG) (m : mM) (r : Nat) (N : Nat) : gR (X11_writeFurnace_m g m r N) = gR m := by
  unfold X11_writeFurnace_m
  repeat' split
  all_goals simp only [mm, kR_X11_writeFurnace_l1, kR_X11_writes, kR_X11_writesNumber]
theorem kQ_X11_writeFurnace (g : mG) (m : mM) (r : Nat) (N : Nat) : gQ (X11_writeFurnace_m g m r N) = gQ m := by
  unfold X11_writeFurnace_m
  repeat' split
  all_goals simp only [mm, kQ_X11_writeFurnace_l1, kQ_X11_writes, kQ_X11_writesNumber]
theorem kL_X11_writeFurnace (g : mG) (m : mM) (r : Nat) (N : Nat) : gL (X11_writeFurnace_m g m r N) = gL m := by
  unfold X11_writeFurnace_m
  repeat' split
  all_goals simp only [mm, kL_X11_writeFurnace_l1, kL_X11_writes, kL_X11_writesNumber]
theorem kD_X11_writeFurnace (g : mG) (m : mM) (r : Nat) (N : Nat) : gD (X11_writeFurnace_m g m r N) = gD m := by
  unfold X11_writeFurnace_m
  repeat' split
  all_goals simp only [mm, kD_X11_writeFurnace_l1, kD_X11_writes, kD_X11_writesNumber]
theorem kA_X11_writeFurnace (g : mG) (m : mM) (r : Nat) (N : Nat) (c9 i9 : Nat) (h0 : c9 ≠ r + 7) : gA (X11_writeFurnace_m g m r N) c9 i9 = gA m c9 i9 := by
  unfold X11_writeFurnace_m
  repeat' split
  all_goals simp [mm, kA_X11_writeFurnace_l1, kA_X11_writes, kA_X11_writesNumber, h0]
set_option maxHeartbeats 4000000 in
set_option maxRecDepth 100000 in
theorem c_X11_writeFurnace {l : Launch} {g : mG} (hO : mO l g) (m : mM) (r : Nat) (N : Nat) (hs : SR m r) (hN : gA m (r + 1) 5 = nI N) (hN8 : N ≤ 8) (hnum : ∀ i, i < N → okI (gA m (r + 1) (8 * i + 13)) 9999) (hv1 : okI (gA m (r + 1) 1) 9999) (hv2 : okI (gA m (r + 1) 2) 9999) (hv3 : okI (gA m (r + 1) 3) 9999) (hI3 : inC m r N 0 ≤ 3) : mT l g yX11_writeFurnace (.code yX11_writeFurnace cX11_writeFurnace 2 (Option.some FieldType.int)) 3 63 0 0 [.ref r] m (fun u m' => u = some (.int (X11_writeFurnace_r g m r N)) ∧ m' = X11_writeFurnace_m g m r N) nX := by
  refine mT_of hO (by decide) (Nat.le_of_ble_eq_true rfl) (fun x hX hZ => ?_)
  show mV g x m 0 0 0 [(0, .ref r)] []
  refine v_aload_n (pc := 0) hX dX11_writeFurnace_0 rfl ?_
  refine v_iconst (v := 0) (pc := 1) hX dX11_writeFurnace_1 (by decide) ?_
  refine v_put (m1 := (sI m 384 r 0)) (pc := 2) hX dX11_writeFurnace_2 hs.k (ci := 12) (r := vwC12) rfl 0 (by decide) wd_1506 rfl rfl rfl rfl ?_
  refine v_aload_n (pc := 5) hX dX11_writeFurnace_5 rfl ?_
  refine v_iconst (v := 0) (pc := 6) hX dX11_writeFurnace_6 (by decide) ?_
  refine v_put (m1 := (sI (sI m 384 r 0) 403 r 0)) (pc := 7) hX dX11_writeFurnace_7 (by simp only [mm]; exact hs.k) (ci := 12) (r := vwC12) rfl 19 (by decide) wd_1525 rfl rfl rfl rfl ?_
  refine v_aload_n (pc := 10) hX dX11_writeFurnace_10 rfl ?_
  refine v_aload_n (pc := 11) hX dX11_writeFurnace_11 rfl ?_
  refine v_get (v := .ref (r + 1)) (pc := 12) hX dX11_writeFurnace_12 (by simp only [mm]; exact hs.k) (ci := 12) (r := vwC12) rfl 5 (by decide) wd_1511 (fvA rfl (by simp [mm, hs.r1])) ?_
  refine v_iconst (v := 1) (pc := 15) hX dX11_writeFurnace_15 (by decide) ?_
  refine v_iald (j := 1) (v := (gA m (r + 1) 1)) (pc := 16) hX dX11_writeFurnace_16 (by simp only [mm]; exact hs.k1) rfl (by decide) (by decide) rfl ?_
  refine v_callV (z := yX11_writesNumber) (pc := 17) hX dX11_writeFurnace_17 (c_wnI hO ((sI (sI m 384 r 0) 403 r 0)) r (gA m (r + 1) 1) ((gA m (r + 1) 1).toNatClampNeg) hv1.1 (hs.to (by simp only [mm]) (by simp only [mm])) (Nat.lt_of_le_of_lt hv1.2 (by decide)) (okI_mono ln_0 (by omega))) (by simp only [mm]; exact hs.k) rfl wd_1933 wd_1935 wp_54 wd_16 wd_1936 ⟨by decide, by decide, (by decide +kernel : (parseMethodDescriptor yX11_writesNumber.desc).map (fun d => d.parameters.length) = some 1)⟩ rfl (Nat.le_of_ble_eq_true rfl) ⟨⟨by decide, by decide⟩, by decide, by decide⟩ (fun E m9 h9 => h9.elim) (fun r9 m9 h9 => ?_)
  obtain ⟨rfl, h8⟩ := h9
  replace h8 := h8.symm
  subst h8
  show mV g x _ _ _ _ _ []
  refine v_aload_n (pc := 20) hX dX11_writeFurnace_20 rfl ?_
  refine v_bipush (v := 64) (pc := 21) hX dX11_writeFurnace_21 (by decide) ?_
  refine v_callV (z := yX11_writes) (pc := 23) hX dX11_writeFurnace_23 (c_X11_writes hO ((X11_writesNumber_m g ((sI (sI m 384 r 0) 403 r 0)) r ((gA m (r + 1) 1).toNatClampNeg))) r 64 (hs.to (by simp only [mm, kK_X11_writesNumber]) (by simp only [mm, kR_X11_writesNumber])) (okI_mono (wn_Ln ln_0 (by omega)) (by omega))) (by simp only [mm, kK_X11_writesNumber]; exact hs.k) rfl wd_1937 wd_1939 wp_55 wd_16 wd_1940 ⟨by decide, by decide, (by decide +kernel : (parseMethodDescriptor yX11_writes.desc).map (fun d => d.parameters.length) = some 1)⟩ rfl (Nat.le_of_ble_eq_true rfl) ⟨⟨by decide, by decide⟩, by decide, by decide⟩ (fun E m9 h9 => h9.elim) (fun r9 m9 h9 => ?_)
  obtain ⟨rfl, h8⟩ := h9
  replace h8 := h8.symm
  subst h8
  show mV g x _ _ _ _ _ []
  refine v_aload_n (pc := 26) hX dX11_writeFurnace_26 rfl ?_
  refine v_aload_n (pc := 27) hX dX11_writeFurnace_27 rfl ?_
  refine v_get (v := .ref (r + 1)) (pc := 28) hX dX11_writeFurnace_28 (by simp only [mm, kK_X11_writes, kK_X11_writesNumber]; exact hs.k) (ci := 12) (r := vwC12) rfl 5 (by decide) wd_1511 (fvA rfl (by simp [mm, kR_X11_writes, kR_X11_writesNumber, hs.r1])) ?_
  refine v_iconst (v := 2) (pc := 31) hX dX11_writeFurnace_31 (by decide) ?_
  refine v_iald (j := 2) (v := (gA m (r + 1) 2)) (pc := 32) hX dX11_writeFurnace_32 (by simp only [mm, kK_X11_writes, kK_X11_writesNumber]; exact hs.k1) rfl (by decide) (by decide) (((kA_X11_writes g (X11_writesNumber_m g (sI (sI m 384 r 0) 403 r 0) r ((gA m (r + 1) 1).toNatClampNeg)) r 64 (r + 1) (2) (by omega)).trans ((kA_X11_writesNumber g (sI (sI m 384 r 0) 403 r 0) r ((gA m (r + 1) 1).toNatClampNeg) (r + 1) (2) (by omega)).trans rfl))) ?_
  refine v_callV (z := yX11_writesNumber) (pc := 33) hX dX11_writeFurnace_33 (c_wnI hO ((X11_writes_m g ((X11_writesNumber_m g ((sI (sI m 384 r 0) 403 r 0)) r ((gA m (r + 1) 1).toNatClampNeg))) r 64 )) r (gA m (r + 1) 2) ((gA m (r + 1) 2).toNatClampNeg) hv2.1 (hs.to (by simp only [mm, kK_X11_writes, kK_X11_writesNumber]) (by simp only [mm, kR_X11_writes, kR_X11_writesNumber])) (Nat.lt_of_le_of_lt hv2.2 (by decide)) (okI_mono (wr_Ln (wn_Ln ln_0 (by omega)) (by omega)) (by omega))) (by simp only [mm, kK_X11_writes, kK_X11_writesNumber]; exact hs.k) rfl wd_1933 wd_1935 wp_54 wd_16 wd_1936 ⟨by decide, by decide, (by decide +kernel : (parseMethodDescriptor yX11_writesNumber.desc).map (fun d => d.parameters.length) = some 1)⟩ rfl (Nat.le_of_ble_eq_true rfl) ⟨⟨by decide, by decide⟩, by decide, by decide⟩ (fun E m9 h9 => h9.elim) (fun r9 m9 h9 => ?_)
  obtain ⟨rfl, h8⟩ := h9
  replace h8 := h8.symm
  subst h8
  show mV g x _ _ _ _ _ []
  refine v_aload_n (pc := 36) hX dX11_writeFurnace_36 rfl ?_
  refine v_bipush (v := 35) (pc := 37) hX dX11_writeFurnace_37 (by decide) ?_
  refine v_callV (z := yX11_writes) (pc := 39) hX dX11_writeFurnace_39 (c_X11_writes hO ((X11_writesNumber_m g ((X11_writes_m g ((X11_writesNumber_m g ((sI (sI m 384 r 0) 403 r 0)) r ((gA m (r + 1) 1).toNatClampNeg))) r 64 )) r ((gA m (r + 1) 2).toNatClampNeg))) r 35 (hs.to (by simp only [mm, kK_X11_writes, kK_X11_writesNumber]) (by simp only [mm, kR_X11_writes, kR_X11_writesNumber])) (okI_mono (wn_Ln (wr_Ln (wn_Ln ln_0 (by omega)) (by omega)) (by omega)) (by omega))) (by simp only [mm, kK_X11_writes, kK_X11_writesNumber]; exact hs.k) rfl wd_1937 wd_1939 wp_55 wd_16 wd_1940 ⟨by decide, by decide, (by decide +kernel : (parseMethodDescriptor yX11_writes.desc).map (fun d => d.parameters.length) = some 1)⟩ rfl (Nat.le_of_ble_eq_true rfl) ⟨⟨by decide, by decide⟩, by decide, by decide⟩ (fun E m9 h9 => h9.elim) (fun r9 m9 h9 => ?_)
  obtain ⟨rfl, h8⟩ := h9
  replace h8 := h8.symm
  subst h8
  show mV g x _ _ _ _ _ []
  refine v_aload_n (pc := 42) hX dX11_writeFurnace_42 rfl ?_
  refine v_aload_n (pc := 43) hX dX11_writeFurnace_43 rfl ?_
  refine v_get (v := .ref (r + 1)) (pc := 44) hX dX11_writeFurnace_44 (by simp only [mm, kK_X11_writes, kK_X11_writesNumber]; exact hs.k) (ci := 12) (r := vwC12) rfl 5 (by decide) wd_1511 (fvA rfl (by simp [mm, kR_X11_writes, kR_X11_writesNumber, hs.r1])) ?_
  refine v_iconst (v := 3) (pc := 47) hX dX11_writeFurnace_47 (by decide) ?_
  refine v_iald (j := 3) (v := (gA m (r + 1) 3)) (pc := 48) hX dX11_writeFurnace_48 (by simp only [mm, kK_X11_writes, kK_X11_writesNumber]; exact hs.k1) rfl (by decide) (by decide) (((kA_X11_writes g (X11_writesNumber_m g (X11_writes_m g (X11_writesNumber_m g (sI (sI m 384 r 0) 403 r 0) r ((gA m (r + 1) 1).toNatClampNeg)) r 64) r ((gA m (r + 1) 2).toNatClampNeg)) r 35 (r + 1) (3) (by omega)).trans ((kA_X11_writesNumber g (X11_writes_m g (X11_writesNumber_m g (sI (sI m 384 r 0) 403 r 0) r ((gA m (r + 1) 1).toNatClampNeg)) r 64) r ((gA m (r + 1) 2).toNatClampNeg) (r + 1) (3) (by omega)).trans ((kA_X11_writes g (X11_writesNumber_m g (sI (sI m 384 r 0) 403 r 0) r ((gA m (r + 1) 1).toNatClampNeg)) r 64 (r + 1) (3) (by omega)).trans ((kA_X11_writesNumber g (sI (sI m 384 r 0) 403 r 0) r ((gA m (r + 1) 1).toNatClampNeg) (r + 1) (3) (by omega)).trans rfl))))) ?_
  refine v_callV (z := yX11_writesNumber) (pc := 49) hX dX11_writeFurnace_49 (c_wnI hO ((X11_writes_m g ((X11_writesNumber_m g ((X11_writes_m g ((X11_writesNumber_m g ((sI (sI m 384 r 0) 403 r 0)) r ((gA m (r + 1) 1).toNatClampNeg))) r 64 )) r ((gA m (r + 1) 2).toNatClampNeg))) r 35 )) r (gA m (r + 1) 3) ((gA m (r + 1) 3).toNatClampNeg) hv3.1 (hs.to (by simp only [mm, kK_X11_writes, kK_X11_writesNumber]) (by simp only [mm, kR_X11_writes, kR_X11_writesNumber])) (Nat.lt_of_le_of_lt hv3.2 (by decide)) (okI_mono (wr_Ln (wn_Ln (wr_Ln (wn_Ln ln_0 (by omega)) (by omega)) (by omega)) (by omega)) (by omega))) (by simp only [mm, kK_X11_writes, kK_X11_writesNumber]; exact hs.k) rfl wd_1933 wd_1935 wp_54 wd_16 wd_1936 ⟨by decide, by decide, (by decide +kernel : (parseMethodDescriptor yX11_writesNumber.desc).map (fun d => d.parameters.length) = some 1)⟩ rfl (Nat.le_of_ble_eq_true rfl) ⟨⟨by decide, by decide⟩, by decide, by decide⟩ (fun E m9 h9 => h9.elim) (fun r9 m9 h9 => ?_)
  obtain ⟨rfl, h8⟩ := h9
  replace h8 := h8.symm
  subst h8
  show mV g x _ _ _ _ _ []
  refine v_iconst (v := 0) (pc := 52) hX dX11_writeFurnace_52 (by decide) ?_
  refine v_istore_n (pc := 53) hX dX11_writeFurnace_53 (by decide) rfl ?_
  refine mV_sub (lv' := [(0, .ref r), (1, .int (nI 0))]) ⟨rfl, rfl, trivial⟩ ?_
  exact lp_X11_writeFurnace_l1 hO r N hN8 hX hZ N 0  ((X11_writesNumber_m g ((X11_writes_m g ((X11_writesNumber_m g ((X11_writes_m g ((X11_writesNumber_m g ((sI (sI m 384 r 0) 403 r 0)) r ((gA m (r + 1) 1).toNatClampNeg))) r 64 )) r ((gA m (r + 1) 2).toNatClampNeg))) r 35 )) r ((gA m (r + 1) 3).toNatClampNeg))) (hs.to (by simp only [mm, kK_X11_writes, kK_X11_writesNumber]) (by simp only [mm, kR_X11_writes, kR_X11_writesNumber])) (((kA_X11_writesNumber g (X11_writes_m g (X11_writesNumber_m g (X11_writes_m g (X11_writesNumber_m g (sI (sI m 384 r 0) 403 r 0) r ((gA m (r + 1) 1).toNatClampNeg)) r 64) r ((gA m (r + 1) 2).toNatClampNeg)) r 35) r ((gA m (r + 1) 3).toNatClampNeg) (r + 1) (5) (by omega)).trans ((kA_X11_writes g (X11_writesNumber_m g (X11_writes_m g (X11_writesNumber_m g (sI (sI m 384 r 0) 403 r 0) r ((gA m (r + 1) 1).toNatClampNeg)) r 64) r ((gA m (r + 1) 2).toNatClampNeg)) r 35 (r + 1) (5) (by omega)).trans ((kA_X11_writesNumber g (X11_writes_m g (X11_writesNumber_m g (sI (sI m 384 r 0) 403 r 0) r ((gA m (r + 1) 1).toNatClampNeg)) r 64) r ((gA m (r + 1) 2).toNatClampNeg) (r + 1) (5) (by omega)).trans ((kA_X11_writes g (X11_writesNumber_m g (sI (sI m 384 r 0) 403 r 0) r ((gA m (r + 1) 1).toNatClampNeg)) r 64 (r + 1) (5) (by omega)).trans ((kA_X11_writesNumber g (sI (sI m 384 r 0) 403 r 0) r ((gA m (r + 1) 1).toNatClampNeg) (r + 1) (5) (by omega)).trans rfl))))).trans hN) (fun i hi => by simp [mm, kA_X11_writes, kA_X11_writesNumber]; exact hnum i hi) (by rw [inC_cg (m := m) (m1 := (X11_writesNumber_m g ((X11_writes_m g ((X11_writesNumber_m g ((X11_writes_m g ((X11_writesNumber_m g ((sI (sI m 384 r 0) 403 r 0)) r ((gA m (r + 1) 1).toNatClampNeg))) r 64 )) r ((gA m (r + 1) 2).toNatClampNeg))) r 35 )) r ((gA m (r + 1) 3).toNatClampNeg))) ((funext fun i => kA_X11_writesNumber g (X11_writes_m g (X11_writesNumber_m g (X11_writes_m g (X11_writesNumber_m g (sI (sI m 384 r 0) 403 r 0) r ((gA m (r + 1) 1).toNatClampNeg)) r 64) r ((gA m (r + 1) 2).toNatClampNeg)) r 35) r ((gA m (r + 1) 3).toNatClampNeg) (r + 1) i (by omega)).trans ((funext fun i => kA_X11_writes g (X11_writesNumber_m g (X11_writes_m g (X11_writesNumber_m g (sI (sI m 384 r 0) 403 r 0) r ((gA m (r + 1) 1).toNatClampNeg)) r 64) r ((gA m (r + 1) 2).toNatClampNeg)) r 35 (r + 1) i (by omega)).trans ((funext fun i => kA_X11_writesNumber g (X11_writes_m g (X11_writesNumber_m g (sI (sI m 384 r 0) 403 r 0) r ((gA m (r + 1) 1).toNatClampNeg)) r 64) r ((gA m (r + 1) 2).toNatClampNeg) (r + 1) i (by omega)).trans ((funext fun i => kA_X11_writes g (X11_writesNumber_m g (sI (sI m 384 r 0) 403 r 0) r ((gA m (r + 1) 1).toNatClampNeg)) r 64 (r + 1) i (by omega)).trans ((funext fun i => kA_X11_writesNumber g (sI (sI m 384 r 0) 403 r 0) r ((gA m (r + 1) 1).toNatClampNeg) (r + 1) i (by omega)).trans rfl)))))]; exact okI_mono (wn_Ln (wr_Ln (wn_Ln (wr_Ln (wn_Ln ln_0 (by omega)) (by omega)) (by omega)) (by omega)) (by omega)) (by omega)) (by rw [inC_cg (m := m) (m1 := (X11_writesNumber_m g ((X11_writes_m g ((X11_writesNumber_m g ((X11_writes_m g ((X11_writesNumber_m g ((sI (sI m 384 r 0) 403 r 0)) r ((gA m (r + 1) 1).toNatClampNeg))) r 64 )) r ((gA m (r + 1) 2).toNatClampNeg))) r 35 )) r ((gA m (r + 1) 3).toNatClampNeg))) ((funext fun i => kA_X11_writesNumber g (X11_writes_m g (X11_writesNumber_m g (X11_writes_m g (X11_writesNumber_m g (sI (sI m 384 r 0) 403 r 0) r ((gA m (r + 1) 1).toNatClampNeg)) r 64) r ((gA m (r + 1) 2).toNatClampNeg)) r 35) r ((gA m (r + 1) 3).toNatClampNeg) (r + 1) i (by omega)).trans ((funext fun i => kA_X11_writes g (X11_writesNumber_m g (X11_writes_m g (X11_writesNumber_m g (sI (sI m 384 r 0) 403 r 0) r ((gA m (r + 1) 1).toNatClampNeg)) r 64) r ((gA m (r + 1) 2).toNatClampNeg)) r 35 (r + 1) i (by omega)).trans ((funext fun i => kA_X11_writesNumber g (X11_writes_m g (X11_writesNumber_m g (sI (sI m 384 r 0) 403 r 0) r ((gA m (r + 1) 1).toNatClampNeg)) r 64) r ((gA m (r + 1) 2).toNatClampNeg) (r + 1) i (by omega)).trans ((funext fun i => kA_X11_writes g (X11_writesNumber_m g (sI (sI m 384 r 0) 403 r 0) r ((gA m (r + 1) 1).toNatClampNeg)) r 64 (r + 1) i (by omega)).trans ((funext fun i => kA_X11_writesNumber g (sI (sI m 384 r 0) 403 r 0) r ((gA m (r + 1) 1).toNatClampNeg) (r + 1) i (by omega)).trans rfl)))))]; exact hI3) (by omega) ⟨(by rw [X11_writeFurnace_r]), (by rw [X11_writeFurnace_m])⟩
