theorem pos_nI {C : Nat} (h : ¬ nI C = 0) : 1 ≤ C := by
  rcases Nat.eq_zero_or_pos C with q | q
  · exact absurd (by rw [q]; rfl) h
  · exact q
theorem idx_isI {a L : Int32} (h : ¬ isI a 0 (L - 1) = 0) (hL : okI L 50) : a = nI a.toNatClampNeg ∧ a.toNatClampNeg < 50 ∧ a.toNatClampNeg < L.toNatClampNeg := by
  obtain ⟨h1, h2⟩ := isI_0 h
  obtain ⟨e, hl⟩ := hL
  obtain ⟨j, hj, rfl⟩ := nI_of h1
  rw [nI_clamp hj]
  generalize L.toNatClampNeg = n at *
  subst e
  rcases Nat.eq_zero_or_pos n with q | q
  · subst q
    exact absurd (show nI j < 0 from Int32.lt_of_le_of_lt h2 (by decide)) h1
  · rw [show (1 : Int32) = nI 1 from rfl, sub_nI q] at h2
    have h3 := (nI_leI hj (by omega)).mp h2
    exact ⟨rfl, by omega, by omega⟩
def X11_undo_l1 (g : mG) (r : Nat) (C : Nat) : Nat → Nat → Nat → mM → Int32 × mM
  | 0, j, c2, m => (nI c2, m)
  | n + 1, j, c2, m => X11_undo_l1 g r C n (j + 1) c2 ((sA m (r + 1) j (gA m (r + 4) (c2 * 85 + j))))
set_option maxHeartbeats 4000000 in
set_option maxRecDepth 100000 in
theorem lp_X11_undo_l1 {l : Launch} {g : mG} {x : mCx} (hO : mO l g) (r : Nat) (C : Nat) (hC8 : C ≤ 8) {pst : Option Value → mM → Prop} {XX : String → mM → Prop} (hX : mX l g x cX11_undo yX11_undo { frames := 1, cells := 0, slots := 0, locals := 20 } 2) (hZ : mZ g x (Option.some FieldType.int) [] pst XX 0 0) : ∀ (n j : Nat) (c2 : Nat) (m : mM) (hs : SR m r) (hc2 : gI m 385 r = nI c2) (hc7 : c2 ≤ 7) (hj : j + n = 85) (hp : pst (some (.int ((X11_undo_l1 g r C n j c2 m).1))) ((X11_undo_l1 g r C n j c2 m).2)), mV g x m 0 0 37 [(0, .ref r), (1, .int (nI j))] [] := by
  intro n
  induction n with
  | zero =>
    intro j c2 m hs hc2 hc7 hj hp
    refine v_iload_n (pc := 37) hX dX11_undo_37 rfl ?_
    refine v_bipush (v := 85) (pc := 38) hX dX11_undo_38 (by decide) ?_
    refine v_icmp_ge (tgt := 69) (pc := 40) hX dX11_undo_40 (by decide) (fun c1 => ?_) (fun c1 => ?_)
    ·
      refine v_aload_n (pc := 69) hX dX11_undo_69 rfl ?_
      refine v_get (v := .int (nI c2)) (pc := 70) hX dX11_undo_70 hs.k (ci := 12) (r := vwC12) rfl 1 (by decide) wd_1507 (congrArg Value.int hc2) ?_
      exact v_iret (pc := 73) hX hZ dX11_undo_73 (by decide) (by decide) (by rw [X11_undo_l1] at hp; exact hp)
    · exact absurd (show nI 85 ≤ nI j from nI_le (by omega) (by omega)) c1
  | succ n ih =>
    intro j c2 m hs hc2 hc7 hj hp
    refine v_iload_n (pc := 37) hX dX11_undo_37 rfl ?_
    refine v_bipush (v := 85) (pc := 38) hX dX11_undo_38 (by decide) ?_
    refine v_icmp_ge (tgt := 69) (pc := 40) hX dX11_undo_40 (by decide) (fun c1 => ?_) (fun c1 => ?_)
    · exact absurd c1 (show ¬ nI 85 ≤ nI j from nI_ge (by omega) (by omega))
    ·
      refine v_aload_n (pc := 43) hX dX11_undo_43 rfl ?_
      refine v_get (v := .ref (r + 1)) (pc := 44) hX dX11_undo_44 hs.k (ci := 12) (r := vwC12) rfl 5 (by decide) wd_1511 (fvA rfl hs.r1) ?_
      refine v_iload_n (pc := 47) hX dX11_undo_47 rfl ?_
      refine v_aload_n (pc := 48) hX dX11_undo_48 rfl ?_
      refine v_get (v := .ref (r + 4)) (pc := 49) hX dX11_undo_49 hs.k (ci := 12) (r := vwC12) rfl 8 (by decide) wd_1514 (fvA rfl hs.r4) ?_
      refine v_aload_n (pc := 52) hX dX11_undo_52 rfl ?_
      refine v_get (v := .int (nI c2)) (pc := 53) hX dX11_undo_53 hs.k (ci := 12) (r := vwC12) rfl 1 (by decide) wd_1507 (congrArg Value.int hc2) ?_
      refine v_bipush (v := 85) (pc := 56) hX dX11_undo_56 (by decide) ?_
      refine v_imul (pc := 58) hX dX11_undo_58 ?_
      refine v_iload_n (pc := 59) hX dX11_undo_59 rfl ?_
      refine v_iadd (pc := 60) hX dX11_undo_60 ?_
      refine v_iald (j := c2 * 85 + j) (v := (gA m (r + 4) (c2 * 85 + j))) (pc := 61) hX dX11_undo_61 hs.k4 (ix_c c2 j) (by omega) (by decide) rfl ?_
      refine v_iast (j := j) (pc := 62) hX dX11_undo_62 hs.k1 rfl (by omega) (by decide) ?_
      refine v_iinc (w := nI (j + 1)) (pc := 63) hX dX11_undo_63 rfl (nI_1 _) (by decide) rfl ?_
      refine v_goto (tgt := 37) (pc := 66) hX dX11_undo_66 (by decide) ?_
      refine mV_sub (lv' := [(0, .ref r), (1, .int (nI (j + 1)))]) ⟨rfl, rfl, trivial⟩ ?_
      exact ih (j + 1) c2 ((sA m (r + 1) j (gA m (r + 4) (c2 * 85 + j)))) (hs.to (by simp only [mm]) (by simp only [mm])) (by simp [mm, hc2]) hc7 (by omega) (by rw [X11_undo_l1] at hp; exact hp)
theorem kK_X11_undo_l1 (g : mG) (r : Nat) (C : Nat) : ∀ (n j : Nat) (c2 : Nat) (m : mM), gK ((X11_undo_l1 g r C n j c2 m).2) = gK m := by
  intro n
  induction n with
  | zero =>
    intro j c2 m
    rw [X11_undo_l1]
    repeat' split
    all_goals simp only [mm]
  | succ n ih =>
    intro j c2 m
    rw [X11_undo_l1]
    repeat' split
    all_goals simp only [mm, ih]
theorem kN_X11_undo_l1 (g : mG) (r : Nat) (C : Nat) : ∀ (n j : Nat) (c2 : Nat) (m : mM), gN ((X11_undo_l1 g r C n j c2 m).2) = gN m := by
  intro n
  induction n with
  | zero =>
    intro j c2 m
    rw [X11_undo_l1]
    repeat' split
    all_goals simp only [mm]
  | succ n ih =>
    intro j c2 m
    rw [X11_undo_l1]
    repeat' split
    all_goals simp only [mm, ih]
theorem kI_X11_undo_l1 (g : mG) (r : Nat) (C : Nat) : ∀ (n j : Nat) (c2 : Nat) (m : mM), gI ((X11_undo_l1 g r C n j c2 m).2) = gI m := by
  intro n
  induction n with
  | zero =>
    intro j c2 m
    rw [X11_undo_l1]
    repeat' split
    all_goals simp only [mm]
  | succ n ih =>
    intro j c2 m
    rw [X11_undo_l1]
    repeat' split
    all_goals simp only [mm, ih]
theorem kJ_X11_undo_l1 (g : mG) (r : Nat) (C : Nat) : ∀ (n j : Nat) (c2 : Nat) (m : mM), gJ ((X11_undo_l1 g r C n j c2 m).2) = gJ m := by
  intro n
  induction n with
  | zero =>
    intro j c2 m
    rw [X11_undo_l1]
    repeat' split
    all_goals simp only [mm]
  | succ n ih =>
    intro j c2 m
    rw [X11_undo_l1]
    repeat' split
    all_goals simp only [mm, ih]
theorem kR_X11_undo_l1 (g : mG) (r : Nat) (C : Nat) : ∀ (n j : Nat) (c2 : Nat) (m : mM), gR ((X11_undo_l1 g r C n j c2 m).2) = gR m := by
  intro n
  induction n with
  | zero =>
    intro j c2 m
    rw [X11_undo_l1]
    repeat' split
    all_goals simp only [mm]
  | succ n ih =>
    intro j c2 m
    rw [X11_undo_l1]
    repeat' split
    all_goals simp only [mm, ih]
theorem kQ_X11_undo_l1 (g : mG) (r : Nat) (C : Nat) : ∀ (n j : Nat) (c2 : Nat) (m : mM), gQ ((X11_undo_l1 g r C n j c2 m).2) = gQ m := by
  intro n
  induction n with
  | zero =>
    intro j c2 m
    rw [X11_undo_l1]
    repeat' split
    all_goals simp only [mm]
  | succ n ih =>
    intro j c2 m
    rw [X11_undo_l1]
    repeat' split
    all_goals simp only [mm, ih]
theorem kL_X11_undo_l1 (g : mG) (r : Nat) (C : Nat) : ∀ (n j : Nat) (c2 : Nat) (m : mM), gL ((X11_undo_l1 g r C n j c2 m).2) = gL m := by
  intro n
  induction n with
  | zero =>
    intro j c2 m
    rw [X11_undo_l1]
    repeat' split
    all_goals simp only [mm]
  | succ n ih =>
    intro j c2 m
    rw [X11_undo_l1]
    repeat' split
    all_goals simp only [mm, ih]
theorem kD_X11_undo_l1 (g : mG) (r : Nat) (C : Nat) : ∀ (n j : Nat) (c2 : Nat) (m : mM), gD ((X11_undo_l1 g r C n j c2 m).2) = gD m := by
  intro n
  induction n with
  | zero =>
    intro j c2 m
    rw [X11_undo_l1]
    repeat' split
    all_goals simp only [mm]
  | succ n ih =>
    intro j c2 m
    rw [X11_undo_l1]
    repeat' split
    all_goals simp only [mm, ih]
theorem kA_X11_undo_l1 (g : mG) (r : Nat) (C : Nat) (c9 i9 : Nat) (h0 : c9 ≠ r + 1) : ∀ (n j : Nat) (c2 : Nat) (m : mM), gA ((X11_undo_l1 g r C n j c2 m).2) c9 i9 = gA m c9 i9 := by
  intro n
  induction n with
  | zero =>
    intro j c2 m
    rw [X11_undo_l1]
    repeat' split
    all_goals simp [mm, h0]
  | succ n ih =>
    intro j c2 m
    rw [X11_undo_l1]
    repeat' split
    all_goals simp [mm, ih, h0]
def X11_undo_r (g : mG) (m : mM) (r : Nat) (C : Nat) : Int32 := (if (nI C) = 0 then ((0, (sI m 384 r 1))) else (X11_undo_l1 g r C 85 0 ((C - 1)) ((sI (sI m 384 r 0) 385 r ((nI C) - 1))))).1
def X11_undo_m (g : mG) (m : mM) (r : Nat) (C : Nat) : mM := (if (nI C) = 0 then ((0, (sI m 384 r 1))) else (X11_undo_l1 g r C 85 0 ((C - 1)) ((sI (sI m 384 r 0) 385 r ((nI C) - 1))))).2
theorem kK_X11_undo (g : mG) (m : mM) (r : Nat) (C : Nat) : gK (X11_undo_m g m r C) = gK m := by
  unfold X11_undo_m
  repeat' split
  all_goals simp only [mm, kK_X11_undo_l1]
theorem kN_X11_undo (g : mG) (m : mM) (r : Nat) (C : Nat) : gN (X11_undo_m g m r C) = gN m := by
  unfold X11_undo_m
  repeat' split
  all_goals simp only [mm, kN_X11_undo_l1]
theorem kI_X11_undo (g : mG) (m : mM) (r : Nat) (C : Nat) (k a9 : Nat) (h0 : k ≠ 384) (h1 : k ≠ 385) : gI (X11_undo_m g m r C) k a9 = gI m k a9 := by
  unfold X11_undo_m
  repeat' split
  all_goals simp [mm, kI_X11_undo_l1, h0, h1]
theorem kJ_X11_undo (g : mG) (m : mM) (r : Nat) (C : Nat) : gJ (X11_undo_m g m r C) = gJ m := by
  unfold X11_undo_m
  repeat' split
  all_goals simp only [mm, kJ_X11_undo_l1]
theorem kR_X11_undo (g : mG) (m : mM) (r : Nat) (C : Nat) : gR (X11_undo_m g m r C) = gR m := by
  unfold X11_undo_m
  repeat' split
  all_goals simp only [mm, kR_X11_undo_l1]
theorem kQ_X11_undo (g : mG) (m : mM) (r : Nat) (C : Nat) : gQ (X11_undo_m g m r C) = gQ m := by
  unfold X11_undo_m
  repeat' split
  all_goals simp only [mm, kQ_X11_undo_l1]
theorem kL_X11_undo (g : mG) (m : mM) (r : Nat) (C : Nat) : gL (X11_undo_m g m r C) = gL m := by
  unfold X11_undo_m
  repeat' split
  all_goals simp only [mm, kL_X11_undo_l1]
theorem kD_X11_undo (g : mG) (m : mM) (r : Nat) (C : Nat) : gD (X11_undo_m g m r C) = gD m := by
  unfold X11_undo_m
  repeat' split
  all_goals simp only [mm, kD_X11_undo_l1]
theorem kA_X11_undo (g : mG) (m : mM) (r : Nat) (C : Nat) (c9 i9 : Nat) (h0 : c9 ≠ r + 1) : gA (X11_undo_m g m r C) c9 i9 = gA m c9 i9 := by
  unfold X11_undo_m
  repeat' split
  all_goals simp [mm, kA_X11_undo_l1, h0]
set_option maxHeartbeats 4000000 in
set_option maxRecDepth 100000 in
theorem c_X11_undo {l : Launch} {g : mG} (hO : mO l g) (m : mM) (r : Nat) (C : Nat) (hs : SR m r) (hC : gI m 385 r = nI C) (hC8 : C ≤ 8) : mT l g yX11_undo (.code yX11_undo cX11_undo 2 (Option.some FieldType.int)) 1 20 0 0 [.ref r] m (fun u m' => u = some (.int (X11_undo_r g m r C)) ∧ m' = X11_undo_m g m r C) nX := by
  refine mT_of hO (by decide) (Nat.le_of_ble_eq_true rfl) (fun x hX hZ => ?_)
  show mV g x m 0 0 0 [(0, .ref r)] []
  refine v_aload_n (pc := 0) hX dX11_undo_0 rfl ?_
  refine v_aload_n (pc := 1) hX dX11_undo_1 rfl ?_
  refine v_get (v := .int (nI C)) (pc := 2) hX dX11_undo_2 hs.k (ci := 12) (r := vwC12) rfl 1 (by decide) wd_1507 (congrArg Value.int hC) ?_
  refine v_if_ne (tgt := 12) (pc := 5) hX dX11_undo_5 (by decide) (fun c1 => ?_) (fun c1 => ?_)
  ·
    refine v_iconst (v := 0) (pc := 12) hX dX11_undo_12 (by decide) ?_
    refine v_put (m1 := (sI m 384 r 0)) (pc := 13) hX dX11_undo_13 hs.k (ci := 12) (r := vwC12) rfl 0 (by decide) wd_1506 rfl rfl rfl rfl ?_
    refine v_aload_n (pc := 16) hX dX11_undo_16 rfl ?_
    refine v_get (v := .int 0) (pc := 17) hX dX11_undo_17 (by simp only [mm]; exact hs.k) (ci := 12) (r := vwC12) rfl 0 (by decide) wd_1506 (by show Value.int _ = Value.int _; simp [mm]) ?_
    refine v_if_eq (tgt := 25) (pc := 20) hX dX11_undo_20 (by decide) (fun c2 => ?_) (fun c2 => ?_)
    ·
      have hC1 := pos_nI (by assumption)
      refine v_aload_n (pc := 25) hX dX11_undo_25 rfl ?_
      refine v_dup (pc := 26) hX dX11_undo_26 rfl ?_
      refine v_get (v := .int (nI C)) (pc := 27) hX dX11_undo_27 (by simp only [mm]; exact hs.k) (ci := 12) (r := vwC12) rfl 1 (by decide) wd_1507 (congrArg Value.int (show gI (sI m 384 r 0) 385 r = nI C by simp [mm, hC])) ?_
      refine v_iconst (v := 1) (pc := 30) hX dX11_undo_30 (by decide) ?_
      refine v_isub (pc := 31) hX dX11_undo_31 ?_
      refine v_put (m1 := (sI (sI m 384 r 0) 385 r ((nI C) - 1))) (pc := 32) hX dX11_undo_32 (by simp only [mm]; exact hs.k) (ci := 12) (r := vwC12) rfl 1 (by decide) wd_1507 rfl rfl rfl rfl ?_
      refine v_iconst (v := 0) (pc := 35) hX dX11_undo_35 (by decide) ?_
      refine v_istore_n (pc := 36) hX dX11_undo_36 (by decide) rfl ?_
      refine mV_sub (lv' := [(0, .ref r), (1, .int (nI 0))]) ⟨rfl, rfl, trivial⟩ ?_
      exact lp_X11_undo_l1 hO r C hC8 hX hZ 85 0 ((C - 1)) ((sI (sI m 384 r 0) 385 r ((nI C) - 1))) (hs.to (by simp only [mm]) (by simp only [mm])) (by simp [mm]; rw [show (1 : Int32) = nI 1 from rfl, sub_nI hC1]) (by omega) (by omega) ⟨(by rw [X11_undo_r, if_neg c1]), (by rw [X11_undo_m, if_neg c1])⟩
    · exact absurd (by decide) c2
  ·
    refine v_iconst (v := 1) (pc := 8) hX dX11_undo_8 (by decide) ?_
    refine v_goto (tgt := 13) (pc := 9) hX dX11_undo_9 (by decide) ?_
    refine v_put (m1 := (sI m 384 r 1)) (pc := 13) hX dX11_undo_13 hs.k (ci := 12) (r := vwC12) rfl 0 (by decide) wd_1506 rfl rfl rfl rfl ?_
    refine v_aload_n (pc := 16) hX dX11_undo_16 rfl ?_
    refine v_get (v := .int 1) (pc := 17) hX dX11_undo_17 (by simp only [mm]; exact hs.k) (ci := 12) (r := vwC12) rfl 0 (by decide) wd_1506 (by show Value.int _ = Value.int _; simp [mm]) ?_
    refine v_if_eq (tgt := 25) (pc := 20) hX dX11_undo_20 (by decide) (fun c3 => ?_) (fun c3 => ?_)
    · exact absurd c3 (by decide)
    ·
      refine v_iconst (v := 0) (pc := 23) hX dX11_undo_23 (by decide) ?_
      exact v_iret (pc := 24) hX hZ dX11_undo_24 (by decide) (by decide) ⟨(by rw [X11_undo_r, if_pos c1]), (by rw [X11_undo_m, if_pos c1])⟩
def X11_save_m (g : mG) (m : mM) (r : Nat)  : mM := (sI (X11_lays_m g ((sI m 384 r 0)) (r + 3) (r + 1) ) 388 r 1)
theorem kK_X11_save (g : mG) (m : mM) (r : Nat)  : gK (X11_save_m g m r ) = gK m := by
  unfold X11_save_m
  repeat' split
  all_goals simp only [mm, kK_X11_lays]
theorem kN_X11_save (g : mG) (m : mM) (r : Nat)  : gN (X11_save_m g m r ) = gN m := by
  unfold X11_save_m
  repeat' split
  all_goals simp only [mm, kN_X11_lays]
theorem kI_X11_save (g : mG) (m : mM) (r : Nat)  (k a9 : Nat) (h0 : k ≠ 384) (h1 : k ≠ 388) : gI (X11_save_m g m r ) k a9 = gI m k a9 := by
  unfold X11_save_m
  repeat' split
  all_goals simp [mm, kI_X11_lays, h0, h1]
theorem kJ_X11_save (g : mG) (m : mM) (r : Nat)  : gJ (X11_save_m g m r ) = gJ m := by
  unfold X11_save_m
  repeat' split
  all_goals simp only [mm, kJ_X11_lays]
theorem kR_X11_save (g : mG) (m : mM) (r : Nat)  : gR (X11_save_m g m r ) = gR m := by
  unfold X11_save_m
  repeat' split
  all_goals simp only [mm, kR_X11_lays]
theorem kQ_X11_save (g : mG) (m : mM) (r : Nat)  : gQ (X11_save_m g m r ) = gQ m := by
  unfold X11_save_m
  repeat' split
  all_goals simp only [mm, kQ_X11_lays]
theorem kL_X11_save (g : mG) (m : mM) (r : Nat)  : gL (X11_save_m g m r ) = gL m := by
  unfold X11_save_m
  repeat' split
  all_goals simp only [mm, kL_X11_lays]
theorem kD_X11_save (g : mG) (m : mM) (r : Nat)  : gD (X11_save_m g m r ) = gD m := by
  unfold X11_save_m
  repeat' split
  all_goals simp only [mm, kD_X11_lays]
theorem kA_X11_save (g : mG) (m : mM) (r : Nat)  (c9 i9 : Nat) (h0 : c9 ≠ r + 3) : gA (X11_save_m g m r ) c9 i9 = gA m c9 i9 := by
  unfold X11_save_m
  repeat' split
  all_goals simp [mm, kA_X11_lays, h0]
set_option maxHeartbeats 4000000 in
set_option maxRecDepth 100000 in
theorem c_X11_save {l : Launch} {g : mG} (hO : mO l g) (m : mM) (r : Nat)  (hs : SR m r) : mT l g yX11_save (.code yX11_save cX11_save 1 (Option.none : Option FieldType)) 2 42 0 0 [.ref r] m (fun u m' => u = none ∧ m' = X11_save_m g m r ) nX := by
  refine mT_of hO (by decide) (Nat.le_of_ble_eq_true rfl) (fun x hX hZ => ?_)
  show mV g x m 0 0 0 [(0, .ref r)] []
  refine v_aload_n (pc := 0) hX dX11_save_0 rfl ?_
  refine v_iconst (v := 0) (pc := 1) hX dX11_save_1 (by decide) ?_
  refine v_put (m1 := (sI m 384 r 0)) (pc := 2) hX dX11_save_2 hs.k (ci := 12) (r := vwC12) rfl 0 (by decide) wd_1506 rfl rfl rfl rfl ?_
  refine v_aload_n (pc := 5) hX dX11_save_5 rfl ?_
  refine v_get (v := .ref (r + 3)) (pc := 6) hX dX11_save_6 (by simp only [mm]; exact hs.k) (ci := 12) (r := vwC12) rfl 7 (by decide) wd_1513 (fvA rfl (by simp [mm, hs.r3])) ?_
  refine v_aload_n (pc := 9) hX dX11_save_9 rfl ?_
  refine v_get (v := .ref (r + 1)) (pc := 10) hX dX11_save_10 (by simp only [mm]; exact hs.k) (ci := 12) (r := vwC12) rfl 5 (by decide) wd_1511 (fvA rfl (by simp [mm, hs.r1])) ?_
  refine v_callS (z := yX11_lays) (pc := 13) hX dX11_save_13 (c_X11_lays hO ((sI m 384 r 0)) (r + 3) (r + 1)  (by simp only [mm]; exact hs.k3) (by simp only [mm]; exact hs.k1)) wd_1585 wd_1586 wd_16 wd_1587 ⟨by decide, by decide, (by decide +kernel : (parseMethodDescriptor yX11_lays.desc).map (fun d => d.parameters.length) = some 2)⟩ rfl (Nat.le_of_ble_eq_true rfl) ⟨⟨by decide, by decide⟩, by decide, by decide⟩ (fun E m9 h9 => h9.elim) (fun r9 m9 h9 => ?_)
  obtain ⟨rfl, h8⟩ := h9
  replace h8 := h8.symm
  subst h8
  show mV g x _ _ _ _ _ []
  refine v_aload_n (pc := 16) hX dX11_save_16 rfl ?_
  refine v_iconst (v := 1) (pc := 17) hX dX11_save_17 (by decide) ?_
  refine v_put (m1 := (sI (X11_lays_m g ((sI m 384 r 0)) (r + 3) (r + 1) ) 388 r 1)) (pc := 18) hX dX11_save_18 (by simp only [mm, kK_X11_lays]; exact hs.k) (ci := 12) (r := vwC12) rfl 4 (by decide) wd_1510 rfl (by decide) (by decide) rfl ?_
  exact v_vret (pc := 21) hX hZ dX11_save_21 (by decide) (by decide) ⟨rfl, (by rw [X11_save_m])⟩
def X11_restore_m (g : mG) (m : mM) (r : Nat)  : mM := if (gI m 388 r) = 0 then ((sI m 384 r 1)) else ((sI (X11_lays_m g ((sI m 384 r 0)) (r + 1) (r + 3) ) 385 r 0))
theorem kK_X11_restore (g : mG) (m : mM) (r : Nat)  : gK (X11_restore_m g m r ) = gK m := by
  unfold X11_restore_m
  repeat' split
  all_goals simp only [mm, kK_X11_lays]
theorem kN_X11_restore (g : mG) (m : mM) (r : Nat)  : gN (X11_restore_m g m r ) = gN m := by
  unfold X11_restore_m
  repeat' split
  all_goals simp only [mm, kN_X11_lays]
theorem kI_X11_restore (g : mG) (m : mM) (r : Nat)  (k a9 : Nat) (h0 : k ≠ 384) (h1 : k ≠ 385) : gI (X11_restore_m g m r ) k a9 = gI m k a9 := by
  unfold X11_restore_m
  repeat' split
  all_goals simp [mm, kI_X11_lays, h0, h1]
theorem kJ_X11_restore (g : mG) (m : mM) (r : Nat)  : gJ (X11_restore_m g m r ) = gJ m := by
  unfold X11_restore_m
  repeat' split
  all_goals simp only [mm, kJ_X11_lays]
theorem kR_X11_restore (g : mG) (m : mM) (r : Nat)  : gR (X11_restore_m g m r ) = gR m := by
  unfold X11_restore_m
  repeat' split
  all_goals simp only [mm, kR_X11_lays]
theorem kQ_X11_restore (g : mG) (m : mM) (r : Nat)  : gQ (X11_restore_m g m r ) = gQ m := by
  unfold X11_restore_m
  repeat' split
  all_goals simp only [mm, kQ_X11_lays]
theorem kL_X11_restore (g : mG) (m : mM) (r : Nat)  : gL (X11_restore_m g m r ) = gL m := by
  unfold X11_restore_m
  repeat' split
  all_goals simp only [mm, kL_X11_lays]
theorem kD_X11_restore (g : mG) (m : mM) (r : Nat)  : gD (X11_restore_m g m r ) = gD m := by
  unfold X11_restore_m
  repeat' split
  all_goals simp only [mm, kD_X11_lays]
theorem kA_X11_restore (g : mG) (m : mM) (r : Nat)  (c9 i9 : Nat) (h0 : c9 ≠ r + 1) : gA (X11_restore_m g m r ) c9 i9 = gA m c9 i9 := by
  unfold X11_restore_m
  repeat' split
  all_goals simp [mm, kA_X11_lays, h0]
set_option maxHeartbeats 4000000 in
set_option maxRecDepth 100000 in
theorem c_X11_restore {l : Launch} {g : mG} (hO : mO l g) (m : mM) (r : Nat)  (hs : SR m r) : mT l g yX11_restore (.code yX11_restore cX11_restore 1 (Option.none : Option FieldType)) 2 42 0 0 [.ref r] m (fun u m' => u = none ∧ m' = X11_restore_m g m r ) nX := by
  refine mT_of hO (by decide) (Nat.le_of_ble_eq_true rfl) (fun x hX hZ => ?_)
  show mV g x m 0 0 0 [(0, .ref r)] []
  refine v_aload_n (pc := 0) hX dX11_restore_0 rfl ?_
  refine v_aload_n (pc := 1) hX dX11_restore_1 rfl ?_
  refine v_get (v := .int (gI m 388 r)) (pc := 2) hX dX11_restore_2 hs.k (ci := 12) (r := vwC12) rfl 4 (by decide) wd_1510 rfl ?_
  refine v_if_eq (tgt := 12) (pc := 5) hX dX11_restore_5 (by decide) (fun c1 => ?_) (fun c1 => ?_)
  ·
    refine v_iconst (v := 1) (pc := 12) hX dX11_restore_12 (by decide) ?_
    refine v_put (m1 := (sI m 384 r 1)) (pc := 13) hX dX11_restore_13 hs.k (ci := 12) (r := vwC12) rfl 0 (by decide) wd_1506 rfl rfl rfl rfl ?_
    refine v_aload_n (pc := 16) hX dX11_restore_16 rfl ?_
    refine v_get (v := .int 1) (pc := 17) hX dX11_restore_17 (by simp only [mm]; exact hs.k) (ci := 12) (r := vwC12) rfl 0 (by decide) wd_1506 (by show Value.int _ = Value.int _; simp [mm]) ?_
    refine v_if_eq (tgt := 24) (pc := 20) hX dX11_restore_20 (by decide) (fun c2 => ?_) (fun c2 => ?_)
    · exact absurd c2 (by decide)
    ·
      exact v_vret (pc := 23) hX hZ dX11_restore_23 (by decide) (by decide) ⟨rfl, (by rw [X11_restore_m, if_pos c1])⟩
  ·
    refine v_iconst (v := 0) (pc := 8) hX dX11_restore_8 (by decide) ?_
    refine v_goto (tgt := 13) (pc := 9) hX dX11_restore_9 (by decide) ?_
    refine v_put (m1 := (sI m 384 r 0)) (pc := 13) hX dX11_restore_13 hs.k (ci := 12) (r := vwC12) rfl 0 (by decide) wd_1506 rfl rfl rfl rfl ?_
    refine v_aload_n (pc := 16) hX dX11_restore_16 rfl ?_
    refine v_get (v := .int 0) (pc := 17) hX dX11_restore_17 (by simp only [mm]; exact hs.k) (ci := 12) (r := vwC12) rfl 0 (by decide) wd_1506 (by show Value.int _ = Value.int _; simp [mm]) ?_
    refine v_if_eq (tgt := 24) (pc := 20) hX dX11_restore_20 (by decide) (fun c3 => ?_) (fun c3 => ?_)
    ·
      refine v_aload_n (pc := 24) hX dX11_restore_24 rfl ?_
      refine v_get (v := .ref (r + 1)) (pc := 25) hX dX11_restore_25 (by simp only [mm]; exact hs.k) (ci := 12) (r := vwC12) rfl 5 (by decide) wd_1511 (fvA rfl (by simp [mm, hs.r1])) ?_
      refine v_aload_n (pc := 28) hX dX11_restore_28 rfl ?_
      refine v_get (v := .ref (r + 3)) (pc := 29) hX dX11_restore_29 (by simp only [mm]; exact hs.k) (ci := 12) (r := vwC12) rfl 7 (by decide) wd_1513 (fvA rfl (by simp [mm, hs.r3])) ?_
      refine v_callS (z := yX11_lays) (pc := 32) hX dX11_restore_32 (c_X11_lays hO ((sI m 384 r 0)) (r + 1) (r + 3)  (by simp only [mm]; exact hs.k1) (by simp only [mm]; exact hs.k3)) wd_1585 wd_1586 wd_16 wd_1587 ⟨by decide, by decide, (by decide +kernel : (parseMethodDescriptor yX11_lays.desc).map (fun d => d.parameters.length) = some 2)⟩ rfl (Nat.le_of_ble_eq_true rfl) ⟨⟨by decide, by decide⟩, by decide, by decide⟩ (fun E m9 h9 => h9.elim) (fun r9 m9 h9 => ?_)
      obtain ⟨rfl, h8⟩ := h9
      replace h8 := h8.symm
      subst h8
      show mV g x _ _ _ _ _ []
      refine v_aload_n (pc := 35) hX dX11_restore_35 rfl ?_
      refine v_iconst (v := 0) (pc := 36) hX dX11_restore_36 (by decide) ?_
      refine v_put (m1 := (sI (X11_lays_m g ((sI m 384 r 0)) (r + 1) (r + 3) ) 385 r 0)) (pc := 37) hX dX11_restore_37 (by simp only [mm, kK_X11_lays]; exact hs.k) (ci := 12) (r := vwC12) rfl 1 (by decide) wd_1507 rfl rfl rfl rfl ?_
      exact v_vret (pc := 40) hX hZ dX11_restore_40 (by decide) (by decide) ⟨rfl, (by rw [X11_restore_m, if_neg c1])⟩
    · exact absurd (by decide) c3
def X11_errorPosition_r (g : mG) (m : mM) (r : Nat)  : Int32 := if 0 ≤ (gI m 386 r) then (gI m 386 r) else 0
def X11_errorPosition_m (g : mG) (m : mM) (r : Nat)  : mM := if 0 ≤ (gI m 386 r) then ((sI m 384 r 0)) else ((sI m 384 r 1))
theorem kK_X11_errorPosition (g : mG) (m : mM) (r : Nat)  : gK (X11_errorPosition_m g m r ) = gK m := by
  unfold X11_errorPosition_m
  repeat' split
  all_goals simp only [mm]
theorem kN_X11_errorPosition (g : mG) (m : mM) (r : Nat)  : gN (X11_errorPosition_m g m r ) = gN m := by
  unfold X11_errorPosition_m
  repeat' split
  all_goals simp only [mm]
theorem kI_X11_errorPosition (g : mG) (m : mM) (r : Nat)  (k a9 : Nat) (h0 : k ≠ 384) : gI (X11_errorPosition_m g m r ) k a9 = gI m k a9 := by
  unfold X11_errorPosition_m
  repeat' split
  all_goals simp [mm, h0]
theorem kJ_X11_errorPosition (g : mG) (m : mM) (r : Nat)  : gJ (X11_errorPosition_m g m r ) = gJ m := by
  unfold X11_errorPosition_m
  repeat' split
  all_goals simp only [mm]
theorem kR_X11_errorPosition (g : mG) (m : mM) (r : Nat)  : gR (X11_errorPosition_m g m r ) = gR m := by
  unfold X11_errorPosition_m
  repeat' split
  all_goals simp only [mm]
theorem kA_X11_errorPosition (g : mG) (m : mM) (r : Nat)  : gA (X11_errorPosition_m g m r ) = gA m := by
  unfold X11_errorPosition_m
  repeat' split
  all_goals simp only [mm]
theorem kQ_X11_errorPosition (g : mG) (m : mM) (r : Nat)  : gQ (X11_errorPosition_m g m r ) = gQ m := by
  unfold X11_errorPosition_m
  repeat' split
  all_goals simp only [mm]
theorem kL_X11_errorPosition (g : mG) (m : mM) (r : Nat)  : gL (X11_errorPosition_m g m r ) = gL m := by
  unfold X11_errorPosition_m
  repeat' split
  all_goals simp only [mm]
theorem kD_X11_errorPosition (g : mG) (m : mM) (r : Nat)  : gD (X11_errorPosition_m g m r ) = gD m := by
  unfold X11_errorPosition_m
  repeat' split
  all_goals simp only [mm]
set_option maxHeartbeats 4000000 in
set_option maxRecDepth 100000 in
theorem c_X11_errorPosition {l : Launch} {g : mG} (hO : mO l g) (m : mM) (r : Nat)  (hs : SR m r) : mT l g yX11_errorPosition (.code yX11_errorPosition cX11_errorPosition 1 (Option.some FieldType.int)) 1 20 0 0 [.ref r] m (fun u m' => u = some (.int (X11_errorPosition_r g m r )) ∧ m' = X11_errorPosition_m g m r ) nX := by
  refine mT_of hO (by decide) (Nat.le_of_ble_eq_true rfl) (fun x hX hZ => ?_)
  show mV g x m 0 0 0 [(0, .ref r)] []
  refine v_aload_n (pc := 0) hX dX11_errorPosition_0 rfl ?_
  refine v_aload_n (pc := 1) hX dX11_errorPosition_1 rfl ?_
  refine v_get (v := .int (gI m 386 r)) (pc := 2) hX dX11_errorPosition_2 hs.k (ci := 12) (r := vwC12) rfl 2 (by decide) wd_1508 rfl ?_
  refine v_if_ge (tgt := 12) (pc := 5) hX dX11_errorPosition_5 (by decide) (fun c1 => ?_) (fun c1 => ?_)
  ·
    refine v_iconst (v := 0) (pc := 12) hX dX11_errorPosition_12 (by decide) ?_
    refine v_put (m1 := (sI m 384 r 0)) (pc := 13) hX dX11_errorPosition_13 hs.k (ci := 12) (r := vwC12) rfl 0 (by decide) wd_1506 rfl rfl rfl rfl ?_
    refine v_aload_n (pc := 16) hX dX11_errorPosition_16 rfl ?_
    refine v_get (v := .int 0) (pc := 17) hX dX11_errorPosition_17 (by simp only [mm]; exact hs.k) (ci := 12) (r := vwC12) rfl 0 (by decide) wd_1506 (by show Value.int _ = Value.int _; simp [mm]) ?_
    refine v_if_ne (tgt := 30) (pc := 20) hX dX11_errorPosition_20 (by decide) (fun c2 => ?_) (fun c2 => ?_)
    · exact absurd (by decide) c2
    ·
      refine v_aload_n (pc := 23) hX dX11_errorPosition_23 rfl ?_
      refine v_get (v := .int (gI m 386 r)) (pc := 24) hX dX11_errorPosition_24 (by simp only [mm]; exact hs.k) (ci := 12) (r := vwC12) rfl 2 (by decide) wd_1508 (by show Value.int _ = Value.int _; simp [mm]) ?_
      refine v_goto (tgt := 31) (pc := 27) hX dX11_errorPosition_27 (by decide) ?_
      exact v_iret (pc := 31) hX hZ dX11_errorPosition_31 (by decide) (by decide) ⟨(by rw [X11_errorPosition_r, if_pos c1]), (by rw [X11_errorPosition_m, if_pos c1])⟩
  ·
    refine v_iconst (v := 1) (pc := 8) hX dX11_errorPosition_8 (by decide) ?_
    refine v_goto (tgt := 13) (pc := 9) hX dX11_errorPosition_9 (by decide) ?_
    refine v_put (m1 := (sI m 384 r 1)) (pc := 13) hX dX11_errorPosition_13 hs.k (ci := 12) (r := vwC12) rfl 0 (by decide) wd_1506 rfl rfl rfl rfl ?_
    refine v_aload_n (pc := 16) hX dX11_errorPosition_16 rfl ?_
    refine v_get (v := .int 1) (pc := 17) hX dX11_errorPosition_17 (by simp only [mm]; exact hs.k) (ci := 12) (r := vwC12) rfl 0 (by decide) wd_1506 (by show Value.int _ = Value.int _; simp [mm]) ?_
    refine v_if_ne (tgt := 30) (pc := 20) hX dX11_errorPosition_20 (by decide) (fun c3 => ?_) (fun c3 => ?_)
    ·
      refine v_iconst (v := 0) (pc := 30) hX dX11_errorPosition_30 (by decide) ?_
      exact v_iret (pc := 31) hX hZ dX11_errorPosition_31 (by decide) (by decide) ⟨(by rw [X11_errorPosition_r, if_neg c1]), (by rw [X11_errorPosition_m, if_neg c1])⟩
    · exact absurd c3 (by decide)
def X11_failedCommand_r (g : mG) (m : mM) (r : Nat)  : Int32 := if 0 ≤ (gI m 387 r) then (gI m 387 r) else 0
def X11_failedCommand_m (g : mG) (m : mM) (r : Nat)  : mM := if 0 ≤ (gI m 387 r) then ((sI m 384 r 0)) else ((sI m 384 r 1))
theorem kK_X11_failedCommand (g : mG) (m : mM) (r : Nat)  : gK (X11_failedCommand_m g m r ) = gK m := by
  unfold X11_failedCommand_m
  repeat' split
  all_goals simp only [mm]
theorem kN_X11_failedCommand (g : mG) (m : mM) (r : Nat)  : gN (X11_failedCommand_m g m r ) = gN m := by
  unfold X11_failedCommand_m
  repeat' split
  all_goals simp only [mm]
theorem kI_X11_failedCommand (g : mG) (m : mM) (r : Nat)  (k a9 : Nat) (h0 : k ≠ 384) : gI (X11_failedCommand_m g m r ) k a9 = gI m k a9 := by
  unfold X11_failedCommand_m
  repeat' split
  all_goals simp [mm, h0]
theorem kJ_X11_failedCommand (g : mG) (m : mM) (r : Nat)  : gJ (X11_failedCommand_m g m r ) = gJ m := by
  unfold X11_failedCommand_m
  repeat' split
  all_goals simp only [mm]
theorem kR_X11_failedCommand (g : mG) (m : mM) (r : Nat)  : gR (X11_failedCommand_m g m r ) = gR m := by
  unfold X11_failedCommand_m
  repeat' split
  all_goals simp only [mm]
theorem kA_X11_failedCommand (g : mG) (m : mM) (r : Nat)  : gA (X11_failedCommand_m g m r ) = gA m := by
  unfold X11_failedCommand_m
  repeat' split
  all_goals simp only [mm]
theorem kQ_X11_failedCommand (g : mG) (m : mM) (r : Nat)  : gQ (X11_failedCommand_m g m r ) = gQ m := by
  unfold X11_failedCommand_m
  repeat' split
  all_goals simp only [mm]
theorem kL_X11_failedCommand (g : mG) (m : mM) (r : Nat)  : gL (X11_failedCommand_m g m r ) = gL m := by
  unfold X11_failedCommand_m
  repeat' split
  all_goals simp only [mm]
theorem kD_X11_failedCommand (g : mG) (m : mM) (r : Nat)  : gD (X11_failedCommand_m g m r ) = gD m := by
  unfold X11_failedCommand_m
  repeat' split
  all_goals simp only [mm]
set_option maxHeartbeats 4000000 in
set_option maxRecDepth 100000 in
theorem c_X11_failedCommand {l : Launch} {g : mG} (hO : mO l g) (m : mM) (r : Nat)  (hs : SR m r) : mT l g yX11_failedCommand (.code yX11_failedCommand cX11_failedCommand 1 (Option.some FieldType.int)) 1 20 0 0 [.ref r] m (fun u m' => u = some (.int (X11_failedCommand_r g m r )) ∧ m' = X11_failedCommand_m g m r ) nX := by
  refine mT_of hO (by decide) (Nat.le_of_ble_eq_true rfl) (fun x hX hZ => ?_)
  show mV g x m 0 0 0 [(0, .ref r)] []
  refine v_aload_n (pc := 0) hX dX11_failedCommand_0 rfl ?_
  refine v_aload_n (pc := 1) hX dX11_failedCommand_1 rfl ?_
  refine v_get (v := .int (gI m 387 r)) (pc := 2) hX dX11_failedCommand_2 hs.k (ci := 12) (r := vwC12) rfl 3 (by decide) wd_1509 rfl ?_
  refine v_if_ge (tgt := 12) (pc := 5) hX dX11_failedCommand_5 (by decide) (fun c1 => ?_) (fun c1 => ?_)
  ·
    refine v_iconst (v := 0) (pc := 12) hX dX11_failedCommand_12 (by decide) ?_
    refine v_put (m1 := (sI m 384 r 0)) (pc := 13) hX dX11_failedCommand_13 hs.k (ci := 12) (r := vwC12) rfl 0 (by decide) wd_1506 rfl rfl rfl rfl ?_
    refine v_aload_n (pc := 16) hX dX11_failedCommand_16 rfl ?_
    refine v_get (v := .int 0) (pc := 17) hX dX11_failedCommand_17 (by simp only [mm]; exact hs.k) (ci := 12) (r := vwC12) rfl 0 (by decide) wd_1506 (by show Value.int _ = Value.int _; simp [mm]) ?_
    refine v_if_ne (tgt := 30) (pc := 20) hX dX11_failedCommand_20 (by decide) (fun c2 => ?_) (fun c2 => ?_)
    · exact absurd (by decide) c2
    ·
      refine v_aload_n (pc := 23) hX dX11_failedCommand_23 rfl ?_
      refine v_get (v := .int (gI m 387 r)) (pc := 24) hX dX11_failedCommand_24 (by simp only [mm]; exact hs.k) (ci := 12) (r := vwC12) rfl 3 (by decide) wd_1509 (by show Value.int _ = Value.int _; simp [mm]) ?_
      refine v_goto (tgt := 31) (pc := 27) hX dX11_failedCommand_27 (by decide) ?_
      exact v_iret (pc := 31) hX hZ dX11_failedCommand_31 (by decide) (by decide) ⟨(by rw [X11_failedCommand_r, if_pos c1]), (by rw [X11_failedCommand_m, if_pos c1])⟩
  ·
    refine v_iconst (v := 1) (pc := 8) hX dX11_failedCommand_8 (by decide) ?_
    refine v_goto (tgt := 13) (pc := 9) hX dX11_failedCommand_9 (by decide) ?_
    refine v_put (m1 := (sI m 384 r 1)) (pc := 13) hX dX11_failedCommand_13 hs.k (ci := 12) (r := vwC12) rfl 0 (by decide) wd_1506 rfl rfl rfl rfl ?_
    refine v_aload_n (pc := 16) hX dX11_failedCommand_16 rfl ?_
    refine v_get (v := .int 1) (pc := 17) hX dX11_failedCommand_17 (by simp only [mm]; exact hs.k) (ci := 12) (r := vwC12) rfl 0 (by decide) wd_1506 (by show Value.int _ = Value.int _; simp [mm]) ?_
    refine v_if_ne (tgt := 30) (pc := 20) hX dX11_failedCommand_20 (by decide) (fun c3 => ?_) (fun c3 => ?_)
    ·
      refine v_iconst (v := 0) (pc := 30) hX dX11_failedCommand_30 (by decide) ?_
      exact v_iret (pc := 31) hX hZ dX11_failedCommand_31 (by decide) (by decide) ⟨(by rw [X11_failedCommand_r, if_neg c1]), (by rw [X11_failedCommand_m, if_neg c1])⟩
    · exact absurd c3 (by decide)
def X11_outputAt_r (g : mG) (m : mM) (r : Nat) (a : Int32)  : Int32 := if (isI a 0 ((gI m 403 r) - 1)) = 0 then 97 else (((gA m (r + 7) (a.toNatClampNeg)).toUInt32 % 65536).toInt32)
def X11_outputAt_m (g : mG) (m : mM) (r : Nat) (a : Int32)  : mM := if (isI a 0 ((gI m 403 r) - 1)) = 0 then ((sI m 384 r 1)) else ((sI m 384 r 0))
theorem kK_X11_outputAt (g : mG) (m : mM) (r : Nat) (a : Int32)  : gK (X11_outputAt_m g m r a ) = gK m := by
  unfold X11_outputAt_m
  repeat' split
  all_goals simp only [mm]
theorem kN_X11_outputAt (g : mG) (m : mM) (r : Nat) (a : Int32)  : gN (X11_outputAt_m g m r a ) = gN m := by
  unfold X11_outputAt_m
  repeat' split
  all_goals simp only [mm]
theorem kI_X11_outputAt (g : mG) (m : mM) (r : Nat) (a : Int32)  (k a9 : Nat) (h0 : k ≠ 384) : gI (X11_outputAt_m g m r a ) k a9 = gI m k a9 := by
  unfold X11_outputAt_m
  repeat' split
  all_goals simp [mm, h0]
theorem kJ_X11_outputAt (g : mG) (m : mM) (r : Nat) (a : Int32)  : gJ (X11_outputAt_m g m r a ) = gJ m := by
  unfold X11_outputAt_m
  repeat' split
  all_goals simp only [mm]
theorem kR_X11_outputAt (g : mG) (m : mM) (r : Nat) (a : Int32)  : gR (X11_outputAt_m g m r a ) = gR m := by
  unfold X11_outputAt_m
  repeat' split
  all_goals simp only [mm]
theorem kA_X11_outputAt (g : mG) (m : mM) (r : Nat) (a : Int32)  : gA (X11_outputAt_m g m r a ) = gA m := by
  unfold X11_outputAt_m
  repeat' split
  all_goals simp only [mm]
theorem kQ_X11_outputAt (g : mG) (m : mM) (r : Nat) (a : Int32)  : gQ (X11_outputAt_m g m r a ) = gQ m := by
  unfold X11_outputAt_m
  repeat' split
  all_goals simp only [mm]
theorem kL_X11_outputAt (g : mG) (m : mM) (r : Nat) (a : Int32)  : gL (X11_outputAt_m g m r a ) = gL m := by
  unfold X11_outputAt_m
  repeat' split
  all_goals simp only [mm]
theorem kD_X11_outputAt (g : mG) (m : mM) (r : Nat) (a : Int32)  : gD (X11_outputAt_m g m r a ) = gD m := by
  unfold X11_outputAt_m
  repeat' split
  all_goals simp only [mm]
set_option maxHeartbeats 4000000 in
set_option maxRecDepth 100000 in
theorem c_X11_outputAt {l : Launch} {g : mG} (hO : mO l g) (m : mM) (r : Nat) (a : Int32)  (hs : SR m r) (hLn : okI (gI m 403 r) 50) : mT l g yX11_outputAt (.code yX11_outputAt cX11_outputAt 2 (Option.some FieldType.char)) 2 42 0 0 [.ref r, .int a] m (fun u m' => u = some (.int (X11_outputAt_r g m r a )) ∧ m' = X11_outputAt_m g m r a ) nX := by
  refine mT_of hO (by decide) (Nat.le_of_ble_eq_true rfl) (fun x hX hZ => ?_)
  show mV g x m 0 0 0 [(0, .ref r), (1, .int a)] []
  refine v_aload_n (pc := 0) hX dX11_outputAt_0 rfl ?_
  refine v_iload_n (pc := 1) hX dX11_outputAt_1 rfl ?_
  refine v_iconst (v := 0) (pc := 2) hX dX11_outputAt_2 (by decide) ?_
  refine v_aload_n (pc := 3) hX dX11_outputAt_3 rfl ?_
  refine v_get (v := .int (gI m 403 r)) (pc := 4) hX dX11_outputAt_4 hs.k (ci := 12) (r := vwC12) rfl 19 (by decide) wd_1525 rfl ?_
  refine v_iconst (v := 1) (pc := 7) hX dX11_outputAt_7 (by decide) ?_
  refine v_isub (pc := 8) hX dX11_outputAt_8 ?_
  refine v_callS (z := yX11_isIn) (pc := 9) hX dX11_outputAt_9 (c_isI hO m a 0 ((gI m 403 r) - 1)) wd_1592 wd_1593 wd_16 wd_1594 ⟨by decide, by decide, (by decide +kernel : (parseMethodDescriptor yX11_isIn.desc).map (fun d => d.parameters.length) = some 3)⟩ rfl (Nat.le_of_ble_eq_true rfl) ⟨⟨by decide, by decide⟩, by decide, by decide⟩ (fun E m9 h9 => h9.elim) (fun r9 m9 h9 => ?_)
  obtain ⟨rfl, h8⟩ := h9
  replace h8 := h8.symm
  subst h8
  show mV g x _ _ _ _ _ [.int (isI a 0 ((gI m 403 r) - 1)), .ref r]
  refine v_if_eq (tgt := 19) (pc := 12) hX dX11_outputAt_12 (by decide) (fun c1 => ?_) (fun c1 => ?_)
  ·
    refine v_iconst (v := 1) (pc := 19) hX dX11_outputAt_19 (by decide) ?_
    refine v_put (m1 := (sI m 384 r 1)) (pc := 20) hX dX11_outputAt_20 hs.k (ci := 12) (r := vwC12) rfl 0 (by decide) wd_1506 rfl rfl rfl rfl ?_
    refine v_aload_n (pc := 23) hX dX11_outputAt_23 rfl ?_
    refine v_get (v := .int 1) (pc := 24) hX dX11_outputAt_24 (by simp only [mm]; exact hs.k) (ci := 12) (r := vwC12) rfl 0 (by decide) wd_1506 (by show Value.int _ = Value.int _; simp [mm]) ?_
    refine v_if_ne (tgt := 40) (pc := 27) hX dX11_outputAt_27 (by decide) (fun c2 => ?_) (fun c2 => ?_)
    ·
      refine v_bipush (v := 97) (pc := 40) hX dX11_outputAt_40 (by decide) ?_
      exact v_zret (pc := 42) hX hZ dX11_outputAt_42 (by decide) (by decide) (by decide) ⟨(by rw [X11_outputAt_r, if_pos c1]), (by rw [X11_outputAt_m, if_pos c1])⟩
    · exact absurd c2 (by decide)
  ·
    have hx := idx_isI (a := a) (by assumption) hLn
    have hx2 := hx.2.1
    refine v_iconst (v := 0) (pc := 15) hX dX11_outputAt_15 (by decide) ?_
    refine v_goto (tgt := 20) (pc := 16) hX dX11_outputAt_16 (by decide) ?_
    refine v_put (m1 := (sI m 384 r 0)) (pc := 20) hX dX11_outputAt_20 hs.k (ci := 12) (r := vwC12) rfl 0 (by decide) wd_1506 rfl rfl rfl rfl ?_
    refine v_aload_n (pc := 23) hX dX11_outputAt_23 rfl ?_
    refine v_get (v := .int 0) (pc := 24) hX dX11_outputAt_24 (by simp only [mm]; exact hs.k) (ci := 12) (r := vwC12) rfl 0 (by decide) wd_1506 (by show Value.int _ = Value.int _; simp [mm]) ?_
    refine v_if_ne (tgt := 40) (pc := 27) hX dX11_outputAt_27 (by decide) (fun c3 => ?_) (fun c3 => ?_)
    · exact absurd (by decide) c3
    ·
      refine v_aload_n (pc := 30) hX dX11_outputAt_30 rfl ?_
      refine v_get (v := .ref (r + 7)) (pc := 31) hX dX11_outputAt_31 (by simp only [mm]; exact hs.k) (ci := 12) (r := vwC12) rfl 11 (by decide) wd_1517 (fvA rfl (by simp [mm, hs.r7])) ?_
      refine v_iload_n (pc := 34) hX dX11_outputAt_34 rfl ?_
      refine v_iald (j := a.toNatClampNeg) (v := (gA m (r + 7) (a.toNatClampNeg))) (pc := 35) hX dX11_outputAt_35 (by simp only [mm]; exact hs.k7) hx.1 (by omega) (by decide) rfl ?_
      refine v_i2c (v := ((gA m (r + 7) (a.toNatClampNeg)).toUInt32 % 65536).toInt32) (pc := 36) hX dX11_outputAt_36 rfl ?_
      refine v_goto (tgt := 42) (pc := 37) hX dX11_outputAt_37 (by decide) ?_
      exact v_zret (pc := 42) hX hZ dX11_outputAt_42 (nar_c _) (by decide) (by decide) ⟨(by rw [X11_outputAt_r, if_neg c1]), (by rw [X11_outputAt_m, if_neg c1])⟩
