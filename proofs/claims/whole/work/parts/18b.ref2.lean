theorem lt8 {C : Nat} (h : ¬ nI C = 8) (h8 : C ≤ 8) : C ≤ 7 := by
  rcases Nat.lt_or_ge C 8 with q | q
  · omega
  · exact absurd (show nI C = 8 by rw [show C = 8 by omega]; rfl) h
theorem eq8 {C : Nat} (h : nI C = 8) (h8 : C ≤ 8) : C = 8 := (nI_eq (a := C) (b := 8) (by omega) (by decide)).mp h
def X11_ends_l2 (g : mG) (r : Nat) (a : Int32) (C : Nat) : Nat → Nat → Nat → mM → Int32 × mM
  | 0, j, c2, m => (a, (sI m 385 r ((nI c2) + 1)))
  | n + 1, j, c2, m => X11_ends_l2 g r a C n (j + 1) c2 ((sA m (r + 4) (c2 * 85 + j) (gA m (r + 2) j)))
set_option maxHeartbeats 4000000 in
set_option maxRecDepth 100000 in
theorem lp_X11_ends_l2 {l : Launch} {g : mG} {x : mCx} (hO : mO l g) (r : Nat) (a : Int32) (C : Nat) (hC8 : C ≤ 8) {pst : Option Value → mM → Prop} {XX : String → mM → Prop} (hX : mX l g x cX11_ends yX11_ends { frames := 2, cells := 0, slots := 0, locals := 42 } 3) (hZ : mZ g x (Option.some FieldType.int) [] pst XX 0 0) : ∀ (n j : Nat) (c2 : Nat) (m : mM) (hs : SR m r) (hc2 : gI m 385 r = nI c2) (hc7 : c2 ≤ 7) (hj : j + n = 85) (hp : pst (some (.int ((X11_ends_l2 g r a C n j c2 m).1))) ((X11_ends_l2 g r a C n j c2 m).2)), mV g x m 0 0 71 [(0, .ref r), (1, .int a), (2, .int (nI j))] [] := by
  intro n
  induction n with
  | zero =>
    intro j c2 m hs hc2 hc7 hj hp
    refine v_iload_n (pc := 71) hX dX11_ends_71 rfl ?_
    refine v_bipush (v := 85) (pc := 72) hX dX11_ends_72 (by decide) ?_
    refine v_icmp_ge (tgt := 103) (pc := 74) hX dX11_ends_74 (by decide) (fun c1 => ?_) (fun c1 => ?_)
    ·
      refine v_aload_n (pc := 103) hX dX11_ends_103 rfl ?_
      refine v_dup (pc := 104) hX dX11_ends_104 rfl ?_
      refine v_get (v := .int (nI c2)) (pc := 105) hX dX11_ends_105 hs.k (ci := 12) (r := vwC12) rfl 1 (by decide) wd_1507 (congrArg Value.int hc2) ?_
      refine v_iconst (v := 1) (pc := 108) hX dX11_ends_108 (by decide) ?_
      refine v_iadd (pc := 109) hX dX11_ends_109 ?_
      refine v_put (m1 := (sI m 385 r ((nI c2) + 1))) (pc := 110) hX dX11_ends_110 hs.k (ci := 12) (r := vwC12) rfl 1 (by decide) wd_1507 rfl rfl rfl rfl ?_
      refine v_iload_n (pc := 113) hX dX11_ends_113 rfl ?_
      exact v_iret (pc := 114) hX hZ dX11_ends_114 (by decide) (by decide) (by rw [X11_ends_l2] at hp; exact hp)
    · exact absurd (show nI 85 ≤ nI j from nI_le (by omega) (by omega)) c1
  | succ n ih =>
    intro j c2 m hs hc2 hc7 hj hp
    refine v_iload_n (pc := 71) hX dX11_ends_71 rfl ?_
    refine v_bipush (v := 85) (pc := 72) hX dX11_ends_72 (by decide) ?_
    refine v_icmp_ge (tgt := 103) (pc := 74) hX dX11_ends_74 (by decide) (fun c1 => ?_) (fun c1 => ?_)
    · exact absurd c1 (show ¬ nI 85 ≤ nI j from nI_ge (by omega) (by omega))
    ·
      refine v_aload_n (pc := 77) hX dX11_ends_77 rfl ?_
      refine v_get (v := .ref (r + 4)) (pc := 78) hX dX11_ends_78 hs.k (ci := 12) (r := vwC12) rfl 8 (by decide) wd_1514 (fvA rfl hs.r4) ?_
      refine v_aload_n (pc := 81) hX dX11_ends_81 rfl ?_
      refine v_get (v := .int (nI c2)) (pc := 82) hX dX11_ends_82 hs.k (ci := 12) (r := vwC12) rfl 1 (by decide) wd_1507 (congrArg Value.int hc2) ?_
      refine v_bipush (v := 85) (pc := 85) hX dX11_ends_85 (by decide) ?_
      refine v_imul (pc := 87) hX dX11_ends_87 ?_
      refine v_iload_n (pc := 88) hX dX11_ends_88 rfl ?_
      refine v_iadd (pc := 89) hX dX11_ends_89 ?_
      refine v_aload_n (pc := 90) hX dX11_ends_90 rfl ?_
      refine v_get (v := .ref (r + 2)) (pc := 91) hX dX11_ends_91 hs.k (ci := 12) (r := vwC12) rfl 6 (by decide) wd_1512 (fvA rfl hs.r2) ?_
      refine v_iload_n (pc := 94) hX dX11_ends_94 rfl ?_
      refine v_iald (j := j) (v := (gA m (r + 2) j)) (pc := 95) hX dX11_ends_95 hs.k2 rfl (by omega) (by decide) rfl ?_
      refine v_iast (j := c2 * 85 + j) (pc := 96) hX dX11_ends_96 hs.k4 (ix_c c2 j) (by omega) (by decide) ?_
      refine v_iinc (w := nI (j + 1)) (pc := 97) hX dX11_ends_97 rfl (nI_1 _) (by decide) rfl ?_
      refine v_goto (tgt := 71) (pc := 100) hX dX11_ends_100 (by decide) ?_
      refine mV_sub (lv' := [(0, .ref r), (1, .int a), (2, .int (nI (j + 1)))]) ⟨rfl, rfl, rfl, trivial⟩ ?_
      exact ih (j + 1) c2 ((sA m (r + 4) (c2 * 85 + j) (gA m (r + 2) j))) (hs.to (by simp only [mm]) (by simp only [mm])) (by simp [mm, hc2]) hc7 (by omega) (by rw [X11_ends_l2] at hp; exact hp)
theorem kK_X11_ends_l2 (g : mG) (r : Nat) (a : Int32) (C : Nat) : ∀ (n j : Nat) (c2 : Nat) (m : mM), gK ((X11_ends_l2 g r a C n j c2 m).2) = gK m := by
  intro n
  induction n with
  | zero =>
    intro j c2 m
    rw [X11_ends_l2]
    repeat' split
    all_goals simp only [mm]
  | succ n ih =>
    intro j c2 m
    rw [X11_ends_l2]
    repeat' split
    all_goals simp only [mm, ih]
theorem kN_X11_ends_l2 (g : mG) (r : Nat) (a : Int32) (C : Nat) : ∀ (n j : Nat) (c2 : Nat) (m : mM), gN ((X11_ends_l2 g r a C n j c2 m).2) = gN m := by
  intro n
  induction n with
  | zero =>
    intro j c2 m
    rw [X11_ends_l2]
    repeat' split
    all_goals simp only [mm]
  | succ n ih =>
    intro j c2 m
    rw [X11_ends_l2]
    repeat' split
    all_goals simp only [mm, ih]
theorem kI_X11_ends_l2 (g : mG) (r : Nat) (a : Int32) (C : Nat) (k a9 : Nat) (h0 : k ≠ 385) : ∀ (n j : Nat) (c2 : Nat) (m : mM), gI ((X11_ends_l2 g r a C n j c2 m).2) k a9 = gI m k a9 := by
  intro n
  induction n with
  | zero =>
    intro j c2 m
    rw [X11_ends_l2]
    repeat' split
    all_goals simp [mm, h0]
  | succ n ih =>
    intro j c2 m
    rw [X11_ends_l2]
    repeat' split
    all_goals simp [mm, ih, h0]
theorem kJ_X11_ends_l2 (g : mG) (r : Nat) (a : Int32) (C : Nat) : ∀ (n j : Nat) (c2 : Nat) (m : mM), gJ ((X11_ends_l2 g r a C n j c2 m).2) = gJ m := by
  intro n
  induction n with
  | zero =>
    intro j c2 m
    rw [X11_ends_l2]
    repeat' split
    all_goals simp only [mm]
  | succ n ih =>
    intro j c2 m
    rw [X11_ends_l2]
    repeat' split
    all_goals simp only [mm, ih]
theorem kR_X11_ends_l2 (g : mG) (r : Nat) (a : Int32) (C : Nat) : ∀ (n j : Nat) (c2 : Nat) (m : mM), gR ((X11_ends_l2 g r a C n j c2 m).2) = gR m := by
  intro n
  induction n with
  | zero =>
    intro j c2 m
    rw [X11_ends_l2]
    repeat' split
    all_goals simp only [mm]
  | succ n ih =>
    intro j c2 m
    rw [X11_ends_l2]
    repeat' split
    all_goals simp only [mm, ih]
theorem kQ_X11_ends_l2 (g : mG) (r : Nat) (a : Int32) (C : Nat) : ∀ (n j : Nat) (c2 : Nat) (m : mM), gQ ((X11_ends_l2 g r a C n j c2 m).2) = gQ m := by
  intro n
  induction n with
  | zero =>
    intro j c2 m
    rw [X11_ends_l2]
    repeat' split
    all_goals simp only [mm]
  | succ n ih =>
    intro j c2 m
    rw [X11_ends_l2]
    repeat' split
    all_goals simp only [mm, ih]
theorem kL_X11_ends_l2 (g : mG) (r : Nat) (a : Int32) (C : Nat) : ∀ (n j : Nat) (c2 : Nat) (m : mM), gL ((X11_ends_l2 g r a C n j c2 m).2) = gL m := by
  intro n
  induction n with
  | zero =>
    intro j c2 m
    rw [X11_ends_l2]
    repeat' split
    all_goals simp only [mm]
  | succ n ih =>
    intro j c2 m
    rw [X11_ends_l2]
    repeat' split
    all_goals simp only [mm, ih]
theorem kD_X11_ends_l2 (g : mG) (r : Nat) (a : Int32) (C : Nat) : ∀ (n j : Nat) (c2 : Nat) (m : mM), gD ((X11_ends_l2 g r a C n j c2 m).2) = gD m := by
  intro n
  induction n with
  | zero =>
    intro j c2 m
    rw [X11_ends_l2]
    repeat' split
    all_goals simp only [mm]
  | succ n ih =>
    intro j c2 m
    rw [X11_ends_l2]
    repeat' split
    all_goals simp only [mm, ih]
theorem kA_X11_ends_l2 (g : mG) (r : Nat) (a : Int32) (C : Nat) (c9 i9 : Nat) (h0 : c9 ≠ r + 4) : ∀ (n j : Nat) (c2 : Nat) (m : mM), gA ((X11_ends_l2 g r a C n j c2 m).2) c9 i9 = gA m c9 i9 := by
  intro n
  induction n with
  | zero =>
    intro j c2 m
    rw [X11_ends_l2]
    repeat' split
    all_goals simp [mm, h0]
  | succ n ih =>
    intro j c2 m
    rw [X11_ends_l2]
    repeat' split
    all_goals simp [mm, ih, h0]
def X11_ends_l1 (g : mG) (r : Nat) (a : Int32) (C : Nat) : Nat → Nat → mM → Int32 × mM
  | 0, j, m => X11_ends_l2 g r a C 85 0 ((C - 1)) ((sI m 385 r ((nI C) - 1)))
  | n + 1, j, m => X11_ends_l1 g r a C n (j + 1)  ((sA m (r + 4) j (gA m (r + 4) (j + 85))))
set_option maxHeartbeats 4000000 in
set_option maxRecDepth 100000 in
theorem lp_X11_ends_l1 {l : Launch} {g : mG} {x : mCx} (hO : mO l g) (r : Nat) (a : Int32) (C : Nat) (hC8 : C ≤ 8) {pst : Option Value → mM → Prop} {XX : String → mM → Prop} (hX : mX l g x cX11_ends yX11_ends { frames := 2, cells := 0, slots := 0, locals := 42 } 3) (hZ : mZ g x (Option.some FieldType.int) [] pst XX 0 0) : ∀ (n j : Nat)  (m : mM) (hs : SR m r) (hC : gI m 385 r = nI C) (h8c : C = 8) (hj : j + n = 595) (hp : pst (some (.int ((X11_ends_l1 g r a C n j  m).1))) ((X11_ends_l1 g r a C n j  m).2)), mV g x m 0 0 31 [(0, .ref r), (1, .int a), (2, .int (nI j))] [] := by
  intro n
  induction n with
  | zero =>
    intro j  m hs hC h8c hj hp
    refine v_iload_n (pc := 31) hX dX11_ends_31 rfl ?_
    refine v_sipush (v := 595) (pc := 32) hX dX11_ends_32 (by decide) ?_
    refine v_icmp_ge (tgt := 59) (pc := 35) hX dX11_ends_35 (by decide) (fun c1 => ?_) (fun c1 => ?_)
    ·
      refine v_aload_n (pc := 59) hX dX11_ends_59 rfl ?_
      refine v_dup (pc := 60) hX dX11_ends_60 rfl ?_
      refine v_get (v := .int (nI C)) (pc := 61) hX dX11_ends_61 hs.k (ci := 12) (r := vwC12) rfl 1 (by decide) wd_1507 (congrArg Value.int hC) ?_
      refine v_iconst (v := 1) (pc := 64) hX dX11_ends_64 (by decide) ?_
      refine v_isub (pc := 65) hX dX11_ends_65 ?_
      refine v_put (m1 := (sI m 385 r ((nI C) - 1))) (pc := 66) hX dX11_ends_66 hs.k (ci := 12) (r := vwC12) rfl 1 (by decide) wd_1507 rfl rfl rfl rfl ?_
      refine v_iconst (v := 0) (pc := 69) hX dX11_ends_69 (by decide) ?_
      refine v_istore_n (pc := 70) hX dX11_ends_70 (by decide) rfl ?_
      refine mV_sub (lv' := [(0, .ref r), (1, .int a), (2, .int (nI 0))]) ⟨rfl, rfl, rfl, trivial⟩ ?_
      exact lp_X11_ends_l2 hO r a C hC8 hX hZ 85 0 ((C - 1)) ((sI m 385 r ((nI C) - 1))) (hs.to (by simp only [mm]) (by simp only [mm])) (by simp [mm]; rw [show (1 : Int32) = nI 1 from rfl, sub_nI (by omega)]) (by omega) (by omega) (by rw [X11_ends_l1] at hp; exact hp)
    · exact absurd (show nI 595 ≤ nI j from nI_le (by omega) (by omega)) c1
  | succ n ih =>
    intro j  m hs hC h8c hj hp
    refine v_iload_n (pc := 31) hX dX11_ends_31 rfl ?_
    refine v_sipush (v := 595) (pc := 32) hX dX11_ends_32 (by decide) ?_
    refine v_icmp_ge (tgt := 59) (pc := 35) hX dX11_ends_35 (by decide) (fun c1 => ?_) (fun c1 => ?_)
    · exact absurd c1 (show ¬ nI 595 ≤ nI j from nI_ge (by omega) (by omega))
    ·
      refine v_aload_n (pc := 38) hX dX11_ends_38 rfl ?_
      refine v_get (v := .ref (r + 4)) (pc := 39) hX dX11_ends_39 hs.k (ci := 12) (r := vwC12) rfl 8 (by decide) wd_1514 (fvA rfl hs.r4) ?_
      refine v_iload_n (pc := 42) hX dX11_ends_42 rfl ?_
      refine v_aload_n (pc := 43) hX dX11_ends_43 rfl ?_
      refine v_get (v := .ref (r + 4)) (pc := 44) hX dX11_ends_44 hs.k (ci := 12) (r := vwC12) rfl 8 (by decide) wd_1514 (fvA rfl hs.r4) ?_
      refine v_iload_n (pc := 47) hX dX11_ends_47 rfl ?_
      refine v_bipush (v := 85) (pc := 48) hX dX11_ends_48 (by decide) ?_
      refine v_iadd (pc := 50) hX dX11_ends_50 ?_
      refine v_iald (j := j + 85) (v := (gA m (r + 4) (j + 85))) (pc := 51) hX dX11_ends_51 hs.k4 (ix_pl j 85) (by omega) (by decide) rfl ?_
      refine v_iast (j := j) (pc := 52) hX dX11_ends_52 hs.k4 rfl (by omega) (by decide) ?_
      refine v_iinc (w := nI (j + 1)) (pc := 53) hX dX11_ends_53 rfl (nI_1 _) (by decide) rfl ?_
      refine v_goto (tgt := 31) (pc := 56) hX dX11_ends_56 (by decide) ?_
      refine mV_sub (lv' := [(0, .ref r), (1, .int a), (2, .int (nI (j + 1)))]) ⟨rfl, rfl, rfl, trivial⟩ ?_
      exact ih (j + 1)  ((sA m (r + 4) j (gA m (r + 4) (j + 85)))) (hs.to (by simp only [mm]) (by simp only [mm])) (by simp [mm, hC]) h8c (by omega) (by rw [X11_ends_l1] at hp; exact hp)
theorem kK_X11_ends_l1 (g : mG) (r : Nat) (a : Int32) (C : Nat) : ∀ (n j : Nat)  (m : mM), gK ((X11_ends_l1 g r a C n j  m).2) = gK m := by
  intro n
  induction n with
  | zero =>
    intro j  m
    rw [X11_ends_l1]
    repeat' split
    all_goals simp only [mm, kK_X11_ends_l2]
  | succ n ih =>
    intro j  m
    rw [X11_ends_l1]
    repeat' split
    all_goals simp only [mm, ih, kK_X11_ends_l2]
theorem kN_X11_ends_l1 (g : mG) (r : Nat) (a : Int32) (C : Nat) : ∀ (n j : Nat)  (m : mM), gN ((X11_ends_l1 g r a C n j  m).2) = gN m := by
  intro n
  induction n with
  | zero =>
    intro j  m
    rw [X11_ends_l1]
    repeat' split
    all_goals simp only [mm, kN_X11_ends_l2]
  | succ n ih =>
    intro j  m
    rw [X11_ends_l1]
    repeat' split
    all_goals simp only [mm, ih, kN_X11_ends_l2]
theorem kI_X11_ends_l1 (g : mG) (r : Nat) (a : Int32) (C : Nat) (k a9 : Nat) (h0 : k ≠ 385) : ∀ (n j : Nat)  (m : mM), gI ((X11_ends_l1 g r a C n j  m).2) k a9 = gI m k a9 := by
  intro n
  induction n with
  | zero =>
    intro j  m
    rw [X11_ends_l1]
    repeat' split
    all_goals simp [mm, kI_X11_ends_l2, h0]
  | succ n ih =>
    intro j  m
    rw [X11_ends_l1]
    repeat' split
    all_goals simp [mm, ih, kI_X11_ends_l2, h0]
theorem kJ_X11_ends_l1 (g : mG) (r : Nat) (a : Int32) (C : Nat) : ∀ (n j : Nat)  (m : mM), gJ ((X11_ends_l1 g r a C n j  m).2) = gJ m := by
  intro n
  induction n with
  | zero =>
    intro j  m
    rw [X11_ends_l1]
    repeat' split
    all_goals simp only [mm, kJ_X11_ends_l2]
  | succ n ih =>
    intro j  m
    rw [X11_ends_l1]
    repeat' split
    all_goals simp only [mm, ih, kJ_X11_ends_l2]
theorem kR_X11_ends_l1 (g : mG) (r : Nat) (a : Int32) (C : Nat) : ∀ (n j : Nat)  (m : mM), gR ((X11_ends_l1 g r a C n j  m).2) = gR m := by
  intro n
  induction n with
  | zero =>
    intro j  m
    rw [X11_ends_l1]
    repeat' split
    all_goals simp only [mm, kR_X11_ends_l2]
  | succ n ih =>
    intro j  m
    rw [X11_ends_l1]
    repeat' split
    all_goals simp only [mm, ih, kR_X11_ends_l2]
theorem kQ_X11_ends_l1 (g : mG) (r : Nat) (a : Int32) (C : Nat) : ∀ (n j : Nat)  (m : mM), gQ ((X11_ends_l1 g r a C n j  m).2) = gQ m := by
  intro n
  induction n with
  | zero =>
    intro j  m
    rw [X11_ends_l1]
    repeat' split
    all_goals simp only [mm, kQ_X11_ends_l2]
  | succ n ih =>
    intro j  m
    rw [X11_ends_l1]
    repeat' split
    all_goals simp only [mm, ih, kQ_X11_ends_l2]
theorem kL_X11_ends_l1 (g : mG) (r : Nat) (a : Int32) (C : Nat) : ∀ (n j : Nat)  (m : mM), gL ((X11_ends_l1 g r a C n j  m).2) = gL m := by
  intro n
  induction n with
  | zero =>
    intro j  m
    rw [X11_ends_l1]
    repeat' split
    all_goals simp only [mm, kL_X11_ends_l2]
  | succ n ih =>
    intro j  m
    rw [X11_ends_l1]
    repeat' split
    all_goals simp only [mm, ih, kL_X11_ends_l2]
theorem kD_X11_ends_l1 (g : mG) (r : Nat) (a : Int32) (C : Nat) : ∀ (n j : Nat)  (m : mM), gD ((X11_ends_l1 g r a C n j  m).2) = gD m := by
  intro n
  induction n with
  | zero =>
    intro j  m
    rw [X11_ends_l1]
    repeat' split
    all_goals simp only [mm, kD_X11_ends_l2]
  | succ n ih =>
    intro j  m
    rw [X11_ends_l1]
    repeat' split
    all_goals simp only [mm, ih, kD_X11_ends_l2]
theorem kA_X11_ends_l1 (g : mG) (r : Nat) (a : Int32) (C : Nat) (c9 i9 : Nat) (h0 : c9 ≠ r + 4) : ∀ (n j : Nat)  (m : mM), gA ((X11_ends_l1 g r a C n j  m).2) c9 i9 = gA m c9 i9 := by
  intro n
  induction n with
  | zero =>
    intro j  m
    rw [X11_ends_l1]
    repeat' split
    all_goals simp [mm, kA_X11_ends_l2, h0]
  | succ n ih =>
    intro j  m
    rw [X11_ends_l1]
    repeat' split
    all_goals simp [mm, ih, kA_X11_ends_l2, h0]
def X11_ends_r (g : mG) (m : mM) (r : Nat) (a : Int32) (C : Nat) : Int32 := (if (gI m 384 r) = 0 then (if (nI C) = 8 then (X11_ends_l1 g r a C 595 0  m) else (X11_ends_l2 g r a C 85 0 C m)) else ((0, (X11_lays_m g m (r + 1) (r + 2) )))).1
def X11_ends_m (g : mG) (m : mM) (r : Nat) (a : Int32) (C : Nat) : mM := (if (gI m 384 r) = 0 then (if (nI C) = 8 then (X11_ends_l1 g r a C 595 0  m) else (X11_ends_l2 g r a C 85 0 C m)) else ((0, (X11_lays_m g m (r + 1) (r + 2) )))).2
theorem kK_X11_ends (g : mG) (m : mM) (r : Nat) (a : Int32) (C : Nat) : gK (X11_ends_m g m r a C) = gK m := by
  unfold X11_ends_m
  repeat' split
  all_goals simp only [mm, kK_X11_ends_l1, kK_X11_ends_l2, kK_X11_lays]
theorem kN_X11_ends (g : mG) (m : mM) (r : Nat) (a : Int32) (C : Nat) : gN (X11_ends_m g m r a C) = gN m := by
  unfold X11_ends_m
  repeat' split
  all_goals simp only [mm, kN_X11_ends_l1, kN_X11_ends_l2, kN_X11_lays]
theorem kI_X11_ends (g : mG) (m : mM) (r : Nat) (a : Int32) (C : Nat) (k a9 : Nat) (h0 : k ≠ 385) : gI (X11_ends_m g m r a C) k a9 = gI m k a9 := by
  unfold X11_ends_m
  repeat' split
  all_goals simp [mm, kI_X11_ends_l1, kI_X11_ends_l2, kI_X11_lays, h0]
theorem kJ_X11_ends (g : mG) (m : mM) (r : Nat) (a : Int32) (C : Nat) : gJ (X11_ends_m g m r a C) = gJ m := by
  unfold X11_ends_m
  repeat' split
  all_goals simp only [mm, kJ_X11_ends_l1, kJ_X11_ends_l2, kJ_X11_lays]
theorem kR_X11_ends (g : mG) (m : mM) (r : Nat) (a : Int32) (C : Nat) : gR (X11_ends_m g m r a C) = gR m := by
  unfold X11_ends_m
  repeat' split
  all_goals simp only [mm, kR_X11_ends_l1, kR_X11_ends_l2, kR_X11_lays]
theorem kQ_X11_ends (g : mG) (m : mM) (r : Nat) (a : Int32) (C : Nat) : gQ (X11_ends_m g m r a C) = gQ m := by
  unfold X11_ends_m
  repeat' split
  all_goals simp only [mm, kQ_X11_ends_l1, kQ_X11_ends_l2, kQ_X11_lays]
theorem kL_X11_ends (g : mG) (m : mM) (r : Nat) (a : Int32) (C : Nat) : gL (X11_ends_m g m r a C) = gL m := by
  unfold X11_ends_m
  repeat' split
  all_goals simp only [mm, kL_X11_ends_l1, kL_X11_ends_l2, kL_X11_lays]
theorem kD_X11_ends (g : mG) (m : mM) (r : Nat) (a : Int32) (C : Nat) : gD (X11_ends_m g m r a C) = gD m := by
  unfold X11_ends_m
  repeat' split
  all_goals simp only [mm, kD_X11_ends_l1, kD_X11_ends_l2, kD_X11_lays]
theorem kA_X11_ends (g : mG) (m : mM) (r : Nat) (a : Int32) (C : Nat) (c9 i9 : Nat) (h0 : c9 ≠ r + 1) (h1 : c9 ≠ r + 4) : gA (X11_ends_m g m r a C) c9 i9 = gA m c9 i9 := by
  unfold X11_ends_m
  repeat' split
  all_goals simp [mm, kA_X11_ends_l1, kA_X11_ends_l2, kA_X11_lays, h0, h1]
set_option maxHeartbeats 4000000 in
set_option maxRecDepth 100000 in
theorem c_X11_ends {l : Launch} {g : mG} (hO : mO l g) (m : mM) (r : Nat) (a : Int32) (C : Nat) (hs : SR m r) (hC : gI m 385 r = nI C) (hC8 : C ≤ 8) : mT l g yX11_ends (.code yX11_ends cX11_ends 3 (Option.some FieldType.int)) 2 42 0 0 [.ref r, .int a] m (fun u m' => u = some (.int (X11_ends_r g m r a C)) ∧ m' = X11_ends_m g m r a C) nX := by
  refine mT_of hO (by decide) (Nat.le_of_ble_eq_true rfl) (fun x hX hZ => ?_)
  show mV g x m 0 0 0 [(0, .ref r), (1, .int a)] []
  refine v_aload_n (pc := 0) hX dX11_ends_0 rfl ?_
  refine v_get (v := .int (gI m 384 r)) (pc := 1) hX dX11_ends_1 hs.k (ci := 12) (r := vwC12) rfl 0 (by decide) wd_1506 rfl ?_
  refine v_if_eq (tgt := 20) (pc := 4) hX dX11_ends_4 (by decide) (fun c1 => ?_) (fun c1 => ?_)
  ·
    refine v_aload_n (pc := 20) hX dX11_ends_20 rfl ?_
    refine v_get (v := .int (nI C)) (pc := 21) hX dX11_ends_21 hs.k (ci := 12) (r := vwC12) rfl 1 (by decide) wd_1507 (congrArg Value.int hC) ?_
    refine v_bipush (v := 8) (pc := 24) hX dX11_ends_24 (by decide) ?_
    refine v_icmp_ne (tgt := 69) (pc := 26) hX dX11_ends_26 (by decide) (fun c2 => ?_) (fun c2 => ?_)
    ·
      refine v_iconst (v := 0) (pc := 69) hX dX11_ends_69 (by decide) ?_
      refine v_istore_n (pc := 70) hX dX11_ends_70 (by decide) rfl ?_
      refine mV_sub (lv' := [(0, .ref r), (1, .int a), (2, .int (nI 0))]) ⟨rfl, rfl, rfl, trivial⟩ ?_
      exact lp_X11_ends_l2 hO r a C hC8 hX hZ 85 0 C m hs hC (lt8 (by assumption) hC8) (by omega) ⟨(by rw [X11_ends_r, if_pos c1, if_neg c2]), (by rw [X11_ends_m, if_pos c1, if_neg c2])⟩
    ·
      refine v_iconst (v := 0) (pc := 29) hX dX11_ends_29 (by decide) ?_
      refine v_istore_n (pc := 30) hX dX11_ends_30 (by decide) rfl ?_
      refine mV_sub (lv' := [(0, .ref r), (1, .int a), (2, .int (nI 0))]) ⟨rfl, rfl, rfl, trivial⟩ ?_
      exact lp_X11_ends_l1 hO r a C hC8 hX hZ 595 0  m hs hC (eq8 (by assumption) hC8) (by omega) ⟨(by rw [X11_ends_r, if_pos c1, if_pos c2]), (by rw [X11_ends_m, if_pos c1, if_pos c2])⟩
  ·
    refine v_aload_n (pc := 7) hX dX11_ends_7 rfl ?_
    refine v_get (v := .ref (r + 1)) (pc := 8) hX dX11_ends_8 hs.k (ci := 12) (r := vwC12) rfl 5 (by decide) wd_1511 (fvA rfl hs.r1) ?_
    refine v_aload_n (pc := 11) hX dX11_ends_11 rfl ?_
    refine v_get (v := .ref (r + 2)) (pc := 12) hX dX11_ends_12 hs.k (ci := 12) (r := vwC12) rfl 6 (by decide) wd_1512 (fvA rfl hs.r2) ?_
    refine v_callS (z := yX11_lays) (pc := 15) hX dX11_ends_15 (c_X11_lays hO m (r + 1) (r + 2)  hs.k1 hs.k2) wd_1585 wd_1586 wd_16 wd_1587 ⟨by decide, by decide, (by decide +kernel : (parseMethodDescriptor yX11_lays.desc).map (fun d => d.parameters.length) = some 2)⟩ rfl (Nat.le_of_ble_eq_true rfl) ⟨⟨by decide, by decide⟩, by decide, by decide⟩ (fun E m9 h9 => h9.elim) (fun r9 m9 h9 => ?_)
    obtain ⟨rfl, h8⟩ := h9
    replace h8 := h8.symm
    subst h8
    show mV g x _ _ _ _ _ []
    refine v_iconst (v := 0) (pc := 18) hX dX11_ends_18 (by decide) ?_
    exact v_iret (pc := 19) hX hZ dX11_ends_19 (by decide) (by decide) ⟨(by rw [X11_ends_r, if_neg c1]), (by rw [X11_ends_m, if_neg c1])⟩
def X11_find_l1 (g : mG) (m : mM) (r : Nat) (a : Int32) (N : Nat) : Nat → Nat → Int32
  | 0, j => (-1)
  | n + 1, j => if (gA m (r + 1) (8 * j + 13)) = a then (nI j) else (X11_find_l1 g m r a N n (j + 1)  )
set_option maxHeartbeats 4000000 in
set_option maxRecDepth 100000 in
theorem lp_X11_find_l1 {l : Launch} {g : mG} {x : mCx} (hO : mO l g) {m : mM} (r : Nat) (a : Int32) (N : Nat) (hN8 : N ≤ 8) {pst : Option Value → mM → Prop} {XX : String → mM → Prop} (hX : mX l g x cX11_find yX11_find { frames := 2, cells := 0, slots := 0, locals := 41 } 3) (hZ : mZ g x (Option.some FieldType.int) [] pst XX 0 0) : ∀ (n j : Nat)  (hs : SR m r) (hN : gA m (r + 1) 5 = nI N) (hj : j + n = N) (hp : pst (some (.int (X11_find_l1 g m r a N n j  ))) m), mV g x m 0 0 2 [(0, .ref r), (1, .int a), (2, .int (nI j))] [] := by
  intro n
  induction n with
  | zero =>
    intro j   hs hN hj hp
    refine v_iload_n (pc := 2) hX dX11_find_2 rfl ?_
    refine v_aload_n (pc := 3) hX dX11_find_3 rfl ?_
    refine v_get (v := .ref (r + 1)) (pc := 4) hX dX11_find_4 hs.k (ci := 12) (r := vwC12) rfl 5 (by decide) wd_1511 (fvA rfl hs.r1) ?_
    refine v_iconst (v := 5) (pc := 7) hX dX11_find_7 (by decide) ?_
    refine v_iald (j := 5) (v := (nI N)) (pc := 8) hX dX11_find_8 hs.k1 rfl (by decide) (by decide) ((rfl).trans hN) ?_
    refine v_icmp_ge (tgt := 34) (pc := 9) hX dX11_find_9 (by decide) (fun c1 => ?_) (fun c1 => ?_)
    ·
      refine v_iconst (v := (-1)) (pc := 34) hX dX11_find_34 (by decide) ?_
      exact v_iret (pc := 35) hX hZ dX11_find_35 (by decide) (by decide) (by rw [X11_find_l1] at hp; exact hp)
    · exact absurd (nI_le (by omega) (by omega)) c1
  | succ n ih =>
    intro j   hs hN hj hp
    refine v_iload_n (pc := 2) hX dX11_find_2 rfl ?_
    refine v_aload_n (pc := 3) hX dX11_find_3 rfl ?_
    refine v_get (v := .ref (r + 1)) (pc := 4) hX dX11_find_4 hs.k (ci := 12) (r := vwC12) rfl 5 (by decide) wd_1511 (fvA rfl hs.r1) ?_
    refine v_iconst (v := 5) (pc := 7) hX dX11_find_7 (by decide) ?_
    refine v_iald (j := 5) (v := (nI N)) (pc := 8) hX dX11_find_8 hs.k1 rfl (by decide) (by decide) ((rfl).trans hN) ?_
    refine v_icmp_ge (tgt := 34) (pc := 9) hX dX11_find_9 (by decide) (fun c1 => ?_) (fun c1 => ?_)
    · exact absurd c1 (nI_ge (by omega) (by omega))
    ·
      refine v_aload_n (pc := 12) hX dX11_find_12 rfl ?_
      refine v_get (v := .ref (r + 1)) (pc := 13) hX dX11_find_13 hs.k (ci := 12) (r := vwC12) rfl 5 (by decide) wd_1511 (fvA rfl hs.r1) ?_
      refine v_iload_n (pc := 16) hX dX11_find_16 rfl ?_
      refine v_iconst (v := 0) (pc := 17) hX dX11_find_17 (by decide) ?_
      refine v_callS (z := yX11_of) (pc := 18) hX dX11_find_18 (c_of2 hO m (nI j) j 0 rfl) wd_1626 wd_1627 wd_16 wd_1628 ⟨by decide, by decide, (by decide +kernel : (parseMethodDescriptor yX11_of.desc).map (fun d => d.parameters.length) = some 2)⟩ rfl (Nat.le_of_ble_eq_true rfl) ⟨⟨by decide, by decide⟩, by decide, by decide⟩ (fun E m9 h9 => h9.elim) (fun r9 m9 h9 => ?_)
      obtain ⟨rfl, h8⟩ := h9
      replace h8 := h8.symm
      subst h8
      show mV g x _ _ _ _ _ [.int (nI (8 * j + 13)), .ref (r + 1)]
      refine v_iald (j := 8 * j + 13) (v := (gA m (r + 1) (8 * j + 13))) (pc := 21) hX dX11_find_21 hs.k1 rfl (by omega) (by decide) rfl ?_
      refine v_iload_n (pc := 22) hX dX11_find_22 rfl ?_
      refine v_icmp_ne (tgt := 28) (pc := 23) hX dX11_find_23 (by decide) (fun c2 => ?_) (fun c2 => ?_)
      ·
        refine v_iinc (w := nI (j + 1)) (pc := 28) hX dX11_find_28 rfl (nI_1 _) (by decide) rfl ?_
        refine v_goto (tgt := 2) (pc := 31) hX dX11_find_31 (by decide) ?_
        refine mV_sub (lv' := [(0, .ref r), (1, .int a), (2, .int (nI (j + 1)))]) ⟨rfl, rfl, rfl, trivial⟩ ?_
        exact ih (j + 1)   hs hN (by omega) (by rw [X11_find_l1, if_neg c2] at hp; exact hp)
      ·
        refine v_iload_n (pc := 26) hX dX11_find_26 rfl ?_
        exact v_iret (pc := 27) hX hZ dX11_find_27 (by decide) (by decide) (by rw [X11_find_l1, if_pos c2] at hp; exact hp)

def X11_find_r (g : mG) (m : mM) (r : Nat) (a : Int32) (N : Nat) : Int32 := X11_find_l1 g m r a N N 0  

set_option maxHeartbeats 4000000 in
set_option maxRecDepth 100000 in
theorem c_X11_find {l : Launch} {g : mG} (hO : mO l g) (m : mM) (r : Nat) (a : Int32) (N : Nat) (hs : SR m r) (hN : gA m (r + 1) 5 = nI N) (hN8 : N ≤ 8) : mT l g yX11_find (.code yX11_find cX11_find 3 (Option.some FieldType.int)) 2 41 0 0 [.ref r, .int a] m (fun u m' => u = some (.int (X11_find_r g m r a N)) ∧ m' = m) nX := by
  refine mT_of hO (by decide) (Nat.le_of_ble_eq_true rfl) (fun x hX hZ => ?_)
  show mV g x m 0 0 0 [(0, .ref r), (1, .int a)] []
  refine v_iconst (v := 0) (pc := 0) hX dX11_find_0 (by decide) ?_
  refine v_istore_n (pc := 1) hX dX11_find_1 (by decide) rfl ?_
  refine mV_sub (lv' := [(0, .ref r), (1, .int a), (2, .int (nI 0))]) ⟨rfl, rfl, rfl, trivial⟩ ?_
  exact lp_X11_find_l1 hO r a N hN8 hX hZ N 0   hs hN (by omega) ⟨(by rw [X11_find_r]), rfl⟩
def X11_isTool_r (g : mG) (m : mM) (r : Nat) (a : Int32) (H : Nat) : Int32 := isI a 0 ((nI H) - 1)

set_option maxHeartbeats 4000000 in
set_option maxRecDepth 100000 in
theorem c_X11_isTool {l : Launch} {g : mG} (hO : mO l g) (m : mM) (r : Nat) (a : Int32) (H : Nat) (hs : SR m r) (hH : gA m (r + 1) 6 = nI H) (hH4 : H ≤ 4) : mT l g yX11_isTool (.code yX11_isTool cX11_isTool 2 (Option.some FieldType.boolean)) 2 42 0 0 [.ref r, .int a] m (fun u m' => u = some (.int (X11_isTool_r g m r a H)) ∧ m' = m) nX := by
  refine mT_of hO (by decide) (Nat.le_of_ble_eq_true rfl) (fun x hX hZ => ?_)
  show mV g x m 0 0 0 [(0, .ref r), (1, .int a)] []
  refine v_iload_n (pc := 0) hX dX11_isTool_0 rfl ?_
  refine v_iconst (v := 0) (pc := 1) hX dX11_isTool_1 (by decide) ?_
  refine v_aload_n (pc := 2) hX dX11_isTool_2 rfl ?_
  refine v_get (v := .ref (r + 1)) (pc := 3) hX dX11_isTool_3 hs.k (ci := 12) (r := vwC12) rfl 5 (by decide) wd_1511 (fvA rfl hs.r1) ?_
  refine v_bipush (v := 6) (pc := 6) hX dX11_isTool_6 (by decide) ?_
  refine v_iald (j := 6) (v := (nI H)) (pc := 8) hX dX11_isTool_8 hs.k1 rfl (by decide) (by decide) ((rfl).trans hH) ?_
  refine v_iconst (v := 1) (pc := 9) hX dX11_isTool_9 (by decide) ?_
  refine v_isub (pc := 10) hX dX11_isTool_10 ?_
  refine v_callS (z := yX11_isIn) (pc := 11) hX dX11_isTool_11 (c_isI hO m a 0 ((nI H) - 1)) wd_1592 wd_1593 wd_16 wd_1594 ⟨by decide, by decide, (by decide +kernel : (parseMethodDescriptor yX11_isIn.desc).map (fun d => d.parameters.length) = some 3)⟩ rfl (Nat.le_of_ble_eq_true rfl) ⟨⟨by decide, by decide⟩, by decide, by decide⟩ (fun E m9 h9 => h9.elim) (fun r9 m9 h9 => ?_)
  obtain ⟨rfl, h8⟩ := h9
  replace h8 := h8.symm
  subst h8
  show mV g x _ _ _ _ _ [.int (isI a 0 ((nI H) - 1))]
  exact v_zret (pc := 14) hX hZ dX11_isTool_14 (isI_n _ _ _) (by decide) (by decide) ⟨(by rw [X11_isTool_r]), rfl⟩
def X11_weighs_r (g : mG) (m : mM) (r : Nat) (a : Int32)  : Int32 := gA m (r + 1) (2 * a.toNatClampNeg + 77)

set_option maxHeartbeats 4000000 in
set_option maxRecDepth 100000 in
theorem c_X11_weighs {l : Launch} {g : mG} (hO : mO l g) (m : mM) (r : Nat) (a : Int32)  (hs : SR m r) (ha : okI a 3) : mT l g yX11_weighs (.code yX11_weighs cX11_weighs 2 (Option.some FieldType.int)) 1 20 0 0 [.ref r, .int a] m (fun u m' => u = some (.int (X11_weighs_r g m r a )) ∧ m' = m) nX := by
  refine mT_of hO (by decide) (Nat.le_of_ble_eq_true rfl) (fun x hX hZ => ?_)
  show mV g x m 0 0 0 [(0, .ref r), (1, .int a)] []
  have ha3 := ha.2
  refine v_aload_n (pc := 0) hX dX11_weighs_0 rfl ?_
  refine v_get (v := .ref (r + 1)) (pc := 1) hX dX11_weighs_1 hs.k (ci := 12) (r := vwC12) rfl 5 (by decide) wd_1511 (fvA rfl hs.r1) ?_
  refine v_bipush (v := 77) (pc := 4) hX dX11_weighs_4 (by decide) ?_
  refine v_iconst (v := 2) (pc := 6) hX dX11_weighs_6 (by decide) ?_
  refine v_iload_n (pc := 7) hX dX11_weighs_7 rfl ?_
  refine v_imul (pc := 8) hX dX11_weighs_8 ?_
  refine v_iadd (pc := 9) hX dX11_weighs_9 ?_
  refine v_iald (j := 2 * a.toNatClampNeg + 77) (v := (gA m (r + 1) (2 * a.toNatClampNeg + 77))) (pc := 10) hX dX11_weighs_10 hs.k1 (ix_t0 ha.1) (by omega) (by decide) rfl ?_
  exact v_iret (pc := 11) hX hZ dX11_weighs_11 (by decide) (by decide) ⟨(by rw [X11_weighs_r]), rfl⟩
def X11_worn_r (g : mG) (m : mM) (r : Nat) (a : Int32)  : Int32 := gA m (r + 1) (2 * a.toNatClampNeg + 78)

set_option maxHeartbeats 4000000 in
set_option maxRecDepth 100000 in
theorem c_X11_worn {l : Launch} {g : mG} (hO : mO l g) (m : mM) (r : Nat) (a : Int32)  (hs : SR m r) (ha : okI a 3) : mT l g yX11_worn (.code yX11_worn cX11_worn 2 (Option.some FieldType.int)) 1 20 0 0 [.ref r, .int a] m (fun u m' => u = some (.int (X11_worn_r g m r a )) ∧ m' = m) nX := by
  refine mT_of hO (by decide) (Nat.le_of_ble_eq_true rfl) (fun x hX hZ => ?_)
  show mV g x m 0 0 0 [(0, .ref r), (1, .int a)] []
  have ha3 := ha.2
  refine v_aload_n (pc := 0) hX dX11_worn_0 rfl ?_
  refine v_get (v := .ref (r + 1)) (pc := 1) hX dX11_worn_1 hs.k (ci := 12) (r := vwC12) rfl 5 (by decide) wd_1511 (fvA rfl hs.r1) ?_
  refine v_bipush (v := 77) (pc := 4) hX dX11_worn_4 (by decide) ?_
  refine v_iconst (v := 2) (pc := 6) hX dX11_worn_6 (by decide) ?_
  refine v_iload_n (pc := 7) hX dX11_worn_7 rfl ?_
  refine v_imul (pc := 8) hX dX11_worn_8 ?_
  refine v_iadd (pc := 9) hX dX11_worn_9 ?_
  refine v_iconst (v := 1) (pc := 10) hX dX11_worn_10 (by decide) ?_
  refine v_iadd (pc := 11) hX dX11_worn_11 ?_
  refine v_iald (j := 2 * a.toNatClampNeg + 78) (v := (gA m (r + 1) (2 * a.toNatClampNeg + 78))) (pc := 12) hX dX11_worn_12 hs.k1 (ix_t1 ha.1) (by omega) (by decide) rfl ?_
  exact v_iret (pc := 13) hX hZ dX11_worn_13 (by decide) (by decide) ⟨(by rw [X11_worn_r]), rfl⟩
def X11_adds_r (g : mG) (m : mM) (r : Nat) (a : Int32)  : Int32 := if (isI a 1 50) = 0 then 0 else (if ((gA m (r + 1) 3) + a) ≤ 99 then ((gA m (r + 1) 3) + a) else 0)
def X11_adds_m (g : mG) (m : mM) (r : Nat) (a : Int32)  : mM := if (isI a 1 50) = 0 then ((sI m 384 r 1)) else (if ((gA m (r + 1) 3) + a) ≤ 99 then ((sA (sA m (r + 1) 3 ((gA m (r + 1) 3) + a)) (r + 1) 10 ((gA m (r + 1) 10) + a))) else ((sI m 384 r 2)))
theorem kK_X11_adds (g : mG) (m : mM) (r : Nat) (a : Int32)  : gK (X11_adds_m g m r a ) = gK m := by
  unfold X11_adds_m
  repeat' split
  all_goals simp only [mm]
theorem kN_X11_adds (g : mG) (m : mM) (r : Nat) (a : Int32)  : gN (X11_adds_m g m r a ) = gN m := by
  unfold X11_adds_m
  repeat' split
  all_goals simp only [mm]
theorem kI_X11_adds (g : mG) (m : mM) (r : Nat) (a : Int32)  (k a9 : Nat) (h0 : k ≠ 384) : gI (X11_adds_m g m r a ) k a9 = gI m k a9 := by
  unfold X11_adds_m
  repeat' split
  all_goals simp [mm, h0]
theorem kJ_X11_adds (g : mG) (m : mM) (r : Nat) (a : Int32)  : gJ (X11_adds_m g m r a ) = gJ m := by
  unfold X11_adds_m
  repeat' split
  all_goals simp only [mm]
theorem kR_X11_adds (g : mG) (m : mM) (r : Nat) (a : Int32)  : gR (X11_adds_m g m r a ) = gR m := by
  unfold X11_adds_m
  repeat' split
  all_goals simp only [mm]
theorem kQ_X11_adds (g : mG) (m : mM) (r : Nat) (a : Int32)  : gQ (X11_adds_m g m r a ) = gQ m := by
  unfold X11_adds_m
  repeat' split
  all_goals simp only [mm]
theorem kL_X11_adds (g : mG) (m : mM) (r : Nat) (a : Int32)  : gL (X11_adds_m g m r a ) = gL m := by
  unfold X11_adds_m
  repeat' split
  all_goals simp only [mm]
theorem kD_X11_adds (g : mG) (m : mM) (r : Nat) (a : Int32)  : gD (X11_adds_m g m r a ) = gD m := by
  unfold X11_adds_m
  repeat' split
  all_goals simp only [mm]
theorem kA_X11_adds (g : mG) (m : mM) (r : Nat) (a : Int32)  (c9 i9 : Nat) (h0 : c9 ≠ r + 1) : gA (X11_adds_m g m r a ) c9 i9 = gA m c9 i9 := by
  unfold X11_adds_m
  repeat' split
  all_goals simp [mm, h0]
set_option maxHeartbeats 4000000 in
set_option maxRecDepth 100000 in
theorem c_X11_adds {l : Launch} {g : mG} (hO : mO l g) (m : mM) (r : Nat) (a : Int32)  (hs : SR m r) : mT l g yX11_adds (.code yX11_adds cX11_adds 2 (Option.some FieldType.int)) 2 42 0 0 [.ref r, .int a] m (fun u m' => u = some (.int (X11_adds_r g m r a )) ∧ m' = X11_adds_m g m r a ) nX := by
  refine mT_of hO (by decide) (Nat.le_of_ble_eq_true rfl) (fun x hX hZ => ?_)
  show mV g x m 0 0 0 [(0, .ref r), (1, .int a)] []
  refine v_iload_n (pc := 0) hX dX11_adds_0 rfl ?_
  refine v_iconst (v := 1) (pc := 1) hX dX11_adds_1 (by decide) ?_
  refine v_bipush (v := 50) (pc := 2) hX dX11_adds_2 (by decide) ?_
  refine v_callS (z := yX11_isIn) (pc := 4) hX dX11_adds_4 (c_isI hO m a 1 50) wd_1592 wd_1593 wd_16 wd_1594 ⟨by decide, by decide, (by decide +kernel : (parseMethodDescriptor yX11_isIn.desc).map (fun d => d.parameters.length) = some 3)⟩ rfl (Nat.le_of_ble_eq_true rfl) ⟨⟨by decide, by decide⟩, by decide, by decide⟩ (fun E m9 h9 => h9.elim) (fun r9 m9 h9 => ?_)
  obtain ⟨rfl, h8⟩ := h9
  replace h8 := h8.symm
  subst h8
  show mV g x _ _ _ _ _ [.int (isI a 1 50)]
  refine v_if_ne (tgt := 16) (pc := 7) hX dX11_adds_7 (by decide) (fun c1 => ?_) (fun c1 => ?_)
  ·
    refine v_aload_n (pc := 16) hX dX11_adds_16 rfl ?_
    refine v_get (v := .ref (r + 1)) (pc := 17) hX dX11_adds_17 hs.k (ci := 12) (r := vwC12) rfl 5 (by decide) wd_1511 (fvA rfl hs.r1) ?_
    refine v_iconst (v := 3) (pc := 20) hX dX11_adds_20 (by decide) ?_
    refine v_iald (j := 3) (v := (gA m (r + 1) 3)) (pc := 21) hX dX11_adds_21 hs.k1 rfl (by decide) (by decide) rfl ?_
    refine v_iload_n (pc := 22) hX dX11_adds_22 rfl ?_
    refine v_iadd (pc := 23) hX dX11_adds_23 ?_
    refine v_bipush (v := 99) (pc := 24) hX dX11_adds_24 (by decide) ?_
    refine v_icmp_le (tgt := 35) (pc := 26) hX dX11_adds_26 (by decide) (fun c2 => ?_) (fun c2 => ?_)
    ·
      refine v_aload_n (pc := 35) hX dX11_adds_35 rfl ?_
      refine v_get (v := .ref (r + 1)) (pc := 36) hX dX11_adds_36 hs.k (ci := 12) (r := vwC12) rfl 5 (by decide) wd_1511 (fvA rfl hs.r1) ?_
      refine v_iconst (v := 3) (pc := 39) hX dX11_adds_39 (by decide) ?_
      refine v_dup2 (pc := 40) hX dX11_adds_40 rfl rfl ?_
      refine v_iald (j := 3) (v := (gA m (r + 1) 3)) (pc := 41) hX dX11_adds_41 hs.k1 rfl (by decide) (by decide) rfl ?_
      refine v_iload_n (pc := 42) hX dX11_adds_42 rfl ?_
      refine v_iadd (pc := 43) hX dX11_adds_43 ?_
      refine v_iast (j := 3) (pc := 44) hX dX11_adds_44 hs.k1 rfl (by decide) (by decide) ?_
      refine v_aload_n (pc := 45) hX dX11_adds_45 rfl ?_
      refine v_get (v := .ref (r + 1)) (pc := 46) hX dX11_adds_46 (by simp only [mm]; exact hs.k) (ci := 12) (r := vwC12) rfl 5 (by decide) wd_1511 (fvA rfl (by simp [mm, hs.r1])) ?_
      refine v_bipush (v := 10) (pc := 49) hX dX11_adds_49 (by decide) ?_
      refine v_dup2 (pc := 51) hX dX11_adds_51 rfl rfl ?_
      refine v_iald (j := 10) (v := (gA m (r + 1) 10)) (pc := 52) hX dX11_adds_52 (by simp only [mm]; exact hs.k1) rfl (by decide) (by decide) (((gA_n (by omega)).trans rfl)) ?_
      refine v_iload_n (pc := 53) hX dX11_adds_53 rfl ?_
      refine v_iadd (pc := 54) hX dX11_adds_54 ?_
      refine v_iast (j := 10) (pc := 55) hX dX11_adds_55 (by simp only [mm]; exact hs.k1) rfl (by decide) (by decide) ?_
      refine v_aload_n (pc := 56) hX dX11_adds_56 rfl ?_
      refine v_get (v := .ref (r + 1)) (pc := 57) hX dX11_adds_57 (by simp only [mm]; exact hs.k) (ci := 12) (r := vwC12) rfl 5 (by decide) wd_1511 (fvA rfl (by simp [mm, hs.r1])) ?_
      refine v_iconst (v := 3) (pc := 60) hX dX11_adds_60 (by decide) ?_
      refine v_iald (j := 3) (v := ((gA m (r + 1) 3) + a)) (pc := 61) hX dX11_adds_61 (by simp only [mm]; exact hs.k1) rfl (by decide) (by decide) (((gA_n (by omega)).trans gA_y)) ?_
      exact v_iret (pc := 62) hX hZ dX11_adds_62 (by decide) (by decide) ⟨(by rw [X11_adds_r, if_neg c1, if_pos c2]), (by rw [X11_adds_m, if_neg c1, if_pos c2])⟩
    ·
      refine v_aload_n (pc := 29) hX dX11_adds_29 rfl ?_
      refine v_iconst (v := 2) (pc := 30) hX dX11_adds_30 (by decide) ?_
      refine v_callV (z := yX11_fail) (pc := 31) hX dX11_adds_31 (c_fail2 hO m r 2 hs) hs.k rfl wd_1595 wd_1597 wp_19 wd_16 wd_1598 ⟨by decide, by decide, (by decide +kernel : (parseMethodDescriptor yX11_fail.desc).map (fun d => d.parameters.length) = some 1)⟩ rfl (Nat.le_of_ble_eq_true rfl) ⟨⟨by decide, by decide⟩, by decide, by decide⟩ (fun E m9 h9 => h9.elim) (fun r9 m9 h9 => ?_)
      obtain ⟨rfl, h8⟩ := h9
      replace h8 := h8.symm
      subst h8
      show mV g x _ _ _ _ _ [.int 0]
      exact v_iret (pc := 34) hX hZ dX11_adds_34 (by decide) (by decide) ⟨(by rw [X11_adds_r, if_neg c1, if_neg c2]), (by rw [X11_adds_m, if_neg c1, if_neg c2])⟩
  ·
    refine v_aload_n (pc := 10) hX dX11_adds_10 rfl ?_
    refine v_iconst (v := 1) (pc := 11) hX dX11_adds_11 (by decide) ?_
    refine v_callV (z := yX11_fail) (pc := 12) hX dX11_adds_12 (c_fail2 hO m r 1 hs) hs.k rfl wd_1595 wd_1597 wp_19 wd_16 wd_1598 ⟨by decide, by decide, (by decide +kernel : (parseMethodDescriptor yX11_fail.desc).map (fun d => d.parameters.length) = some 1)⟩ rfl (Nat.le_of_ble_eq_true rfl) ⟨⟨by decide, by decide⟩, by decide, by decide⟩ (fun E m9 h9 => h9.elim) (fun r9 m9 h9 => ?_)
    obtain ⟨rfl, h8⟩ := h9
    replace h8 := h8.symm
    subst h8
    show mV g x _ _ _ _ _ [.int 0]
    exact v_iret (pc := 15) hX hZ dX11_adds_15 (by decide) (by decide) ⟨(by rw [X11_adds_r, if_pos c1]), (by rw [X11_adds_m, if_pos c1])⟩
def X11_blows_r (g : mG) (m : mM) (r : Nat) (a : Int32)  : Int32 := if (isI a 0 5) = 0 then 0 else (gA m (r + 1) 2)
def X11_blows_m (g : mG) (m : mM) (r : Nat) (a : Int32)  : mM := if (isI a 0 5) = 0 then ((sI m 384 r 1)) else ((sA m (r + 1) 2 a))
theorem kK_X11_blows (g : mG) (m : mM) (r : Nat) (a : Int32)  : gK (X11_blows_m g m r a ) = gK m := by
  unfold X11_blows_m
  repeat' split
  all_goals simp only [mm]
theorem kN_X11_blows (g : mG) (m : mM) (r : Nat) (a : Int32)  : gN (X11_blows_m g m r a ) = gN m := by
  unfold X11_blows_m
  repeat' split
  all_goals simp only [mm]
theorem kI_X11_blows (g : mG) (m : mM) (r : Nat) (a : Int32)  (k a9 : Nat) (h0 : k ≠ 384) : gI (X11_blows_m g m r a ) k a9 = gI m k a9 := by
  unfold X11_blows_m
  repeat' split
  all_goals simp [mm, h0]
theorem kJ_X11_blows (g : mG) (m : mM) (r : Nat) (a : Int32)  : gJ (X11_blows_m g m r a ) = gJ m := by
  unfold X11_blows_m
  repeat' split
  all_goals simp only [mm]
theorem kR_X11_blows (g : mG) (m : mM) (r : Nat) (a : Int32)  : gR (X11_blows_m g m r a ) = gR m := by
  unfold X11_blows_m
  repeat' split
  all_goals simp only [mm]
theorem kQ_X11_blows (g : mG) (m : mM) (r : Nat) (a : Int32)  : gQ (X11_blows_m g m r a ) = gQ m := by
  unfold X11_blows_m
  repeat' split
  all_goals simp only [mm]
theorem kL_X11_blows (g : mG) (m : mM) (r : Nat) (a : Int32)  : gL (X11_blows_m g m r a ) = gL m := by
  unfold X11_blows_m
  repeat' split
  all_goals simp only [mm]
theorem kD_X11_blows (g : mG) (m : mM) (r : Nat) (a : Int32)  : gD (X11_blows_m g m r a ) = gD m := by
  unfold X11_blows_m
  repeat' split
  all_goals simp only [mm]
theorem kA_X11_blows (g : mG) (m : mM) (r : Nat) (a : Int32)  (c9 i9 : Nat) (h0 : c9 ≠ r + 1) : gA (X11_blows_m g m r a ) c9 i9 = gA m c9 i9 := by
  unfold X11_blows_m
  repeat' split
  all_goals simp [mm, h0]
set_option maxHeartbeats 4000000 in
set_option maxRecDepth 100000 in
theorem c_X11_blows {l : Launch} {g : mG} (hO : mO l g) (m : mM) (r : Nat) (a : Int32)  (hs : SR m r) : mT l g yX11_blows (.code yX11_blows cX11_blows 3 (Option.some FieldType.int)) 2 42 0 0 [.ref r, .int a] m (fun u m' => u = some (.int (X11_blows_r g m r a )) ∧ m' = X11_blows_m g m r a ) nX := by
  refine mT_of hO (by decide) (Nat.le_of_ble_eq_true rfl) (fun x hX hZ => ?_)
  show mV g x m 0 0 0 [(0, .ref r), (1, .int a)] []
  refine v_iload_n (pc := 0) hX dX11_blows_0 rfl ?_
  refine v_iconst (v := 0) (pc := 1) hX dX11_blows_1 (by decide) ?_
  refine v_iconst (v := 5) (pc := 2) hX dX11_blows_2 (by decide) ?_
  refine v_callS (z := yX11_isIn) (pc := 3) hX dX11_blows_3 (c_isI hO m a 0 5) wd_1592 wd_1593 wd_16 wd_1594 ⟨by decide, by decide, (by decide +kernel : (parseMethodDescriptor yX11_isIn.desc).map (fun d => d.parameters.length) = some 3)⟩ rfl (Nat.le_of_ble_eq_true rfl) ⟨⟨by decide, by decide⟩, by decide, by decide⟩ (fun E m9 h9 => h9.elim) (fun r9 m9 h9 => ?_)
  obtain ⟨rfl, h8⟩ := h9
  replace h8 := h8.symm
  subst h8
  show mV g x _ _ _ _ _ [.int (isI a 0 5)]
  refine v_if_ne (tgt := 15) (pc := 6) hX dX11_blows_6 (by decide) (fun c1 => ?_) (fun c1 => ?_)
  ·
    refine v_aload_n (pc := 15) hX dX11_blows_15 rfl ?_
    refine v_get (v := .ref (r + 1)) (pc := 16) hX dX11_blows_16 hs.k (ci := 12) (r := vwC12) rfl 5 (by decide) wd_1511 (fvA rfl hs.r1) ?_
    refine v_iconst (v := 2) (pc := 19) hX dX11_blows_19 (by decide) ?_
    refine v_iald (j := 2) (v := (gA m (r + 1) 2)) (pc := 20) hX dX11_blows_20 hs.k1 rfl (by decide) (by decide) rfl ?_
    refine v_istore_n (pc := 21) hX dX11_blows_21 (by decide) rfl ?_
    refine v_aload_n (pc := 22) hX dX11_blows_22 rfl ?_
    refine v_get (v := .ref (r + 1)) (pc := 23) hX dX11_blows_23 hs.k (ci := 12) (r := vwC12) rfl 5 (by decide) wd_1511 (fvA rfl hs.r1) ?_
    refine v_iconst (v := 2) (pc := 26) hX dX11_blows_26 (by decide) ?_
    refine v_iload_n (pc := 27) hX dX11_blows_27 rfl ?_
    refine v_iast (j := 2) (pc := 28) hX dX11_blows_28 hs.k1 rfl (by decide) (by decide) ?_
    refine v_iload_n (pc := 29) hX dX11_blows_29 rfl ?_
    exact v_iret (pc := 30) hX hZ dX11_blows_30 (by decide) (by decide) ⟨(by rw [X11_blows_r, if_neg c1]), (by rw [X11_blows_m, if_neg c1])⟩
  ·
    refine v_aload_n (pc := 9) hX dX11_blows_9 rfl ?_
    refine v_iconst (v := 1) (pc := 10) hX dX11_blows_10 (by decide) ?_
    refine v_callV (z := yX11_fail) (pc := 11) hX dX11_blows_11 (c_fail2 hO m r 1 hs) hs.k rfl wd_1595 wd_1597 wp_19 wd_16 wd_1598 ⟨by decide, by decide, (by decide +kernel : (parseMethodDescriptor yX11_fail.desc).map (fun d => d.parameters.length) = some 1)⟩ rfl (Nat.le_of_ble_eq_true rfl) ⟨⟨by decide, by decide⟩, by decide, by decide⟩ (fun E m9 h9 => h9.elim) (fun r9 m9 h9 => ?_)
    obtain ⟨rfl, h8⟩ := h9
    replace h8 := h8.symm
    subst h8
    show mV g x _ _ _ _ _ [.int 0]
    exact v_iret (pc := 14) hX hZ dX11_blows_14 (by decide) (by decide) ⟨(by rw [X11_blows_r, if_pos c1]), (by rw [X11_blows_m, if_pos c1])⟩
