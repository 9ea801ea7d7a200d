def X11_makes_l1 (g : mG) (r : Nat) (a : Int32) (N : Nat) : Nat → Nat → mM → Int32 × mM
  | 0, j, m => (gA m (r + 1) 4, (sA (sA (sA (sA (sA (sA m (r + 1) (8 * N + 13) (gA m (r + 1) 4)) (r + 1) (8 * N + 14) a) (r + 1) (8 * N + 15) 20) (r + 1) (8 * N + 17) 10) (r + 1) 5 ((nI N) + 1)) (r + 1) 4 ((gA m (r + 1) 4) + 1)))
  | n + 1, j, m => X11_makes_l1 g r a N n (j + 1)  ((sA m (r + 1) (8 * N + (13 + j)) 0))
set_option maxHeartbeats 4000000 in
set_option maxRecDepth 100000 in
theorem lp_X11_makes_l1 {l : Launch} {g : mG} {x : mCx} (hO : mO l g) (r : Nat) (a : Int32) (N : Nat) (hN8 : N ≤ 8) (hN7 : N < 8) {pst : Option Value → mM → Prop} {XX : String → mM → Prop} (hX : mX l g x cX11_makes yX11_makes { frames := 2, cells := 0, slots := 0, locals := 41 } 4) (hZ : mZ g x (Option.some FieldType.int) [] pst XX 0 0) : ∀ (n j : Nat)  (m : mM) (hs : SR m r) (hN : gA m (r + 1) 5 = nI N) (hj : j + n = 8) (hp : pst (some (.int ((X11_makes_l1 g r a N n j  m).1))) ((X11_makes_l1 g r a N n j  m).2)), mV g x m 0 0 45 [(0, .ref r), (1, .int a), (2, .int (nI N)), (3, .int (nI j))] [] := by
  intro n
  induction n with
  | zero =>
    intro j  m hs hN hj hp
    refine v_iload_n (pc := 45) hX dX11_makes_45 rfl ?_
    refine v_bipush (v := 8) (pc := 46) hX dX11_makes_46 (by decide) ?_
    refine v_icmp_ge (tgt := 68) (pc := 48) hX dX11_makes_48 (by decide) (fun c1 => ?_) (fun c1 => ?_)
    ·
      refine v_aload_n (pc := 68) hX dX11_makes_68 rfl ?_
      refine v_get (v := .ref (r + 1)) (pc := 69) hX dX11_makes_69 hs.k (ci := 12) (r := vwC12) rfl 5 (by decide) wd_1511 (fvA rfl hs.r1) ?_
      refine v_iload_n (pc := 72) hX dX11_makes_72 rfl ?_
      refine v_iconst (v := 0) (pc := 73) hX dX11_makes_73 (by decide) ?_
      refine v_callS (z := yX11_of) (pc := 74) hX dX11_makes_74 (c_of2 hO m (nI N) N 0 rfl) wd_1626 wd_1627 wd_16 wd_1628 ⟨by decide, by decide, (by decide +kernel : (parseMethodDescriptor yX11_of.desc).map (fun d => d.parameters.length) = some 2)⟩ rfl (Nat.le_of_ble_eq_true rfl) ⟨⟨by decide, by decide⟩, by decide, by decide⟩ (fun E m9 h9 => h9.elim) (fun r9 m9 h9 => ?_)
      obtain ⟨rfl, h8⟩ := h9
      replace h8 := h8.symm
      subst h8
      show mV g x _ _ _ _ _ [.int (nI (8 * N + 13)), .ref (r + 1)]
      refine v_aload_n (pc := 77) hX dX11_makes_77 rfl ?_
      refine v_get (v := .ref (r + 1)) (pc := 78) hX dX11_makes_78 hs.k (ci := 12) (r := vwC12) rfl 5 (by decide) wd_1511 (fvA rfl hs.r1) ?_
      refine v_iconst (v := 4) (pc := 81) hX dX11_makes_81 (by decide) ?_
      refine v_iald (j := 4) (v := (gA m (r + 1) 4)) (pc := 82) hX dX11_makes_82 hs.k1 rfl (by decide) (by decide) rfl ?_
      refine v_iast (j := 8 * N + 13) (pc := 83) hX dX11_makes_83 hs.k1 rfl (by omega) (by decide) ?_
      refine v_aload_n (pc := 84) hX dX11_makes_84 rfl ?_
      refine v_get (v := .ref (r + 1)) (pc := 85) hX dX11_makes_85 (by simp only [mm]; exact hs.k) (ci := 12) (r := vwC12) rfl 5 (by decide) wd_1511 (fvA rfl (by simp [mm, hs.r1])) ?_
      refine v_iload_n (pc := 88) hX dX11_makes_88 rfl ?_
      refine v_iconst (v := 1) (pc := 89) hX dX11_makes_89 (by decide) ?_
      refine v_callS (z := yX11_of) (pc := 90) hX dX11_makes_90 (c_of2 hO ((sA m (r + 1) (8 * N + 13) (gA m (r + 1) 4))) (nI N) N 1 rfl) wd_1626 wd_1627 wd_16 wd_1628 ⟨by decide, by decide, (by decide +kernel : (parseMethodDescriptor yX11_of.desc).map (fun d => d.parameters.length) = some 2)⟩ rfl (Nat.le_of_ble_eq_true rfl) ⟨⟨by decide, by decide⟩, by decide, by decide⟩ (fun E m9 h9 => h9.elim) (fun r9 m9 h9 => ?_)
      obtain ⟨rfl, h8⟩ := h9
      replace h8 := h8.symm
      subst h8
      show mV g x _ _ _ _ _ [.int (nI (8 * N + 14)), .ref (r + 1)]
      refine v_iload_n (pc := 93) hX dX11_makes_93 rfl ?_
      refine v_iast (j := 8 * N + 14) (pc := 94) hX dX11_makes_94 (by simp only [mm]; exact hs.k1) rfl (by omega) (by decide) ?_
      refine v_aload_n (pc := 95) hX dX11_makes_95 rfl ?_
      refine v_get (v := .ref (r + 1)) (pc := 96) hX dX11_makes_96 (by simp only [mm]; exact hs.k) (ci := 12) (r := vwC12) rfl 5 (by decide) wd_1511 (fvA rfl (by simp [mm, hs.r1])) ?_
      refine v_iload_n (pc := 99) hX dX11_makes_99 rfl ?_
      refine v_iconst (v := 2) (pc := 100) hX dX11_makes_100 (by decide) ?_
      refine v_callS (z := yX11_of) (pc := 101) hX dX11_makes_101 (c_of2 hO ((sA (sA m (r + 1) (8 * N + 13) (gA m (r + 1) 4)) (r + 1) (8 * N + 14) a)) (nI N) N 2 rfl) wd_1626 wd_1627 wd_16 wd_1628 ⟨by decide, by decide, (by decide +kernel : (parseMethodDescriptor yX11_of.desc).map (fun d => d.parameters.length) = some 2)⟩ rfl (Nat.le_of_ble_eq_true rfl) ⟨⟨by decide, by decide⟩, by decide, by decide⟩ (fun E m9 h9 => h9.elim) (fun r9 m9 h9 => ?_)
      obtain ⟨rfl, h8⟩ := h9
      replace h8 := h8.symm
      subst h8
      show mV g x _ _ _ _ _ [.int (nI (8 * N + 15)), .ref (r + 1)]
      refine v_bipush (v := 20) (pc := 104) hX dX11_makes_104 (by decide) ?_
      refine v_iast (j := 8 * N + 15) (pc := 106) hX dX11_makes_106 (by simp only [mm]; exact hs.k1) rfl (by omega) (by decide) ?_
      refine v_aload_n (pc := 107) hX dX11_makes_107 rfl ?_
      refine v_get (v := .ref (r + 1)) (pc := 108) hX dX11_makes_108 (by simp only [mm]; exact hs.k) (ci := 12) (r := vwC12) rfl 5 (by decide) wd_1511 (fvA rfl (by simp [mm, hs.r1])) ?_
      refine v_iload_n (pc := 111) hX dX11_makes_111 rfl ?_
      refine v_iconst (v := 4) (pc := 112) hX dX11_makes_112 (by decide) ?_
      refine v_callS (z := yX11_of) (pc := 113) hX dX11_makes_113 (c_of2 hO ((sA (sA (sA m (r + 1) (8 * N + 13) (gA m (r + 1) 4)) (r + 1) (8 * N + 14) a) (r + 1) (8 * N + 15) 20)) (nI N) N 4 rfl) wd_1626 wd_1627 wd_16 wd_1628 ⟨by decide, by decide, (by decide +kernel : (parseMethodDescriptor yX11_of.desc).map (fun d => d.parameters.length) = some 2)⟩ rfl (Nat.le_of_ble_eq_true rfl) ⟨⟨by decide, by decide⟩, by decide, by decide⟩ (fun E m9 h9 => h9.elim) (fun r9 m9 h9 => ?_)
      obtain ⟨rfl, h8⟩ := h9
      replace h8 := h8.symm
      subst h8
      show mV g x _ _ _ _ _ [.int (nI (8 * N + 17)), .ref (r + 1)]
      refine v_bipush (v := 10) (pc := 116) hX dX11_makes_116 (by decide) ?_
      refine v_iast (j := 8 * N + 17) (pc := 118) hX dX11_makes_118 (by simp only [mm]; exact hs.k1) rfl (by omega) (by decide) ?_
      refine v_aload_n (pc := 119) hX dX11_makes_119 rfl ?_
      refine v_get (v := .ref (r + 1)) (pc := 120) hX dX11_makes_120 (by simp only [mm]; exact hs.k) (ci := 12) (r := vwC12) rfl 5 (by decide) wd_1511 (fvA rfl (by simp [mm, hs.r1])) ?_
      refine v_iconst (v := 5) (pc := 123) hX dX11_makes_123 (by decide) ?_
      refine v_dup2 (pc := 124) hX dX11_makes_124 rfl rfl ?_
      refine v_iald (j := 5) (v := (nI N)) (pc := 125) hX dX11_makes_125 (by simp only [mm]; exact hs.k1) rfl (by decide) (by decide) ((((gA_n (by omega)).trans ((gA_n (by omega)).trans ((gA_n (by omega)).trans ((gA_n (by omega)).trans rfl))))).trans hN) ?_
      refine v_iconst (v := 1) (pc := 126) hX dX11_makes_126 (by decide) ?_
      refine v_iadd (pc := 127) hX dX11_makes_127 ?_
      refine v_iast (j := 5) (pc := 128) hX dX11_makes_128 (by simp only [mm]; exact hs.k1) rfl (by decide) (by decide) ?_
      refine v_aload_n (pc := 129) hX dX11_makes_129 rfl ?_
      refine v_get (v := .ref (r + 1)) (pc := 130) hX dX11_makes_130 (by simp only [mm]; exact hs.k) (ci := 12) (r := vwC12) rfl 5 (by decide) wd_1511 (fvA rfl (by simp [mm, hs.r1])) ?_
      refine v_iconst (v := 4) (pc := 133) hX dX11_makes_133 (by decide) ?_
      refine v_dup2 (pc := 134) hX dX11_makes_134 rfl rfl ?_
      refine v_iald (j := 4) (v := (gA m (r + 1) 4)) (pc := 135) hX dX11_makes_135 (by simp only [mm]; exact hs.k1) rfl (by decide) (by decide) (((gA_n (by omega)).trans ((gA_n (by omega)).trans ((gA_n (by omega)).trans ((gA_n (by omega)).trans ((gA_n (by omega)).trans rfl)))))) ?_
      refine v_iconst (v := 1) (pc := 136) hX dX11_makes_136 (by decide) ?_
      refine v_iadd (pc := 137) hX dX11_makes_137 ?_
      refine v_iast (j := 4) (pc := 138) hX dX11_makes_138 (by simp only [mm]; exact hs.k1) rfl (by decide) (by decide) ?_
      refine v_aload_n (pc := 139) hX dX11_makes_139 rfl ?_
      refine v_get (v := .ref (r + 1)) (pc := 140) hX dX11_makes_140 (by simp only [mm]; exact hs.k) (ci := 12) (r := vwC12) rfl 5 (by decide) wd_1511 (fvA rfl (by simp [mm, hs.r1])) ?_
      refine v_iload_n (pc := 143) hX dX11_makes_143 rfl ?_
      refine v_iconst (v := 0) (pc := 144) hX dX11_makes_144 (by decide) ?_
      refine v_callS (z := yX11_of) (pc := 145) hX dX11_makes_145 (c_of2 hO ((sA (sA (sA (sA (sA (sA m (r + 1) (8 * N + 13) (gA m (r + 1) 4)) (r + 1) (8 * N + 14) a) (r + 1) (8 * N + 15) 20) (r + 1) (8 * N + 17) 10) (r + 1) 5 ((nI N) + 1)) (r + 1) 4 ((gA m (r + 1) 4) + 1))) (nI N) N 0 rfl) wd_1626 wd_1627 wd_16 wd_1628 ⟨by decide, by decide, (by decide +kernel : (parseMethodDescriptor yX11_of.desc).map (fun d => d.parameters.length) = some 2)⟩ rfl (Nat.le_of_ble_eq_true rfl) ⟨⟨by decide, by decide⟩, by decide, by decide⟩ (fun E m9 h9 => h9.elim) (fun r9 m9 h9 => ?_)
      obtain ⟨rfl, h8⟩ := h9
      replace h8 := h8.symm
      subst h8
      show mV g x _ _ _ _ _ [.int (nI (8 * N + 13)), .ref (r + 1)]
      refine v_iald (j := 8 * N + 13) (v := (gA m (r + 1) 4)) (pc := 148) hX dX11_makes_148 (by simp only [mm]; exact hs.k1) rfl (by omega) (by decide) (((gA_n (by omega)).trans ((gA_n (by omega)).trans ((gA_n (by omega)).trans ((gA_n (by omega)).trans ((gA_n (by omega)).trans gA_y)))))) ?_
      exact v_iret (pc := 149) hX hZ dX11_makes_149 (by decide) (by decide) (by rw [X11_makes_l1] at hp; exact hp)
    · exact absurd (show nI 8 ≤ nI j from nI_le (by omega) (by omega)) c1
  | succ n ih =>
    intro j  m hs hN hj hp
    refine v_iload_n (pc := 45) hX dX11_makes_45 rfl ?_
    refine v_bipush (v := 8) (pc := 46) hX dX11_makes_46 (by decide) ?_
    refine v_icmp_ge (tgt := 68) (pc := 48) hX dX11_makes_48 (by decide) (fun c1 => ?_) (fun c1 => ?_)
    · exact absurd c1 (show ¬ nI 8 ≤ nI j from nI_ge (by omega) (by omega))
    ·
      refine v_aload_n (pc := 51) hX dX11_makes_51 rfl ?_
      refine v_get (v := .ref (r + 1)) (pc := 52) hX dX11_makes_52 hs.k (ci := 12) (r := vwC12) rfl 5 (by decide) wd_1511 (fvA rfl hs.r1) ?_
      refine v_iload_n (pc := 55) hX dX11_makes_55 rfl ?_
      refine v_iload_n (pc := 56) hX dX11_makes_56 rfl ?_
      refine v_callS (z := yX11_of) (pc := 57) hX dX11_makes_57 (c_of2 hO m (nI N) N j rfl) wd_1626 wd_1627 wd_16 wd_1628 ⟨by decide, by decide, (by decide +kernel : (parseMethodDescriptor yX11_of.desc).map (fun d => d.parameters.length) = some 2)⟩ rfl (Nat.le_of_ble_eq_true rfl) ⟨⟨by decide, by decide⟩, by decide, by decide⟩ (fun E m9 h9 => h9.elim) (fun r9 m9 h9 => ?_)
      obtain ⟨rfl, h8⟩ := h9
      replace h8 := h8.symm
      subst h8
      show mV g x _ _ _ _ _ [.int (nI (8 * N + (13 + j))), .ref (r + 1)]
      refine v_iconst (v := 0) (pc := 60) hX dX11_makes_60 (by decide) ?_
      refine v_iast (j := 8 * N + (13 + j)) (pc := 61) hX dX11_makes_61 hs.k1 rfl (by omega) (by decide) ?_
      refine v_iinc (w := nI (j + 1)) (pc := 62) hX dX11_makes_62 rfl (nI_1 _) (by decide) rfl ?_
      refine v_goto (tgt := 45) (pc := 65) hX dX11_makes_65 (by decide) ?_
      refine mV_sub (lv' := [(0, .ref r), (1, .int a), (2, .int (nI N)), (3, .int (nI (j + 1)))]) ⟨rfl, rfl, rfl, rfl, trivial⟩ ?_
      exact ih (j + 1)  ((sA m (r + 1) (8 * N + (13 + j)) 0)) (hs.to (by simp only [mm]) (by simp only [mm])) (((gA_n (by omega)).trans rfl).trans hN) (by omega) (by rw [X11_makes_l1] at hp; exact hp)
theorem kK_X11_makes_l1 (g : mG) (r : Nat) (a : Int32) (N : Nat) : ∀ (n j : Nat)  (m : mM), gK ((X11_makes_l1 g r a N n j  m).2) = gK m := by
  intro n
  induction n with
  | zero =>
    intro j  m
    rw [X11_makes_l1]
    repeat' split
    all_goals simp only [mm]
  | succ n ih =>
    intro j  m
    rw [X11_makes_l1]
    repeat' split
    all_goals simp only [mm, ih]
theorem kN_X11_makes_l1 (g : mG) (r : Nat) (a : Int32) (N : Nat) : ∀ (n j : Nat)  (m : mM), gN ((X11_makes_l1 g r a N n j  m).2) = gN m := by
  intro n
  induction n with
  | zero =>
    intro j  m
    rw [X11_makes_l1]
    repeat' split
    all_goals simp only [mm]
  | succ n ih =>
    intro j  m
    rw [X11_makes_l1]
    repeat' split
    all_goals simp only [mm, ih]
theorem kI_X11_makes_l1 (g : mG) (r : Nat) (a : Int32) (N : Nat) : ∀ (n j : Nat)  (m : mM), gI ((X11_makes_l1 g r a N n j  m).2) = gI m := by
  intro n
  induction n with
  | zero =>
    intro j  m
    rw [X11_makes_l1]
    repeat' split
    all_goals simp only [mm]
  | succ n ih =>
    intro j  m
    rw [X11_makes_l1]
    repeat' split
    all_goals simp only [mm, ih]
theorem kJ_X11_makes_l1 (g : mG) (r : Nat) (a : Int32) (N : Nat) : ∀ (n j : Nat)  (m : mM), gJ ((X11_makes_l1 g r a N n j  m).2) = gJ m := by
  intro n
  induction n with
  | zero =>
    intro j  m
    rw [X11_makes_l1]
    repeat' split
    all_goals simp only [mm]
  | succ n ih =>
    intro j  m
    rw [X11_makes_l1]
    repeat' split
    all_goals simp only [mm, ih]
theorem kR_X11_makes_l1 (g : mG) (r : Nat) (a : Int32) (N : Nat) : ∀ (n j : Nat)  (m : mM), gR ((X11_makes_l1 g r a N n j  m).2) = gR m := by
  intro n
  induction n with
  | zero =>
    intro j  m
    rw [X11_makes_l1]
    repeat' split
    all_goals simp only [mm]
  | succ n ih =>
    intro j  m
    rw [X11_makes_l1]
    repeat' split
    all_goals simp only [mm, ih]
theorem kQ_X11_makes_l1 (g : mG) (r : Nat) (a : Int32) (N : Nat) : ∀ (n j : Nat)  (m : mM), gQ ((X11_makes_l1 g r a N n j  m).2) = gQ m := by
  intro n
  induction n with
  | zero =>
    intro j  m
    rw [X11_makes_l1]
    repeat' split
    all_goals simp only [mm]
  | succ n ih =>
    intro j  m
    rw [X11_makes_l1]
    repeat' split
    all_goals simp only [mm, ih]
theorem kL_X11_makes_l1 (g : mG) (r : Nat) (a : Int32) (N : Nat) : ∀ (n j : Nat)  (m : mM), gL ((X11_makes_l1 g r a N n j  m).2) = gL m := by
  intro n
  induction n with
  | zero =>
    intro j  m
    rw [X11_makes_l1]
    repeat' split
    all_goals simp only [mm]
  | succ n ih =>
    intro j  m
    rw [X11_makes_l1]
    repeat' split
    all_goals simp only [mm, ih]
theorem kD_X11_makes_l1 (g : mG) (r : Nat) (a : Int32) (N : Nat) : ∀ (n j : Nat)  (m : mM), gD ((X11_makes_l1 g r a N n j  m).2) = gD m := by
  intro n
  induction n with
  | zero =>
    intro j  m
    rw [X11_makes_l1]
    repeat' split
    all_goals simp only [mm]
  | succ n ih =>
    intro j  m
    rw [X11_makes_l1]
    repeat' split
    all_goals simp only [mm, ih]
theorem kA_X11_makes_l1 (g : mG) (r : Nat) (a : Int32) (N : Nat) (c9 i9 : Nat) (h0 : c9 ≠ r + 1) : ∀ (n j : Nat)  (m : mM), gA ((X11_makes_l1 g r a N n j  m).2) c9 i9 = gA m c9 i9 := by
  intro n
  induction n with
  | zero =>
    intro j  m
    rw [X11_makes_l1]
    repeat' split
    all_goals simp [mm, h0]
  | succ n ih =>
    intro j  m
    rw [X11_makes_l1]
    repeat' split
    all_goals simp [mm, ih, h0]
def X11_makes_r (g : mG) (m : mM) (r : Nat) (a : Int32) (N : Nat) : Int32 := (if a = 98 then (if (nI N) = 8 then ((0, (sI m 384 r 2))) else (X11_makes_l1 g r a N 8 0  m)) else (if a = 110 then (if (nI N) = 8 then ((0, (sI m 384 r 2))) else (X11_makes_l1 g r a N 8 0  m)) else (if a = 119 then (if (nI N) = 8 then ((0, (sI m 384 r 2))) else (X11_makes_l1 g r a N 8 0  m)) else ((0, (sI m 384 r 1)))))).1
def X11_makes_m (g : mG) (m : mM) (r : Nat) (a : Int32) (N : Nat) : mM := (if a = 98 then (if (nI N) = 8 then ((0, (sI m 384 r 2))) else (X11_makes_l1 g r a N 8 0  m)) else (if a = 110 then (if (nI N) = 8 then ((0, (sI m 384 r 2))) else (X11_makes_l1 g r a N 8 0  m)) else (if a = 119 then (if (nI N) = 8 then ((0, (sI m 384 r 2))) else (X11_makes_l1 g r a N 8 0  m)) else ((0, (sI m 384 r 1)))))).2
theorem kK_X11_makes (g : mG) (m : mM) (r : Nat) (a : Int32) (N : Nat) : gK (X11_makes_m g m r a N) = gK m := by
  unfold X11_makes_m
  repeat' split
  all_goals simp only [mm, kK_X11_makes_l1]
theorem kN_X11_makes (g : mG) (m : mM) (r : Nat) (a : Int32) (N : Nat) : gN (X11_makes_m g m r a N) = gN m := by
  unfold X11_makes_m
  repeat' split
  all_goals simp only [mm, kN_X11_makes_l1]
theorem kI_X11_makes (g : mG) (m : mM) (r : Nat) (a : Int32) (N : Nat) (k a9 : Nat) (h0 : k ≠ 384) : gI (X11_makes_m g m r a N) k a9 = gI m k a9 := by
  unfold X11_makes_m
  repeat' split
  all_goals simp [mm, kI_X11_makes_l1, h0]
theorem kJ_X11_makes (g : mG) (m : mM) (r : Nat) (a : Int32) (N : Nat) : gJ (X11_makes_m g m r a N) = gJ m := by
  unfold X11_makes_m
  repeat' split
  all_goals simp only [mm, kJ_X11_makes_l1]
theorem kR_X11_makes (g : mG) (m : mM) (r : Nat) (a : Int32) (N : Nat) : gR (X11_makes_m g m r a N) = gR m := by
  unfold X11_makes_m
  repeat' split
  all_goals simp only [mm, kR_X11_makes_l1]
theorem kQ_X11_makes (g : mG) (m : mM) (r : Nat) (a : Int32) (N : Nat) : gQ (X11_makes_m g m r a N) = gQ m := by
  unfold X11_makes_m
  repeat' split
  all_goals simp only [mm, kQ_X11_makes_l1]
theorem kL_X11_makes (g : mG) (m : mM) (r : Nat) (a : Int32) (N : Nat) : gL (X11_makes_m g m r a N) = gL m := by
  unfold X11_makes_m
  repeat' split
  all_goals simp only [mm, kL_X11_makes_l1]
theorem kD_X11_makes (g : mG) (m : mM) (r : Nat) (a : Int32) (N : Nat) : gD (X11_makes_m g m r a N) = gD m := by
  unfold X11_makes_m
  repeat' split
  all_goals simp only [mm, kD_X11_makes_l1]
theorem kA_X11_makes (g : mG) (m : mM) (r : Nat) (a : Int32) (N : Nat) (c9 i9 : Nat) (h0 : c9 ≠ r + 1) : gA (X11_makes_m g m r a N) c9 i9 = gA m c9 i9 := by
  unfold X11_makes_m
  repeat' split
  all_goals simp [mm, kA_X11_makes_l1, h0]
set_option maxHeartbeats 4000000 in
set_option maxRecDepth 100000 in
theorem c_X11_makes {l : Launch} {g : mG} (hO : mO l g) (m : mM) (r : Nat) (a : Int32) (N : Nat) (hs : SR m r) (hN : gA m (r + 1) 5 = nI N) (hN8 : N ≤ 8) : mT l g yX11_makes (.code yX11_makes cX11_makes 4 (Option.some FieldType.int)) 2 41 0 0 [.ref r, .int a] m (fun u m' => u = some (.int (X11_makes_r g m r a N)) ∧ m' = X11_makes_m g m r a N) nX := by
  refine mT_of hO (by decide) (Nat.le_of_ble_eq_true rfl) (fun x hX hZ => ?_)
  show mV g x m 0 0 0 [(0, .ref r), (1, .int a)] []
  refine v_iload_n (pc := 0) hX dX11_makes_0 rfl ?_
  refine v_bipush (v := 98) (pc := 1) hX dX11_makes_1 (by decide) ?_
  refine v_icmp_eq (tgt := 24) (pc := 3) hX dX11_makes_3 (by decide) (fun c1 => ?_) (fun c1 => ?_)
  ·
    refine v_aload_n (pc := 24) hX dX11_makes_24 rfl ?_
    refine v_get (v := .ref (r + 1)) (pc := 25) hX dX11_makes_25 hs.k (ci := 12) (r := vwC12) rfl 5 (by decide) wd_1511 (fvA rfl hs.r1) ?_
    refine v_iconst (v := 5) (pc := 28) hX dX11_makes_28 (by decide) ?_
    refine v_iald (j := 5) (v := (nI N)) (pc := 29) hX dX11_makes_29 hs.k1 rfl (by decide) (by decide) ((rfl).trans hN) ?_
    refine v_istore_n (pc := 30) hX dX11_makes_30 (by decide) rfl ?_
    refine v_iload_n (pc := 31) hX dX11_makes_31 rfl ?_
    refine v_bipush (v := 8) (pc := 32) hX dX11_makes_32 (by decide) ?_
    refine v_icmp_ne (tgt := 43) (pc := 34) hX dX11_makes_34 (by decide) (fun c2 => ?_) (fun c2 => ?_)
    ·
      have hN7 : N < 8 := by
        rcases Nat.lt_or_ge N 8 with q | q
        · exact q
        · exact absurd (show nI N = 8 by rw [show N = 8 by omega]; rfl) (by assumption)
      refine v_iconst (v := 0) (pc := 43) hX dX11_makes_43 (by decide) ?_
      refine v_istore_n (pc := 44) hX dX11_makes_44 (by decide) rfl ?_
      refine mV_sub (lv' := [(0, .ref r), (1, .int a), (2, .int (nI N)), (3, .int (nI 0))]) ⟨rfl, rfl, rfl, rfl, trivial⟩ ?_
      exact lp_X11_makes_l1 hO r a N hN8 hN7 hX hZ 8 0  m hs hN (by omega) ⟨(by rw [X11_makes_r, if_pos c1, if_neg c2]), (by rw [X11_makes_m, if_pos c1, if_neg c2])⟩
    ·
      refine v_aload_n (pc := 37) hX dX11_makes_37 rfl ?_
      refine v_iconst (v := 2) (pc := 38) hX dX11_makes_38 (by decide) ?_
      refine v_callV (z := yX11_fail) (pc := 39) hX dX11_makes_39 (c_fail2 hO m r 2 hs) hs.k rfl wd_1595 wd_1597 wp_19 wd_16 wd_1598 ⟨by decide, by decide, (by decide +kernel : (parseMethodDescriptor yX11_fail.desc).map (fun d => d.parameters.length) = some 1)⟩ rfl (Nat.le_of_ble_eq_true rfl) ⟨⟨by decide, by decide⟩, by decide, by decide⟩ (fun E m9 h9 => h9.elim) (fun r9 m9 h9 => ?_)
      obtain ⟨rfl, h8⟩ := h9
      replace h8 := h8.symm
      subst h8
      show mV g x _ _ _ _ _ [.int 0]
      exact v_iret (pc := 42) hX hZ dX11_makes_42 (by decide) (by decide) ⟨(by rw [X11_makes_r, if_pos c1, if_pos c2]), (by rw [X11_makes_m, if_pos c1, if_pos c2])⟩
  ·
    refine v_iload_n (pc := 6) hX dX11_makes_6 rfl ?_
    refine v_bipush (v := 110) (pc := 7) hX dX11_makes_7 (by decide) ?_
    refine v_icmp_eq (tgt := 24) (pc := 9) hX dX11_makes_9 (by decide) (fun c3 => ?_) (fun c3 => ?_)
    ·
      refine v_aload_n (pc := 24) hX dX11_makes_24 rfl ?_
      refine v_get (v := .ref (r + 1)) (pc := 25) hX dX11_makes_25 hs.k (ci := 12) (r := vwC12) rfl 5 (by decide) wd_1511 (fvA rfl hs.r1) ?_
      refine v_iconst (v := 5) (pc := 28) hX dX11_makes_28 (by decide) ?_
      refine v_iald (j := 5) (v := (nI N)) (pc := 29) hX dX11_makes_29 hs.k1 rfl (by decide) (by decide) ((rfl).trans hN) ?_
      refine v_istore_n (pc := 30) hX dX11_makes_30 (by decide) rfl ?_
      refine v_iload_n (pc := 31) hX dX11_makes_31 rfl ?_
      refine v_bipush (v := 8) (pc := 32) hX dX11_makes_32 (by decide) ?_
      refine v_icmp_ne (tgt := 43) (pc := 34) hX dX11_makes_34 (by decide) (fun c4 => ?_) (fun c4 => ?_)
      ·
        have hN7 : N < 8 := by
          rcases Nat.lt_or_ge N 8 with q | q
          · exact q
          · exact absurd (show nI N = 8 by rw [show N = 8 by omega]; rfl) (by assumption)
        refine v_iconst (v := 0) (pc := 43) hX dX11_makes_43 (by decide) ?_
        refine v_istore_n (pc := 44) hX dX11_makes_44 (by decide) rfl ?_
        refine mV_sub (lv' := [(0, .ref r), (1, .int a), (2, .int (nI N)), (3, .int (nI 0))]) ⟨rfl, rfl, rfl, rfl, trivial⟩ ?_
        exact lp_X11_makes_l1 hO r a N hN8 hN7 hX hZ 8 0  m hs hN (by omega) ⟨(by rw [X11_makes_r, if_neg c1, if_pos c3, if_neg c4]), (by rw [X11_makes_m, if_neg c1, if_pos c3, if_neg c4])⟩
      ·
        refine v_aload_n (pc := 37) hX dX11_makes_37 rfl ?_
        refine v_iconst (v := 2) (pc := 38) hX dX11_makes_38 (by decide) ?_
        refine v_callV (z := yX11_fail) (pc := 39) hX dX11_makes_39 (c_fail2 hO m r 2 hs) hs.k rfl wd_1595 wd_1597 wp_19 wd_16 wd_1598 ⟨by decide, by decide, (by decide +kernel : (parseMethodDescriptor yX11_fail.desc).map (fun d => d.parameters.length) = some 1)⟩ rfl (Nat.le_of_ble_eq_true rfl) ⟨⟨by decide, by decide⟩, by decide, by decide⟩ (fun E m9 h9 => h9.elim) (fun r9 m9 h9 => ?_)
        obtain ⟨rfl, h8⟩ := h9
        replace h8 := h8.symm
        subst h8
        show mV g x _ _ _ _ _ [.int 0]
        exact v_iret (pc := 42) hX hZ dX11_makes_42 (by decide) (by decide) ⟨(by rw [X11_makes_r, if_neg c1, if_pos c3, if_pos c4]), (by rw [X11_makes_m, if_neg c1, if_pos c3, if_pos c4])⟩
    ·
      refine v_iload_n (pc := 12) hX dX11_makes_12 rfl ?_
      refine v_bipush (v := 119) (pc := 13) hX dX11_makes_13 (by decide) ?_
      refine v_icmp_eq (tgt := 24) (pc := 15) hX dX11_makes_15 (by decide) (fun c5 => ?_) (fun c5 => ?_)
      ·
        refine v_aload_n (pc := 24) hX dX11_makes_24 rfl ?_
        refine v_get (v := .ref (r + 1)) (pc := 25) hX dX11_makes_25 hs.k (ci := 12) (r := vwC12) rfl 5 (by decide) wd_1511 (fvA rfl hs.r1) ?_
        refine v_iconst (v := 5) (pc := 28) hX dX11_makes_28 (by decide) ?_
        refine v_iald (j := 5) (v := (nI N)) (pc := 29) hX dX11_makes_29 hs.k1 rfl (by decide) (by decide) ((rfl).trans hN) ?_
        refine v_istore_n (pc := 30) hX dX11_makes_30 (by decide) rfl ?_
        refine v_iload_n (pc := 31) hX dX11_makes_31 rfl ?_
        refine v_bipush (v := 8) (pc := 32) hX dX11_makes_32 (by decide) ?_
        refine v_icmp_ne (tgt := 43) (pc := 34) hX dX11_makes_34 (by decide) (fun c6 => ?_) (fun c6 => ?_)
        ·
          have hN7 : N < 8 := by
            rcases Nat.lt_or_ge N 8 with q | q
            · exact q
            · exact absurd (show nI N = 8 by rw [show N = 8 by omega]; rfl) (by assumption)
          refine v_iconst (v := 0) (pc := 43) hX dX11_makes_43 (by decide) ?_
          refine v_istore_n (pc := 44) hX dX11_makes_44 (by decide) rfl ?_
          refine mV_sub (lv' := [(0, .ref r), (1, .int a), (2, .int (nI N)), (3, .int (nI 0))]) ⟨rfl, rfl, rfl, rfl, trivial⟩ ?_
          exact lp_X11_makes_l1 hO r a N hN8 hN7 hX hZ 8 0  m hs hN (by omega) ⟨(by rw [X11_makes_r, if_neg c1, if_neg c3, if_pos c5, if_neg c6]), (by rw [X11_makes_m, if_neg c1, if_neg c3, if_pos c5, if_neg c6])⟩
        ·
          refine v_aload_n (pc := 37) hX dX11_makes_37 rfl ?_
          refine v_iconst (v := 2) (pc := 38) hX dX11_makes_38 (by decide) ?_
          refine v_callV (z := yX11_fail) (pc := 39) hX dX11_makes_39 (c_fail2 hO m r 2 hs) hs.k rfl wd_1595 wd_1597 wp_19 wd_16 wd_1598 ⟨by decide, by decide, (by decide +kernel : (parseMethodDescriptor yX11_fail.desc).map (fun d => d.parameters.length) = some 1)⟩ rfl (Nat.le_of_ble_eq_true rfl) ⟨⟨by decide, by decide⟩, by decide, by decide⟩ (fun E m9 h9 => h9.elim) (fun r9 m9 h9 => ?_)
          obtain ⟨rfl, h8⟩ := h9
          replace h8 := h8.symm
          subst h8
          show mV g x _ _ _ _ _ [.int 0]
          exact v_iret (pc := 42) hX hZ dX11_makes_42 (by decide) (by decide) ⟨(by rw [X11_makes_r, if_neg c1, if_neg c3, if_pos c5, if_pos c6]), (by rw [X11_makes_m, if_neg c1, if_neg c3, if_pos c5, if_pos c6])⟩
      ·
        refine v_aload_n (pc := 18) hX dX11_makes_18 rfl ?_
        refine v_iconst (v := 1) (pc := 19) hX dX11_makes_19 (by decide) ?_
        refine v_callV (z := yX11_fail) (pc := 20) hX dX11_makes_20 (c_fail2 hO m r 1 hs) hs.k rfl wd_1595 wd_1597 wp_19 wd_16 wd_1598 ⟨by decide, by decide, (by decide +kernel : (parseMethodDescriptor yX11_fail.desc).map (fun d => d.parameters.length) = some 1)⟩ rfl (Nat.le_of_ble_eq_true rfl) ⟨⟨by decide, by decide⟩, by decide, by decide⟩ (fun E m9 h9 => h9.elim) (fun r9 m9 h9 => ?_)
        obtain ⟨rfl, h8⟩ := h9
        replace h8 := h8.symm
        subst h8
        show mV g x _ _ _ _ _ [.int 0]
        exact v_iret (pc := 23) hX hZ dX11_makes_23 (by decide) (by decide) ⟨(by rw [X11_makes_r, if_neg c1, if_neg c3, if_neg c5]), (by rw [X11_makes_m, if_neg c1, if_neg c3, if_neg c5])⟩
def X11_equips_r (g : mG) (m : mM) (r : Nat) (a : Int32) (H : Nat) : Int32 := if (isI a 1 9) = 0 then 0 else (if (nI H) = 4 then 0 else (nI H))
def X11_equips_m (g : mG) (m : mM) (r : Nat) (a : Int32) (H : Nat) : mM := if (isI a 1 9) = 0 then ((sI m 384 r 1)) else (if (nI H) = 4 then ((sI m 384 r 2)) else ((sA (sA (sA m (r + 1) (2 * H + 77) a) (r + 1) (2 * H + 78) 0) (r + 1) 6 ((nI H) + 1))))
theorem kK_X11_equips (g : mG) (m : mM) (r : Nat) (a : Int32) (H : Nat) : gK (X11_equips_m g m r a H) = gK m := by
  unfold X11_equips_m
  repeat' split
  all_goals simp only [mm]
theorem kN_X11_equips (g : mG) (m : mM) (r : Nat) (a : Int32) (H : Nat) : gN (X11_equips_m g m r a H) = gN m := by
  unfold X11_equips_m
  repeat' split
  all_goals simp only [mm]
theorem kI_X11_equips (g : mG) (m : mM) (r : Nat) (a : Int32) (H : Nat) (k a9 : Nat) (h0 : k ≠ 384) : gI (X11_equips_m g m r a H) k a9 = gI m k a9 := by
  unfold X11_equips_m
  repeat' split
  all_goals simp [mm, h0]
theorem kJ_X11_equips (g : mG) (m : mM) (r : Nat) (a : Int32) (H : Nat) : gJ (X11_equips_m g m r a H) = gJ m := by
  unfold X11_equips_m
  repeat' split
  all_goals simp only [mm]
theorem kR_X11_equips (g : mG) (m : mM) (r : Nat) (a : Int32) (H : Nat) : gR (X11_equips_m g m r a H) = gR m := by
  unfold X11_equips_m
  repeat' split
  all_goals simp only [mm]
theorem kQ_X11_equips (g : mG) (m : mM) (r : Nat) (a : Int32) (H : Nat) : gQ (X11_equips_m g m r a H) = gQ m := by
  unfold X11_equips_m
  repeat' split
  all_goals simp only [mm]
theorem kL_X11_equips (g : mG) (m : mM) (r : Nat) (a : Int32) (H : Nat) : gL (X11_equips_m g m r a H) = gL m := by
  unfold X11_equips_m
  repeat' split
  all_goals simp only [mm]
theorem kD_X11_equips (g : mG) (m : mM) (r : Nat) (a : Int32) (H : Nat) : gD (X11_equips_m g m r a H) = gD m := by
  unfold X11_equips_m
  repeat' split
  all_goals simp only [mm]
theorem kA_X11_equips (g : mG) (m : mM) (r : Nat) (a : Int32) (H : Nat) (c9 i9 : Nat) (h0 : c9 ≠ r + 1) : gA (X11_equips_m g m r a H) c9 i9 = gA m c9 i9 := by
  unfold X11_equips_m
  repeat' split
  all_goals simp [mm, h0]
set_option maxHeartbeats 4000000 in
set_option maxRecDepth 100000 in
theorem c_X11_equips {l : Launch} {g : mG} (hO : mO l g) (m : mM) (r : Nat) (a : Int32) (H : Nat) (hs : SR m r) (hH : gA m (r + 1) 6 = nI H) (hH4 : H ≤ 4) : mT l g yX11_equips (.code yX11_equips cX11_equips 3 (Option.some FieldType.int)) 2 42 0 0 [.ref r, .int a] m (fun u m' => u = some (.int (X11_equips_r g m r a H)) ∧ m' = X11_equips_m g m r a H) nX := by
  refine mT_of hO (by decide) (Nat.le_of_ble_eq_true rfl) (fun x hX hZ => ?_)
  show mV g x m 0 0 0 [(0, .ref r), (1, .int a)] []
  refine v_iload_n (pc := 0) hX dX11_equips_0 rfl ?_
  refine v_iconst (v := 1) (pc := 1) hX dX11_equips_1 (by decide) ?_
  refine v_bipush (v := 9) (pc := 2) hX dX11_equips_2 (by decide) ?_
  refine v_callS (z := yX11_isIn) (pc := 4) hX dX11_equips_4 (c_isI hO m a 1 9) wd_1592 wd_1593 wd_16 wd_1594 ⟨by decide, by decide, (by decide +kernel : (parseMethodDescriptor yX11_isIn.desc).map (fun d => d.parameters.length) = some 3)⟩ rfl (Nat.le_of_ble_eq_true rfl) ⟨⟨by decide, by decide⟩, by decide, by decide⟩ (fun E m9 h9 => h9.elim) (fun r9 m9 h9 => ?_)
  obtain ⟨rfl, h8⟩ := h9
  replace h8 := h8.symm
  subst h8
  show mV g x _ _ _ _ _ [.int (isI a 1 9)]
  refine v_if_ne (tgt := 16) (pc := 7) hX dX11_equips_7 (by decide) (fun c1 => ?_) (fun c1 => ?_)
  ·
    refine v_aload_n (pc := 16) hX dX11_equips_16 rfl ?_
    refine v_get (v := .ref (r + 1)) (pc := 17) hX dX11_equips_17 hs.k (ci := 12) (r := vwC12) rfl 5 (by decide) wd_1511 (fvA rfl hs.r1) ?_
    refine v_bipush (v := 6) (pc := 20) hX dX11_equips_20 (by decide) ?_
    refine v_iald (j := 6) (v := (nI H)) (pc := 22) hX dX11_equips_22 hs.k1 rfl (by decide) (by decide) ((rfl).trans hH) ?_
    refine v_istore_n (pc := 23) hX dX11_equips_23 (by decide) rfl ?_
    refine v_iload_n (pc := 24) hX dX11_equips_24 rfl ?_
    refine v_iconst (v := 4) (pc := 25) hX dX11_equips_25 (by decide) ?_
    refine v_icmp_ne (tgt := 35) (pc := 26) hX dX11_equips_26 (by decide) (fun c2 => ?_) (fun c2 => ?_)
    ·
      have hH3 : H < 4 := by
        rcases Nat.lt_or_ge H 4 with q | q
        · exact q
        · exact absurd (show nI H = 4 by rw [show H = 4 by omega]; rfl) (by assumption)
      refine v_aload_n (pc := 35) hX dX11_equips_35 rfl ?_
      refine v_get (v := .ref (r + 1)) (pc := 36) hX dX11_equips_36 hs.k (ci := 12) (r := vwC12) rfl 5 (by decide) wd_1511 (fvA rfl hs.r1) ?_
      refine v_bipush (v := 77) (pc := 39) hX dX11_equips_39 (by decide) ?_
      refine v_iconst (v := 2) (pc := 41) hX dX11_equips_41 (by decide) ?_
      refine v_iload_n (pc := 42) hX dX11_equips_42 rfl ?_
      refine v_imul (pc := 43) hX dX11_equips_43 ?_
      refine v_iadd (pc := 44) hX dX11_equips_44 ?_
      refine v_iload_n (pc := 45) hX dX11_equips_45 rfl ?_
      refine v_iast (j := 2 * H + 77) (pc := 46) hX dX11_equips_46 hs.k1 (ix_t0 rfl) (by omega) (by decide) ?_
      refine v_aload_n (pc := 47) hX dX11_equips_47 rfl ?_
      refine v_get (v := .ref (r + 1)) (pc := 48) hX dX11_equips_48 (by simp only [mm]; exact hs.k) (ci := 12) (r := vwC12) rfl 5 (by decide) wd_1511 (fvA rfl (by simp [mm, hs.r1])) ?_
      refine v_bipush (v := 77) (pc := 51) hX dX11_equips_51 (by decide) ?_
      refine v_iconst (v := 2) (pc := 53) hX dX11_equips_53 (by decide) ?_
      refine v_iload_n (pc := 54) hX dX11_equips_54 rfl ?_
      refine v_imul (pc := 55) hX dX11_equips_55 ?_
      refine v_iadd (pc := 56) hX dX11_equips_56 ?_
      refine v_iconst (v := 1) (pc := 57) hX dX11_equips_57 (by decide) ?_
      refine v_iadd (pc := 58) hX dX11_equips_58 ?_
      refine v_iconst (v := 0) (pc := 59) hX dX11_equips_59 (by decide) ?_
      refine v_iast (j := 2 * H + 78) (pc := 60) hX dX11_equips_60 (by simp only [mm]; exact hs.k1) (ix_t1 rfl) (by omega) (by decide) ?_
      refine v_aload_n (pc := 61) hX dX11_equips_61 rfl ?_
      refine v_get (v := .ref (r + 1)) (pc := 62) hX dX11_equips_62 (by simp only [mm]; exact hs.k) (ci := 12) (r := vwC12) rfl 5 (by decide) wd_1511 (fvA rfl (by simp [mm, hs.r1])) ?_
      refine v_bipush (v := 6) (pc := 65) hX dX11_equips_65 (by decide) ?_
      refine v_dup2 (pc := 67) hX dX11_equips_67 rfl rfl ?_
      refine v_iald (j := 6) (v := (nI H)) (pc := 68) hX dX11_equips_68 (by simp only [mm]; exact hs.k1) rfl (by decide) (by decide) ((((gA_n (by omega)).trans ((gA_n (by omega)).trans rfl))).trans hH) ?_
      refine v_iconst (v := 1) (pc := 69) hX dX11_equips_69 (by decide) ?_
      refine v_iadd (pc := 70) hX dX11_equips_70 ?_
      refine v_iast (j := 6) (pc := 71) hX dX11_equips_71 (by simp only [mm]; exact hs.k1) rfl (by decide) (by decide) ?_
      refine v_iload_n (pc := 72) hX dX11_equips_72 rfl ?_
      exact v_iret (pc := 73) hX hZ dX11_equips_73 (by decide) (by decide) ⟨(by rw [X11_equips_r, if_neg c1, if_neg c2]), (by rw [X11_equips_m, if_neg c1, if_neg c2])⟩
    ·
      refine v_aload_n (pc := 29) hX dX11_equips_29 rfl ?_
      refine v_iconst (v := 2) (pc := 30) hX dX11_equips_30 (by decide) ?_
      refine v_callV (z := yX11_fail) (pc := 31) hX dX11_equips_31 (c_fail2 hO m r 2 hs) hs.k rfl wd_1595 wd_1597 wp_19 wd_16 wd_1598 ⟨by decide, by decide, (by decide +kernel : (parseMethodDescriptor yX11_fail.desc).map (fun d => d.parameters.length) = some 1)⟩ rfl (Nat.le_of_ble_eq_true rfl) ⟨⟨by decide, by decide⟩, by decide, by decide⟩ (fun E m9 h9 => h9.elim) (fun r9 m9 h9 => ?_)
      obtain ⟨rfl, h8⟩ := h9
      replace h8 := h8.symm
      subst h8
      show mV g x _ _ _ _ _ [.int 0]
      exact v_iret (pc := 34) hX hZ dX11_equips_34 (by decide) (by decide) ⟨(by rw [X11_equips_r, if_neg c1, if_pos c2]), (by rw [X11_equips_m, if_neg c1, if_pos c2])⟩
  ·
    refine v_aload_n (pc := 10) hX dX11_equips_10 rfl ?_
    refine v_iconst (v := 1) (pc := 11) hX dX11_equips_11 (by decide) ?_
    refine v_callV (z := yX11_fail) (pc := 12) hX dX11_equips_12 (c_fail2 hO m r 1 hs) hs.k rfl wd_1595 wd_1597 wp_19 wd_16 wd_1598 ⟨by decide, by decide, (by decide +kernel : (parseMethodDescriptor yX11_fail.desc).map (fun d => d.parameters.length) = some 1)⟩ rfl (Nat.le_of_ble_eq_true rfl) ⟨⟨by decide, by decide⟩, by decide, by decide⟩ (fun E m9 h9 => h9.elim) (fun r9 m9 h9 => ?_)
    obtain ⟨rfl, h8⟩ := h9
    replace h8 := h8.symm
    subst h8
    show mV g x _ _ _ _ _ [.int 0]
    exact v_iret (pc := 15) hX hZ dX11_equips_15 (by decide) (by decide) ⟨(by rw [X11_equips_r, if_pos c1]), (by rw [X11_equips_m, if_pos c1])⟩
def X11_inside_l1 (g : mG) (m : mM) (r : Nat) (N : Nat) : Nat → Nat → Int32 → Int32
  | 0, j, s => s
  | n + 1, j, s => X11_inside_l1 g m r N n (j + 1) (s + (gA m (r + 1) (8 * j + 18))) 
set_option maxHeartbeats 4000000 in
set_option maxRecDepth 100000 in
theorem lp_X11_inside_l1 {l : Launch} {g : mG} {x : mCx} (hO : mO l g) {m : mM} (r : Nat) (N : Nat) (hN8 : N ≤ 8) {pst : Option Value → mM → Prop} {XX : String → mM → Prop} (hX : mX l g x cX11_inside yX11_inside { frames := 2, cells := 0, slots := 0, locals := 41 } 3) (hZ : mZ g x (Option.some FieldType.int) [] pst XX 0 0) : ∀ (n j : Nat) (s : Int32) (hs : SR m r) (hN : gA m (r + 1) 5 = nI N) (hj : j + n = N) (hp : pst (some (.int (X11_inside_l1 g m r N n j s ))) m), mV g x m 0 0 4 [(0, .ref r), (1, .int s), (2, .int (nI j))] [] := by
  intro n
  induction n with
  | zero =>
    intro j s  hs hN hj hp
    refine v_iload_n (pc := 4) hX dX11_inside_4 rfl ?_
    refine v_aload_n (pc := 5) hX dX11_inside_5 rfl ?_
    refine v_get (v := .ref (r + 1)) (pc := 6) hX dX11_inside_6 hs.k (ci := 12) (r := vwC12) rfl 5 (by decide) wd_1511 (fvA rfl hs.r1) ?_
    refine v_iconst (v := 5) (pc := 9) hX dX11_inside_9 (by decide) ?_
    refine v_iald (j := 5) (v := (nI N)) (pc := 10) hX dX11_inside_10 hs.k1 rfl (by decide) (by decide) ((rfl).trans hN) ?_
    refine v_icmp_ge (tgt := 33) (pc := 11) hX dX11_inside_11 (by decide) (fun c1 => ?_) (fun c1 => ?_)
    ·
      refine v_iload_n (pc := 33) hX dX11_inside_33 rfl ?_
      exact v_iret (pc := 34) hX hZ dX11_inside_34 (by decide) (by decide) (by rw [X11_inside_l1] at hp; exact hp)
    · exact absurd (nI_le (by omega) (by omega)) c1
  | succ n ih =>
    intro j s  hs hN hj hp
    refine v_iload_n (pc := 4) hX dX11_inside_4 rfl ?_
    refine v_aload_n (pc := 5) hX dX11_inside_5 rfl ?_
    refine v_get (v := .ref (r + 1)) (pc := 6) hX dX11_inside_6 hs.k (ci := 12) (r := vwC12) rfl 5 (by decide) wd_1511 (fvA rfl hs.r1) ?_
    refine v_iconst (v := 5) (pc := 9) hX dX11_inside_9 (by decide) ?_
    refine v_iald (j := 5) (v := (nI N)) (pc := 10) hX dX11_inside_10 hs.k1 rfl (by decide) (by decide) ((rfl).trans hN) ?_
    refine v_icmp_ge (tgt := 33) (pc := 11) hX dX11_inside_11 (by decide) (fun c1 => ?_) (fun c1 => ?_)
    · exact absurd c1 (nI_ge (by omega) (by omega))
    ·
      refine v_iload_n (pc := 14) hX dX11_inside_14 rfl ?_
      refine v_aload_n (pc := 15) hX dX11_inside_15 rfl ?_
      refine v_get (v := .ref (r + 1)) (pc := 16) hX dX11_inside_16 hs.k (ci := 12) (r := vwC12) rfl 5 (by decide) wd_1511 (fvA rfl hs.r1) ?_
      refine v_iload_n (pc := 19) hX dX11_inside_19 rfl ?_
      refine v_iconst (v := 5) (pc := 20) hX dX11_inside_20 (by decide) ?_
      refine v_callS (z := yX11_of) (pc := 21) hX dX11_inside_21 (c_of2 hO m (nI j) j 5 rfl) wd_1626 wd_1627 wd_16 wd_1628 ⟨by decide, by decide, (by decide +kernel : (parseMethodDescriptor yX11_of.desc).map (fun d => d.parameters.length) = some 2)⟩ rfl (Nat.le_of_ble_eq_true rfl) ⟨⟨by decide, by decide⟩, by decide, by decide⟩ (fun E m9 h9 => h9.elim) (fun r9 m9 h9 => ?_)
      obtain ⟨rfl, h8⟩ := h9
      replace h8 := h8.symm
      subst h8
      show mV g x _ _ _ _ _ [.int (nI (8 * j + 18)), .ref (r + 1), .int s]
      refine v_iald (j := 8 * j + 18) (v := (gA m (r + 1) (8 * j + 18))) (pc := 24) hX dX11_inside_24 hs.k1 rfl (by omega) (by decide) rfl ?_
      refine v_iadd (pc := 25) hX dX11_inside_25 ?_
      refine v_istore_n (pc := 26) hX dX11_inside_26 (by decide) rfl ?_
      refine v_iinc (w := nI (j + 1)) (pc := 27) hX dX11_inside_27 rfl (nI_1 _) (by decide) rfl ?_
      refine v_goto (tgt := 4) (pc := 30) hX dX11_inside_30 (by decide) ?_
      refine mV_sub (lv' := [(0, .ref r), (1, .int (s + (gA m (r + 1) (8 * j + 18)))), (2, .int (nI (j + 1)))]) ⟨rfl, rfl, rfl, trivial⟩ ?_
      exact ih (j + 1) (s + (gA m (r + 1) (8 * j + 18)))  hs hN (by omega) (by rw [X11_inside_l1] at hp; exact hp)

def X11_inside_r (g : mG) (m : mM) (r : Nat) (N : Nat) : Int32 := X11_inside_l1 g m r N N 0 0 

set_option maxHeartbeats 4000000 in
set_option maxRecDepth 100000 in
theorem c_X11_inside {l : Launch} {g : mG} (hO : mO l g) (m : mM) (r : Nat) (N : Nat) (hs : SR m r) (hN : gA m (r + 1) 5 = nI N) (hN8 : N ≤ 8) : mT l g yX11_inside (.code yX11_inside cX11_inside 3 (Option.some FieldType.int)) 2 41 0 0 [.ref r] m (fun u m' => u = some (.int (X11_inside_r g m r N)) ∧ m' = m) nX := by
  refine mT_of hO (by decide) (Nat.le_of_ble_eq_true rfl) (fun x hX hZ => ?_)
  show mV g x m 0 0 0 [(0, .ref r)] []
  refine v_iconst (v := 0) (pc := 0) hX dX11_inside_0 (by decide) ?_
  refine v_istore_n (pc := 1) hX dX11_inside_1 (by decide) rfl ?_
  refine v_iconst (v := 0) (pc := 2) hX dX11_inside_2 (by decide) ?_
  refine v_istore_n (pc := 3) hX dX11_inside_3 (by decide) rfl ?_
  refine mV_sub (lv' := [(0, .ref r), (1, .int 0), (2, .int (nI 0))]) ⟨rfl, rfl, rfl, trivial⟩ ?_
  exact lp_X11_inside_l1 hO r N hN8 hX hZ N 0 0  hs hN (by omega) ⟨(by rw [X11_inside_r]), rfl⟩
def X11_puts_r (g : mG) (m : mM) (r : Nat) (a : Int32) (N : Nat) : Int32 := if 0 ≤ a then (if (gA m (r + 1) (8 * a.toNatClampNeg + 18)) = 1 then 0 else (if (X11_inside_r g m r N) = 3 then 0 else (X11_inside_r g ((sA m (r + 1) (8 * a.toNatClampNeg + 18) 1)) r N))) else 0
def X11_puts_m (g : mG) (m : mM) (r : Nat) (a : Int32) (N : Nat) : mM := if 0 ≤ a then (if (gA m (r + 1) (8 * a.toNatClampNeg + 18)) = 1 then ((sI m 384 r 2)) else (if (X11_inside_r g m r N) = 3 then ((sI m 384 r 2)) else ((sA m (r + 1) (8 * a.toNatClampNeg + 18) 1)))) else ((sI m 384 r 1))
theorem kK_X11_puts (g : mG) (m : mM) (r : Nat) (a : Int32) (N : Nat) : gK (X11_puts_m g m r a N) = gK m := by
  unfold X11_puts_m
  repeat' split
  all_goals simp only [mm]
theorem kN_X11_puts (g : mG) (m : mM) (r : Nat) (a : Int32) (N : Nat) : gN (X11_puts_m g m r a N) = gN m := by
  unfold X11_puts_m
  repeat' split
  all_goals simp only [mm]
theorem kI_X11_puts (g : mG) (m : mM) (r : Nat) (a : Int32) (N : Nat) (k a9 : Nat) (h0 : k ≠ 384) : gI (X11_puts_m g m r a N) k a9 = gI m k a9 := by
  unfold X11_puts_m
  repeat' split
  all_goals simp [mm, h0]
theorem kJ_X11_puts (g : mG) (m : mM) (r : Nat) (a : Int32) (N : Nat) : gJ (X11_puts_m g m r a N) = gJ m := by
  unfold X11_puts_m
  repeat' split
  all_goals simp only [mm]
theorem kR_X11_puts (g : mG) (m : mM) (r : Nat) (a : Int32) (N : Nat) : gR (X11_puts_m g m r a N) = gR m := by
  unfold X11_puts_m
  repeat' split
  all_goals simp only [mm]
theorem kQ_X11_puts (g : mG) (m : mM) (r : Nat) (a : Int32) (N : Nat) : gQ (X11_puts_m g m r a N) = gQ m := by
  unfold X11_puts_m
  repeat' split
  all_goals simp only [mm]
theorem kL_X11_puts (g : mG) (m : mM) (r : Nat) (a : Int32) (N : Nat) : gL (X11_puts_m g m r a N) = gL m := by
  unfold X11_puts_m
  repeat' split
  all_goals simp only [mm]
theorem kD_X11_puts (g : mG) (m : mM) (r : Nat) (a : Int32) (N : Nat) : gD (X11_puts_m g m r a N) = gD m := by
  unfold X11_puts_m
  repeat' split
  all_goals simp only [mm]
theorem kA_X11_puts (g : mG) (m : mM) (r : Nat) (a : Int32) (N : Nat) (c9 i9 : Nat) (h0 : c9 ≠ r + 1) : gA (X11_puts_m g m r a N) c9 i9 = gA m c9 i9 := by
  unfold X11_puts_m
  repeat' split
  all_goals simp [mm, h0]
set_option maxHeartbeats 4000000 in
set_option maxRecDepth 100000 in
theorem c_X11_puts {l : Launch} {g : mG} (hO : mO l g) (m : mM) (r : Nat) (a : Int32) (N : Nat) (hs : SR m r) (hN : gA m (r + 1) 5 = nI N) (hN8 : N ≤ 8) (hp8 : 0 ≤ a → okI a 7) : mT l g yX11_puts (.code yX11_puts cX11_puts 2 (Option.some FieldType.int)) 3 63 0 0 [.ref r, .int a] m (fun u m' => u = some (.int (X11_puts_r g m r a N)) ∧ m' = X11_puts_m g m r a N) nX := by
  refine mT_of hO (by decide) (Nat.le_of_ble_eq_true rfl) (fun x hX hZ => ?_)
  show mV g x m 0 0 0 [(0, .ref r), (1, .int a)] []
  refine v_iload_n (pc := 0) hX dX11_puts_0 rfl ?_
  refine v_if_ge (tgt := 10) (pc := 1) hX dX11_puts_1 (by decide) (fun c1 => ?_) (fun c1 => ?_)
  ·
    have hpp := hp8 (by assumption)
    have hpp2 := hpp.2
    refine v_aload_n (pc := 10) hX dX11_puts_10 rfl ?_
    refine v_get (v := .ref (r + 1)) (pc := 11) hX dX11_puts_11 hs.k (ci := 12) (r := vwC12) rfl 5 (by decide) wd_1511 (fvA rfl hs.r1) ?_
    refine v_iload_n (pc := 14) hX dX11_puts_14 rfl ?_
    refine v_iconst (v := 5) (pc := 15) hX dX11_puts_15 (by decide) ?_
    refine v_callS (z := yX11_of) (pc := 16) hX dX11_puts_16 (c_of2 hO m a a.toNatClampNeg 5 hpp.1) wd_1626 wd_1627 wd_16 wd_1628 ⟨by decide, by decide, (by decide +kernel : (parseMethodDescriptor yX11_of.desc).map (fun d => d.parameters.length) = some 2)⟩ rfl (Nat.le_of_ble_eq_true rfl) ⟨⟨by decide, by decide⟩, by decide, by decide⟩ (fun E m9 h9 => h9.elim) (fun r9 m9 h9 => ?_)
    obtain ⟨rfl, h8⟩ := h9
    replace h8 := h8.symm
    subst h8
    show mV g x _ _ _ _ _ [.int (nI (8 * a.toNatClampNeg + 18)), .ref (r + 1)]
    refine v_iald (j := 8 * a.toNatClampNeg + 18) (v := (gA m (r + 1) (8 * a.toNatClampNeg + 18))) (pc := 19) hX dX11_puts_19 hs.k1 rfl (by omega) (by decide) rfl ?_
    refine v_iconst (v := 1) (pc := 20) hX dX11_puts_20 (by decide) ?_
    refine v_icmp_eq (tgt := 32) (pc := 21) hX dX11_puts_21 (by decide) (fun c2 => ?_) (fun c2 => ?_)
    ·
      refine v_aload_n (pc := 32) hX dX11_puts_32 rfl ?_
      refine v_iconst (v := 2) (pc := 33) hX dX11_puts_33 (by decide) ?_
      refine v_callV (z := yX11_fail) (pc := 34) hX dX11_puts_34 (c_fail2 hO m r 2 hs) hs.k rfl wd_1595 wd_1597 wp_19 wd_16 wd_1598 ⟨by decide, by decide, (by decide +kernel : (parseMethodDescriptor yX11_fail.desc).map (fun d => d.parameters.length) = some 1)⟩ rfl (Nat.le_of_ble_eq_true rfl) ⟨⟨by decide, by decide⟩, by decide, by decide⟩ (fun E m9 h9 => h9.elim) (fun r9 m9 h9 => ?_)
      obtain ⟨rfl, h8⟩ := h9
      replace h8 := h8.symm
      subst h8
      show mV g x _ _ _ _ _ [.int 0]
      exact v_iret (pc := 37) hX hZ dX11_puts_37 (by decide) (by decide) ⟨(by rw [X11_puts_r, if_pos c1, if_pos c2]), (by rw [X11_puts_m, if_pos c1, if_pos c2])⟩
    ·
      refine v_aload_n (pc := 24) hX dX11_puts_24 rfl ?_
      refine v_callV (z := yX11_inside) (pc := 25) hX dX11_puts_25 (c_X11_inside hO m r N hs hN hN8) hs.k rfl wd_1660 wd_1662 wp_28 wd_16 wd_1663 ⟨by decide, by decide, (by decide +kernel : (parseMethodDescriptor yX11_inside.desc).map (fun d => d.parameters.length) = some 0)⟩ rfl (Nat.le_of_ble_eq_true rfl) ⟨⟨by decide, by decide⟩, by decide, by decide⟩ (fun E m9 h9 => h9.elim) (fun r9 m9 h9 => ?_)
      obtain ⟨rfl, h8⟩ := h9
      replace h8 := h8.symm
      subst h8
      show mV g x _ _ _ _ _ [.int (X11_inside_r g m r N)]
      refine v_iconst (v := 3) (pc := 28) hX dX11_puts_28 (by decide) ?_
      refine v_icmp_ne (tgt := 38) (pc := 29) hX dX11_puts_29 (by decide) (fun c3 => ?_) (fun c3 => ?_)
      ·
        refine v_aload_n (pc := 38) hX dX11_puts_38 rfl ?_
        refine v_get (v := .ref (r + 1)) (pc := 39) hX dX11_puts_39 hs.k (ci := 12) (r := vwC12) rfl 5 (by decide) wd_1511 (fvA rfl hs.r1) ?_
        refine v_iload_n (pc := 42) hX dX11_puts_42 rfl ?_
        refine v_iconst (v := 5) (pc := 43) hX dX11_puts_43 (by decide) ?_
        refine v_callS (z := yX11_of) (pc := 44) hX dX11_puts_44 (c_of2 hO m a a.toNatClampNeg 5 hpp.1) wd_1626 wd_1627 wd_16 wd_1628 ⟨by decide, by decide, (by decide +kernel : (parseMethodDescriptor yX11_of.desc).map (fun d => d.parameters.length) = some 2)⟩ rfl (Nat.le_of_ble_eq_true rfl) ⟨⟨by decide, by decide⟩, by decide, by decide⟩ (fun E m9 h9 => h9.elim) (fun r9 m9 h9 => ?_)
        obtain ⟨rfl, h8⟩ := h9
        replace h8 := h8.symm
        subst h8
        show mV g x _ _ _ _ _ [.int (nI (8 * a.toNatClampNeg + 18)), .ref (r + 1)]
        refine v_iconst (v := 1) (pc := 47) hX dX11_puts_47 (by decide) ?_
        refine v_iast (j := 8 * a.toNatClampNeg + 18) (pc := 48) hX dX11_puts_48 hs.k1 rfl (by omega) (by decide) ?_
        refine v_aload_n (pc := 49) hX dX11_puts_49 rfl ?_
        refine v_callV (z := yX11_inside) (pc := 50) hX dX11_puts_50 (c_X11_inside hO ((sA m (r + 1) (8 * a.toNatClampNeg + 18) 1)) r N (hs.to (by simp only [mm]) (by simp only [mm])) (((gA_n (by omega)).trans rfl).trans hN) hN8) (by simp only [mm]; exact hs.k) rfl wd_1660 wd_1662 wp_28 wd_16 wd_1663 ⟨by decide, by decide, (by decide +kernel : (parseMethodDescriptor yX11_inside.desc).map (fun d => d.parameters.length) = some 0)⟩ rfl (Nat.le_of_ble_eq_true rfl) ⟨⟨by decide, by decide⟩, by decide, by decide⟩ (fun E m9 h9 => h9.elim) (fun r9 m9 h9 => ?_)
        obtain ⟨rfl, h8⟩ := h9
        replace h8 := h8.symm
        subst h8
        show mV g x _ _ _ _ _ [.int (X11_inside_r g ((sA m (r + 1) (8 * a.toNatClampNeg + 18) 1)) r N)]
        exact v_iret (pc := 53) hX hZ dX11_puts_53 (by decide) (by decide) ⟨(by rw [X11_puts_r, if_pos c1, if_neg c2, if_neg c3]), (by rw [X11_puts_m, if_pos c1, if_neg c2, if_neg c3])⟩
      ·
        refine v_aload_n (pc := 32) hX dX11_puts_32 rfl ?_
        refine v_iconst (v := 2) (pc := 33) hX dX11_puts_33 (by decide) ?_
        refine v_callV (z := yX11_fail) (pc := 34) hX dX11_puts_34 (c_fail2 hO m r 2 hs) hs.k rfl wd_1595 wd_1597 wp_19 wd_16 wd_1598 ⟨by decide, by decide, (by decide +kernel : (parseMethodDescriptor yX11_fail.desc).map (fun d => d.parameters.length) = some 1)⟩ rfl (Nat.le_of_ble_eq_true rfl) ⟨⟨by decide, by decide⟩, by decide, by decide⟩ (fun E m9 h9 => h9.elim) (fun r9 m9 h9 => ?_)
        obtain ⟨rfl, h8⟩ := h9
        replace h8 := h8.symm
        subst h8
        show mV g x _ _ _ _ _ [.int 0]
        exact v_iret (pc := 37) hX hZ dX11_puts_37 (by decide) (by decide) ⟨(by rw [X11_puts_r, if_pos c1, if_neg c2, if_pos c3]), (by rw [X11_puts_m, if_pos c1, if_neg c2, if_pos c3])⟩
  ·
    refine v_aload_n (pc := 4) hX dX11_puts_4 rfl ?_
    refine v_iconst (v := 1) (pc := 5) hX dX11_puts_5 (by decide) ?_
    refine v_callV (z := yX11_fail) (pc := 6) hX dX11_puts_6 (c_fail2 hO m r 1 hs) hs.k rfl wd_1595 wd_1597 wp_19 wd_16 wd_1598 ⟨by decide, by decide, (by decide +kernel : (parseMethodDescriptor yX11_fail.desc).map (fun d => d.parameters.length) = some 1)⟩ rfl (Nat.le_of_ble_eq_true rfl) ⟨⟨by decide, by decide⟩, by decide, by decide⟩ (fun E m9 h9 => h9.elim) (fun r9 m9 h9 => ?_)
    obtain ⟨rfl, h8⟩ := h9
    replace h8 := h8.symm
    subst h8
    show mV g x _ _ _ _ _ [.int 0]
    exact v_iret (pc := 9) hX hZ dX11_puts_9 (by decide) (by decide) ⟨(by rw [X11_puts_r, if_neg c1]), (by rw [X11_puts_m, if_neg c1])⟩
def X11_takes_r (g : mG) (m : mM) (r : Nat) (a : Int32)  : Int32 := if 0 ≤ a then (if (gA m (r + 1) (8 * a.toNatClampNeg + 18)) = 0 then 0 else (gA m (r + 1) (8 * a.toNatClampNeg + 15))) else 0
def X11_takes_m (g : mG) (m : mM) (r : Nat) (a : Int32)  : mM := if 0 ≤ a then (if (gA m (r + 1) (8 * a.toNatClampNeg + 18)) = 0 then ((sI m 384 r 2)) else ((sA m (r + 1) (8 * a.toNatClampNeg + 18) 0))) else ((sI m 384 r 1))
theorem kK_X11_takes (g : mG) (m : mM) (r : Nat) (a : Int32)  : gK (X11_takes_m g m r a ) = gK m := by
  unfold X11_takes_m
  repeat' split
  all_goals simp only [mm]
theorem kN_X11_takes (g : mG) (m : mM) (r : Nat) (a : Int32)  : gN (X11_takes_m g m r a ) = gN m := by
  unfold X11_takes_m
  repeat' split
  all_goals simp only [mm]
theorem kI_X11_takes (g : mG) (m : mM) (r : Nat) (a : Int32)  (k a9 : Nat) (h0 : k ≠ 384) : gI (X11_takes_m g m r a ) k a9 = gI m k a9 := by
  unfold X11_takes_m
  repeat' split
  all_goals simp [mm, h0]
theorem kJ_X11_takes (g : mG) (m : mM) (r : Nat) (a : Int32)  : gJ (X11_takes_m g m r a ) = gJ m := by
  unfold X11_takes_m
  repeat' split
  all_goals simp only [mm]
theorem kR_X11_takes (g : mG) (m : mM) (r : Nat) (a : Int32)  : gR (X11_takes_m g m r a ) = gR m := by
  unfold X11_takes_m
  repeat' split
  all_goals simp only [mm]
theorem kQ_X11_takes (g : mG) (m : mM) (r : Nat) (a : Int32)  : gQ (X11_takes_m g m r a ) = gQ m := by
  unfold X11_takes_m
  repeat' split
  all_goals simp only [mm]
theorem kL_X11_takes (g : mG) (m : mM) (r : Nat) (a : Int32)  : gL (X11_takes_m g m r a ) = gL m := by
  unfold X11_takes_m
  repeat' split
  all_goals simp only [mm]
theorem kD_X11_takes (g : mG) (m : mM) (r : Nat) (a : Int32)  : gD (X11_takes_m g m r a ) = gD m := by
  unfold X11_takes_m
  repeat' split
  all_goals simp only [mm]
theorem kA_X11_takes (g : mG) (m : mM) (r : Nat) (a : Int32)  (c9 i9 : Nat) (h0 : c9 ≠ r + 1) : gA (X11_takes_m g m r a ) c9 i9 = gA m c9 i9 := by
  unfold X11_takes_m
  repeat' split
  all_goals simp [mm, h0]
set_option maxHeartbeats 4000000 in
set_option maxRecDepth 100000 in
theorem c_X11_takes {l : Launch} {g : mG} (hO : mO l g) (m : mM) (r : Nat) (a : Int32)  (hs : SR m r) (hp8 : 0 ≤ a → okI a 7) : mT l g yX11_takes (.code yX11_takes cX11_takes 2 (Option.some FieldType.int)) 2 41 0 0 [.ref r, .int a] m (fun u m' => u = some (.int (X11_takes_r g m r a )) ∧ m' = X11_takes_m g m r a ) nX := by
  refine mT_of hO (by decide) (Nat.le_of_ble_eq_true rfl) (fun x hX hZ => ?_)
  show mV g x m 0 0 0 [(0, .ref r), (1, .int a)] []
  refine v_iload_n (pc := 0) hX dX11_takes_0 rfl ?_
  refine v_if_ge (tgt := 10) (pc := 1) hX dX11_takes_1 (by decide) (fun c1 => ?_) (fun c1 => ?_)
  ·
    have hpp := hp8 (by assumption)
    have hpp2 := hpp.2
    refine v_aload_n (pc := 10) hX dX11_takes_10 rfl ?_
    refine v_get (v := .ref (r + 1)) (pc := 11) hX dX11_takes_11 hs.k (ci := 12) (r := vwC12) rfl 5 (by decide) wd_1511 (fvA rfl hs.r1) ?_
    refine v_iload_n (pc := 14) hX dX11_takes_14 rfl ?_
    refine v_iconst (v := 5) (pc := 15) hX dX11_takes_15 (by decide) ?_
    refine v_callS (z := yX11_of) (pc := 16) hX dX11_takes_16 (c_of2 hO m a a.toNatClampNeg 5 hpp.1) wd_1626 wd_1627 wd_16 wd_1628 ⟨by decide, by decide, (by decide +kernel : (parseMethodDescriptor yX11_of.desc).map (fun d => d.parameters.length) = some 2)⟩ rfl (Nat.le_of_ble_eq_true rfl) ⟨⟨by decide, by decide⟩, by decide, by decide⟩ (fun E m9 h9 => h9.elim) (fun r9 m9 h9 => ?_)
    obtain ⟨rfl, h8⟩ := h9
    replace h8 := h8.symm
    subst h8
    show mV g x _ _ _ _ _ [.int (nI (8 * a.toNatClampNeg + 18)), .ref (r + 1)]
    refine v_iald (j := 8 * a.toNatClampNeg + 18) (v := (gA m (r + 1) (8 * a.toNatClampNeg + 18))) (pc := 19) hX dX11_takes_19 hs.k1 rfl (by omega) (by decide) rfl ?_
    refine v_if_ne (tgt := 29) (pc := 20) hX dX11_takes_20 (by decide) (fun c2 => ?_) (fun c2 => ?_)
    ·
      refine v_aload_n (pc := 29) hX dX11_takes_29 rfl ?_
      refine v_get (v := .ref (r + 1)) (pc := 30) hX dX11_takes_30 hs.k (ci := 12) (r := vwC12) rfl 5 (by decide) wd_1511 (fvA rfl hs.r1) ?_
      refine v_iload_n (pc := 33) hX dX11_takes_33 rfl ?_
      refine v_iconst (v := 5) (pc := 34) hX dX11_takes_34 (by decide) ?_
      refine v_callS (z := yX11_of) (pc := 35) hX dX11_takes_35 (c_of2 hO m a a.toNatClampNeg 5 hpp.1) wd_1626 wd_1627 wd_16 wd_1628 ⟨by decide, by decide, (by decide +kernel : (parseMethodDescriptor yX11_of.desc).map (fun d => d.parameters.length) = some 2)⟩ rfl (Nat.le_of_ble_eq_true rfl) ⟨⟨by decide, by decide⟩, by decide, by decide⟩ (fun E m9 h9 => h9.elim) (fun r9 m9 h9 => ?_)
      obtain ⟨rfl, h8⟩ := h9
      replace h8 := h8.symm
      subst h8
      show mV g x _ _ _ _ _ [.int (nI (8 * a.toNatClampNeg + 18)), .ref (r + 1)]
      refine v_iconst (v := 0) (pc := 38) hX dX11_takes_38 (by decide) ?_
      refine v_iast (j := 8 * a.toNatClampNeg + 18) (pc := 39) hX dX11_takes_39 hs.k1 rfl (by omega) (by decide) ?_
      refine v_aload_n (pc := 40) hX dX11_takes_40 rfl ?_
      refine v_get (v := .ref (r + 1)) (pc := 41) hX dX11_takes_41 (by simp only [mm]; exact hs.k) (ci := 12) (r := vwC12) rfl 5 (by decide) wd_1511 (fvA rfl (by simp [mm, hs.r1])) ?_
      refine v_iload_n (pc := 44) hX dX11_takes_44 rfl ?_
      refine v_iconst (v := 2) (pc := 45) hX dX11_takes_45 (by decide) ?_
      refine v_callS (z := yX11_of) (pc := 46) hX dX11_takes_46 (c_of2 hO ((sA m (r + 1) (8 * a.toNatClampNeg + 18) 0)) a a.toNatClampNeg 2 hpp.1) wd_1626 wd_1627 wd_16 wd_1628 ⟨by decide, by decide, (by decide +kernel : (parseMethodDescriptor yX11_of.desc).map (fun d => d.parameters.length) = some 2)⟩ rfl (Nat.le_of_ble_eq_true rfl) ⟨⟨by decide, by decide⟩, by decide, by decide⟩ (fun E m9 h9 => h9.elim) (fun r9 m9 h9 => ?_)
      obtain ⟨rfl, h8⟩ := h9
      replace h8 := h8.symm
      subst h8
      show mV g x _ _ _ _ _ [.int (nI (8 * a.toNatClampNeg + 15)), .ref (r + 1)]
      refine v_iald (j := 8 * a.toNatClampNeg + 15) (v := (gA m (r + 1) (8 * a.toNatClampNeg + 15))) (pc := 49) hX dX11_takes_49 (by simp only [mm]; exact hs.k1) rfl (by omega) (by decide) (((gA_n (by omega)).trans rfl)) ?_
      exact v_iret (pc := 50) hX hZ dX11_takes_50 (by decide) (by decide) ⟨(by rw [X11_takes_r, if_pos c1, if_neg c2]), (by rw [X11_takes_m, if_pos c1, if_neg c2])⟩
    ·
      refine v_aload_n (pc := 23) hX dX11_takes_23 rfl ?_
      refine v_iconst (v := 2) (pc := 24) hX dX11_takes_24 (by decide) ?_
      refine v_callV (z := yX11_fail) (pc := 25) hX dX11_takes_25 (c_fail2 hO m r 2 hs) hs.k rfl wd_1595 wd_1597 wp_19 wd_16 wd_1598 ⟨by decide, by decide, (by decide +kernel : (parseMethodDescriptor yX11_fail.desc).map (fun d => d.parameters.length) = some 1)⟩ rfl (Nat.le_of_ble_eq_true rfl) ⟨⟨by decide, by decide⟩, by decide, by decide⟩ (fun E m9 h9 => h9.elim) (fun r9 m9 h9 => ?_)
      obtain ⟨rfl, h8⟩ := h9
      replace h8 := h8.symm
      subst h8
      show mV g x _ _ _ _ _ [.int 0]
      exact v_iret (pc := 28) hX hZ dX11_takes_28 (by decide) (by decide) ⟨(by rw [X11_takes_r, if_pos c1, if_pos c2]), (by rw [X11_takes_m, if_pos c1, if_pos c2])⟩
  ·
    refine v_aload_n (pc := 4) hX dX11_takes_4 rfl ?_
    refine v_iconst (v := 1) (pc := 5) hX dX11_takes_5 (by decide) ?_
    refine v_callV (z := yX11_fail) (pc := 6) hX dX11_takes_6 (c_fail2 hO m r 1 hs) hs.k rfl wd_1595 wd_1597 wp_19 wd_16 wd_1598 ⟨by decide, by decide, (by decide +kernel : (parseMethodDescriptor yX11_fail.desc).map (fun d => d.parameters.length) = some 1)⟩ rfl (Nat.le_of_ble_eq_true rfl) ⟨⟨by decide, by decide⟩, by decide, by decide⟩ (fun E m9 h9 => h9.elim) (fun r9 m9 h9 => ?_)
    obtain ⟨rfl, h8⟩ := h9
    replace h8 := h8.symm
    subst h8
    show mV g x _ _ _ _ _ [.int 0]
    exact v_iret (pc := 9) hX hZ dX11_takes_9 (by decide) (by decide) ⟨(by rw [X11_takes_r, if_neg c1]), (by rw [X11_takes_m, if_neg c1])⟩
def X11_blow_r (g : mG) (m : mM) (r : Nat) (a : Int32) (b : Int32)  : Int32 := if ((gA m (r + 1) (8 * a.toNatClampNeg + 15)) - 500) ≤ 0 then (if (10 - (gA m (r + 1) (8 * a.toNatClampNeg + 16))) ≤ (1 + 0) then (10 - (gA m (r + 1) (8 * a.toNatClampNeg + 16))) else (1 + 0)) else (if (10 - (gA m (r + 1) (8 * a.toNatClampNeg + 16))) ≤ (1 + (((X11_weighs_r g m r b ) * ((gA m (r + 1) (8 * a.toNatClampNeg + 15)) - 500)) / 1000)) then (10 - (gA m (r + 1) (8 * a.toNatClampNeg + 16))) else (1 + (((X11_weighs_r g m r b ) * ((gA m (r + 1) (8 * a.toNatClampNeg + 15)) - 500)) / 1000)))

set_option maxHeartbeats 4000000 in
set_option maxRecDepth 100000 in
theorem c_X11_blow {l : Launch} {g : mG} (hO : mO l g) (m : mM) (r : Nat) (a : Int32) (b : Int32)  (hs : SR m r) (hpa : okI a 7) (hhb : okI b 3) : mT l g yX11_blow (.code yX11_blow cX11_blow 6 (Option.some FieldType.int)) 2 41 0 0 [.ref r, .int a, .int b] m (fun u m' => u = some (.int (X11_blow_r g m r a b )) ∧ m' = m) nX := by
  refine mT_of hO (by decide) (Nat.le_of_ble_eq_true rfl) (fun x hX hZ => ?_)
  show mV g x m 0 0 0 [(0, .ref r), (1, .int a), (2, .int b)] []
  have hpa2 := hpa.2
  have hhb2 := hhb.2
  refine v_aload_n (pc := 0) hX dX11_blow_0 rfl ?_
  refine v_get (v := .ref (r + 1)) (pc := 1) hX dX11_blow_1 hs.k (ci := 12) (r := vwC12) rfl 5 (by decide) wd_1511 (fvA rfl hs.r1) ?_
  refine v_iload_n (pc := 4) hX dX11_blow_4 rfl ?_
  refine v_iconst (v := 2) (pc := 5) hX dX11_blow_5 (by decide) ?_
  refine v_callS (z := yX11_of) (pc := 6) hX dX11_blow_6 (c_of2 hO m a a.toNatClampNeg 2 hpa.1) wd_1626 wd_1627 wd_16 wd_1628 ⟨by decide, by decide, (by decide +kernel : (parseMethodDescriptor yX11_of.desc).map (fun d => d.parameters.length) = some 2)⟩ rfl (Nat.le_of_ble_eq_true rfl) ⟨⟨by decide, by decide⟩, by decide, by decide⟩ (fun E m9 h9 => h9.elim) (fun r9 m9 h9 => ?_)
  obtain ⟨rfl, h8⟩ := h9
  replace h8 := h8.symm
  subst h8
  show mV g x _ _ _ _ _ [.int (nI (8 * a.toNatClampNeg + 15)), .ref (r + 1)]
  refine v_iald (j := 8 * a.toNatClampNeg + 15) (v := (gA m (r + 1) (8 * a.toNatClampNeg + 15))) (pc := 9) hX dX11_blow_9 hs.k1 rfl (by omega) (by decide) rfl ?_
  refine v_sipush (v := 500) (pc := 10) hX dX11_blow_10 (by decide) ?_
  refine v_isub (pc := 13) hX dX11_blow_13 ?_
  refine v_istore_n (pc := 14) hX dX11_blow_14 (by decide) rfl ?_
  refine v_iconst (v := 1) (pc := 15) hX dX11_blow_15 (by decide) ?_
  refine v_iload_n (pc := 16) hX dX11_blow_16 rfl ?_
  refine v_if_le (tgt := 34) (pc := 17) hX dX11_blow_17 (by decide) (fun c1 => ?_) (fun c1 => ?_)
  ·
    refine v_iconst (v := 0) (pc := 34) hX dX11_blow_34 (by decide) ?_
    refine v_iadd (pc := 35) hX dX11_blow_35 ?_
    refine v_istore (pc := 36) hX dX11_blow_36 (by decide) rfl ?_
    refine v_bipush (v := 10) (pc := 38) hX dX11_blow_38 (by decide) ?_
    refine v_aload_n (pc := 40) hX dX11_blow_40 rfl ?_
    refine v_get (v := .ref (r + 1)) (pc := 41) hX dX11_blow_41 hs.k (ci := 12) (r := vwC12) rfl 5 (by decide) wd_1511 (fvA rfl hs.r1) ?_
    refine v_iload_n (pc := 44) hX dX11_blow_44 rfl ?_
    refine v_iconst (v := 3) (pc := 45) hX dX11_blow_45 (by decide) ?_
    refine v_callS (z := yX11_of) (pc := 46) hX dX11_blow_46 (c_of2 hO m a a.toNatClampNeg 3 hpa.1) wd_1626 wd_1627 wd_16 wd_1628 ⟨by decide, by decide, (by decide +kernel : (parseMethodDescriptor yX11_of.desc).map (fun d => d.parameters.length) = some 2)⟩ rfl (Nat.le_of_ble_eq_true rfl) ⟨⟨by decide, by decide⟩, by decide, by decide⟩ (fun E m9 h9 => h9.elim) (fun r9 m9 h9 => ?_)
    obtain ⟨rfl, h8⟩ := h9
    replace h8 := h8.symm
    subst h8
    show mV g x _ _ _ _ _ [.int (nI (8 * a.toNatClampNeg + 16)), .ref (r + 1), .int 10]
    refine v_iald (j := 8 * a.toNatClampNeg + 16) (v := (gA m (r + 1) (8 * a.toNatClampNeg + 16))) (pc := 49) hX dX11_blow_49 hs.k1 rfl (by omega) (by decide) rfl ?_
    refine v_isub (pc := 50) hX dX11_blow_50 ?_
    refine v_istore (pc := 51) hX dX11_blow_51 (by decide) rfl ?_
    refine v_iload (pc := 53) hX dX11_blow_53 rfl ?_
    refine v_iload (pc := 55) hX dX11_blow_55 rfl ?_
    refine v_icmp_ge (tgt := 65) (pc := 57) hX dX11_blow_57 (by decide) (fun c2 => ?_) (fun c2 => ?_)
    ·
      refine v_iload (pc := 65) hX dX11_blow_65 rfl ?_
      exact v_iret (pc := 67) hX hZ dX11_blow_67 (by decide) (by decide) ⟨(by rw [X11_blow_r, if_pos c1, if_pos c2]), rfl⟩
    ·
      refine v_iload (pc := 60) hX dX11_blow_60 rfl ?_
      refine v_goto (tgt := 67) (pc := 62) hX dX11_blow_62 (by decide) ?_
      exact v_iret (pc := 67) hX hZ dX11_blow_67 (by decide) (by decide) ⟨(by rw [X11_blow_r, if_pos c1, if_neg c2]), rfl⟩
  ·
    refine v_aload_n (pc := 20) hX dX11_blow_20 rfl ?_
    refine v_iload_n (pc := 21) hX dX11_blow_21 rfl ?_
    refine v_callV (z := yX11_weighs) (pc := 22) hX dX11_blow_22 (c_X11_weighs hO m r b  hs hhb) hs.k rfl wd_1692 wd_1694 wp_34 wd_16 wd_1695 ⟨by decide, by decide, (by decide +kernel : (parseMethodDescriptor yX11_weighs.desc).map (fun d => d.parameters.length) = some 1)⟩ rfl (Nat.le_of_ble_eq_true rfl) ⟨⟨by decide, by decide⟩, by decide, by decide⟩ (fun E m9 h9 => h9.elim) (fun r9 m9 h9 => ?_)
    obtain ⟨rfl, h8⟩ := h9
    replace h8 := h8.symm
    subst h8
    show mV g x _ _ _ _ _ [.int (X11_weighs_r g m r b ), .int 1]
    refine v_iload_n (pc := 25) hX dX11_blow_25 rfl ?_
    refine v_imul (pc := 26) hX dX11_blow_26 ?_
    refine v_sipush (v := 1000) (pc := 27) hX dX11_blow_27 (by decide) ?_
    refine v_idiv (pc := 30) hX dX11_blow_30 (by decide) ?_
    refine v_goto (tgt := 35) (pc := 31) hX dX11_blow_31 (by decide) ?_
    refine v_iadd (pc := 35) hX dX11_blow_35 ?_
    refine v_istore (pc := 36) hX dX11_blow_36 (by decide) rfl ?_
    refine v_bipush (v := 10) (pc := 38) hX dX11_blow_38 (by decide) ?_
    refine v_aload_n (pc := 40) hX dX11_blow_40 rfl ?_
    refine v_get (v := .ref (r + 1)) (pc := 41) hX dX11_blow_41 hs.k (ci := 12) (r := vwC12) rfl 5 (by decide) wd_1511 (fvA rfl hs.r1) ?_
    refine v_iload_n (pc := 44) hX dX11_blow_44 rfl ?_
    refine v_iconst (v := 3) (pc := 45) hX dX11_blow_45 (by decide) ?_
    refine v_callS (z := yX11_of) (pc := 46) hX dX11_blow_46 (c_of2 hO m a a.toNatClampNeg 3 hpa.1) wd_1626 wd_1627 wd_16 wd_1628 ⟨by decide, by decide, (by decide +kernel : (parseMethodDescriptor yX11_of.desc).map (fun d => d.parameters.length) = some 2)⟩ rfl (Nat.le_of_ble_eq_true rfl) ⟨⟨by decide, by decide⟩, by decide, by decide⟩ (fun E m9 h9 => h9.elim) (fun r9 m9 h9 => ?_)
    obtain ⟨rfl, h8⟩ := h9
    replace h8 := h8.symm
    subst h8
    show mV g x _ _ _ _ _ [.int (nI (8 * a.toNatClampNeg + 16)), .ref (r + 1), .int 10]
    refine v_iald (j := 8 * a.toNatClampNeg + 16) (v := (gA m (r + 1) (8 * a.toNatClampNeg + 16))) (pc := 49) hX dX11_blow_49 hs.k1 rfl (by omega) (by decide) rfl ?_
    refine v_isub (pc := 50) hX dX11_blow_50 ?_
    refine v_istore (pc := 51) hX dX11_blow_51 (by decide) rfl ?_
    refine v_iload (pc := 53) hX dX11_blow_53 rfl ?_
    refine v_iload (pc := 55) hX dX11_blow_55 rfl ?_
    refine v_icmp_ge (tgt := 65) (pc := 57) hX dX11_blow_57 (by decide) (fun c3 => ?_) (fun c3 => ?_)
    ·
      refine v_iload (pc := 65) hX dX11_blow_65 rfl ?_
      exact v_iret (pc := 67) hX hZ dX11_blow_67 (by decide) (by decide) ⟨(by rw [X11_blow_r, if_neg c1, if_pos c3]), rfl⟩
    ·
      refine v_iload (pc := 60) hX dX11_blow_60 rfl ?_
      refine v_goto (tgt := 67) (pc := 62) hX dX11_blow_62 (by decide) ?_
      exact v_iret (pc := 67) hX hZ dX11_blow_67 (by decide) (by decide) ⟨(by rw [X11_blow_r, if_neg c1, if_neg c3]), rfl⟩
def X11_hardens_m (g : mG) (m : mM) (r : Nat) (a : Int32) (b : Int32)  : mM := if 99 ≤ ((gA m (r + 1) (8 * a.toNatClampNeg + 17)) + b) then ((sA m (r + 1) (8 * a.toNatClampNeg + 17) 99)) else ((sA m (r + 1) (8 * a.toNatClampNeg + 17) ((gA m (r + 1) (8 * a.toNatClampNeg + 17)) + b)))
theorem kK_X11_hardens (g : mG) (m : mM) (r : Nat) (a : Int32) (b : Int32)  : gK (X11_hardens_m g m r a b ) = gK m := by
  unfold X11_hardens_m
  repeat' split
  all_goals simp only [mm]
theorem kN_X11_hardens (g : mG) (m : mM) (r : Nat) (a : Int32) (b : Int32)  : gN (X11_hardens_m g m r a b ) = gN m := by
  unfold X11_hardens_m
  repeat' split
  all_goals simp only [mm]
theorem kI_X11_hardens (g : mG) (m : mM) (r : Nat) (a : Int32) (b : Int32)  : gI (X11_hardens_m g m r a b ) = gI m := by
  unfold X11_hardens_m
  repeat' split
  all_goals simp only [mm]
theorem kJ_X11_hardens (g : mG) (m : mM) (r : Nat) (a : Int32) (b : Int32)  : gJ (X11_hardens_m g m r a b ) = gJ m := by
  unfold X11_hardens_m
  repeat' split
  all_goals simp only [mm]
theorem kR_X11_hardens (g : mG) (m : mM) (r : Nat) (a : Int32) (b : Int32)  : gR (X11_hardens_m g m r a b ) = gR m := by
  unfold X11_hardens_m
  repeat' split
  all_goals simp only [mm]
theorem kQ_X11_hardens (g : mG) (m : mM) (r : Nat) (a : Int32) (b : Int32)  : gQ (X11_hardens_m g m r a b ) = gQ m := by
  unfold X11_hardens_m
  repeat' split
  all_goals simp only [mm]
theorem kL_X11_hardens (g : mG) (m : mM) (r : Nat) (a : Int32) (b : Int32)  : gL (X11_hardens_m g m r a b ) = gL m := by
  unfold X11_hardens_m
  repeat' split
  all_goals simp only [mm]
theorem kD_X11_hardens (g : mG) (m : mM) (r : Nat) (a : Int32) (b : Int32)  : gD (X11_hardens_m g m r a b ) = gD m := by
  unfold X11_hardens_m
  repeat' split
  all_goals simp only [mm]
theorem kA_X11_hardens (g : mG) (m : mM) (r : Nat) (a : Int32) (b : Int32)  (c9 i9 : Nat) (h0 : c9 ≠ r + 1) : gA (X11_hardens_m g m r a b ) c9 i9 = gA m c9 i9 := by
  unfold X11_hardens_m
  repeat' split
  all_goals simp [mm, h0]
set_option maxHeartbeats 4000000 in
set_option maxRecDepth 100000 in
theorem c_X11_hardens {l : Launch} {g : mG} (hO : mO l g) (m : mM) (r : Nat) (a : Int32) (b : Int32)  (hs : SR m r) (hpa : okI a 7) : mT l g yX11_hardens (.code yX11_hardens cX11_hardens 4 (Option.none : Option FieldType)) 2 41 0 0 [.ref r, .int a, .int b] m (fun u m' => u = none ∧ m' = X11_hardens_m g m r a b ) nX := by
  refine mT_of hO (by decide) (Nat.le_of_ble_eq_true rfl) (fun x hX hZ => ?_)
  show mV g x m 0 0 0 [(0, .ref r), (1, .int a), (2, .int b)] []
  have hpa2 := hpa.2
  refine v_aload_n (pc := 0) hX dX11_hardens_0 rfl ?_
  refine v_get (v := .ref (r + 1)) (pc := 1) hX dX11_hardens_1 hs.k (ci := 12) (r := vwC12) rfl 5 (by decide) wd_1511 (fvA rfl hs.r1) ?_
  refine v_iload_n (pc := 4) hX dX11_hardens_4 rfl ?_
  refine v_iconst (v := 4) (pc := 5) hX dX11_hardens_5 (by decide) ?_
  refine v_callS (z := yX11_of) (pc := 6) hX dX11_hardens_6 (c_of2 hO m a a.toNatClampNeg 4 hpa.1) wd_1626 wd_1627 wd_16 wd_1628 ⟨by decide, by decide, (by decide +kernel : (parseMethodDescriptor yX11_of.desc).map (fun d => d.parameters.length) = some 2)⟩ rfl (Nat.le_of_ble_eq_true rfl) ⟨⟨by decide, by decide⟩, by decide, by decide⟩ (fun E m9 h9 => h9.elim) (fun r9 m9 h9 => ?_)
  obtain ⟨rfl, h8⟩ := h9
  replace h8 := h8.symm
  subst h8
  show mV g x _ _ _ _ _ [.int (nI (8 * a.toNatClampNeg + 17)), .ref (r + 1)]
  refine v_iald (j := 8 * a.toNatClampNeg + 17) (v := (gA m (r + 1) (8 * a.toNatClampNeg + 17))) (pc := 9) hX dX11_hardens_9 hs.k1 rfl (by omega) (by decide) rfl ?_
  refine v_iload_n (pc := 10) hX dX11_hardens_10 rfl ?_
  refine v_iadd (pc := 11) hX dX11_hardens_11 ?_
  refine v_istore_n (pc := 12) hX dX11_hardens_12 (by decide) rfl ?_
  refine v_aload_n (pc := 13) hX dX11_hardens_13 rfl ?_
  refine v_get (v := .ref (r + 1)) (pc := 14) hX dX11_hardens_14 hs.k (ci := 12) (r := vwC12) rfl 5 (by decide) wd_1511 (fvA rfl hs.r1) ?_
  refine v_iload_n (pc := 17) hX dX11_hardens_17 rfl ?_
  refine v_iconst (v := 4) (pc := 18) hX dX11_hardens_18 (by decide) ?_
  refine v_callS (z := yX11_of) (pc := 19) hX dX11_hardens_19 (c_of2 hO m a a.toNatClampNeg 4 hpa.1) wd_1626 wd_1627 wd_16 wd_1628 ⟨by decide, by decide, (by decide +kernel : (parseMethodDescriptor yX11_of.desc).map (fun d => d.parameters.length) = some 2)⟩ rfl (Nat.le_of_ble_eq_true rfl) ⟨⟨by decide, by decide⟩, by decide, by decide⟩ (fun E m9 h9 => h9.elim) (fun r9 m9 h9 => ?_)
  obtain ⟨rfl, h8⟩ := h9
  replace h8 := h8.symm
  subst h8
  show mV g x _ _ _ _ _ [.int (nI (8 * a.toNatClampNeg + 17)), .ref (r + 1)]
  refine v_iload_n (pc := 22) hX dX11_hardens_22 rfl ?_
  refine v_bipush (v := 99) (pc := 23) hX dX11_hardens_23 (by decide) ?_
  refine v_icmp_ge (tgt := 32) (pc := 25) hX dX11_hardens_25 (by decide) (fun c1 => ?_) (fun c1 => ?_)
  ·
    refine v_bipush (v := 99) (pc := 32) hX dX11_hardens_32 (by decide) ?_
    refine v_iast (j := 8 * a.toNatClampNeg + 17) (pc := 34) hX dX11_hardens_34 hs.k1 rfl (by omega) (by decide) ?_
    exact v_vret (pc := 35) hX hZ dX11_hardens_35 (by decide) (by decide) ⟨rfl, (by rw [X11_hardens_m, if_pos c1])⟩
  ·
    refine v_iload_n (pc := 28) hX dX11_hardens_28 rfl ?_
    refine v_goto (tgt := 34) (pc := 29) hX dX11_hardens_29 (by decide) ?_
    refine v_iast (j := 8 * a.toNatClampNeg + 17) (pc := 34) hX dX11_hardens_34 hs.k1 rfl (by omega) (by decide) ?_
    exact v_vret (pc := 35) hX hZ dX11_hardens_35 (by decide) (by decide) ⟨rfl, (by rw [X11_hardens_m, if_neg c1])⟩
theorem tool_ok {g : mG} {m : mM} {r H : Nat} {b : Int32} (h : ¬ X11_isTool_r g m r b H = 0) (hH4 : H ≤ 4) : okI b 3 := by
  have h1 := isI_0 h
  obtain ⟨j, hj, rfl⟩ := nI_of h1.1
  rcases Nat.eq_zero_or_pos H with q | q
  · subst q
    have h2 : nI j ≤ (-1 : Int32) := h1.2
    rw [Int32.le_iff_toInt_le, nI_toInt hj, show (-1 : Int32).toInt = -1 by decide] at h2
    omega
  · have h2 : nI j ≤ nI H - nI 1 := h1.2
    rw [sub_nI q] at h2
    have h3 := (nI_leI hj (show H - 1 < 2 ^ 31 by omega)).mp h2
    exact okI_nI (by omega) (by decide)
theorem ha_n {g : mG} {m : mM} {r i : Nat} {a b : Int32} (h : i ≠ 8 * a.toNatClampNeg + 17) : gA (X11_hardens_m g m r a b) (r + 1) i = gA m (r + 1) i := by
  unfold X11_hardens_m
  repeat' split
  all_goals exact gA_n (by omega)
def X11_strikes_r (g : mG) (m : mM) (r : Nat) (a : Int32) (b : Int32) (H : Nat) : Int32 := if 0 ≤ a then (if (X11_isTool_r g m r b H) = 0 then 0 else (if (gA m (r + 1) (8 * a.toNatClampNeg + 18)) = 1 then 0 else (if (gA m (r + 1) (8 * a.toNatClampNeg + 19)) = 1 then 0 else (if (gA m (r + 1) (8 * a.toNatClampNeg + 16)) = 10 then 0 else (if (X11_worn_r g m r b ) = 20 then 0 else (if (isI (gA m (r + 1) (8 * a.toNatClampNeg + 15)) 600 1100) = 0 then 0 else ((gA m (r + 1) (8 * a.toNatClampNeg + 16)) + (X11_blow_r g m r a b)))))))) else 0
def X11_strikes_m (g : mG) (m : mM) (r : Nat) (a : Int32) (b : Int32) (H : Nat) : mM := if 0 ≤ a then (if (X11_isTool_r g m r b H) = 0 then ((sI m 384 r 2)) else (if (gA m (r + 1) (8 * a.toNatClampNeg + 18)) = 1 then ((sI m 384 r 3)) else (if (gA m (r + 1) (8 * a.toNatClampNeg + 19)) = 1 then ((sI m 384 r 3)) else (if (gA m (r + 1) (8 * a.toNatClampNeg + 16)) = 10 then ((sI m 384 r 3)) else (if (X11_worn_r g m r b ) = 20 then ((sI m 384 r 3)) else (if (isI (gA m (r + 1) (8 * a.toNatClampNeg + 15)) 600 1100) = 0 then ((sI m 384 r 4)) else ((sA (sA (X11_hardens_m g ((sA m (r + 1) (8 * a.toNatClampNeg + 16) ((gA m (r + 1) (8 * a.toNatClampNeg + 16)) + (X11_blow_r g m r a b )))) r a 2 ) (r + 1) (2 * b.toNatClampNeg + 78) ((gA m (r + 1) (2 * b.toNatClampNeg + 78)) + 1)) (r + 1) 7 ((gA m (r + 1) 7) + 1))))))))) else ((sI m 384 r 1))
theorem kK_X11_strikes (g : mG) (m : mM) (r : Nat) (a : Int32) (b : Int32) (H : Nat) : gK (X11_strikes_m g m r a b H) = gK m := by
  unfold X11_strikes_m
  repeat' split
  all_goals simp only [mm, kK_X11_hardens]
theorem kN_X11_strikes (g : mG) (m : mM) (r : Nat) (a : Int32) (b : Int32) (H : Nat) : gN (X11_strikes_m g m r a b H) = gN m := by
  unfold X11_strikes_m
  repeat' split
  all_goals simp only [mm, kN_X11_hardens]
theorem kI_X11_strikes (g : mG) (m : mM) (r : Nat) (a : Int32) (b : Int32) (H : Nat) (k a9 : Nat) (h0 : k ≠ 384) : gI (X11_strikes_m g m r a b H) k a9 = gI m k a9 := by
  unfold X11_strikes_m
  repeat' split
  all_goals simp [mm, kI_X11_hardens, h0]
theorem kJ_X11_strikes (g : mG) (m : mM) (r : Nat) (a : Int32) (b : Int32) (H : Nat) : gJ (X11_strikes_m g m r a b H) = gJ m := by
  unfold X11_strikes_m
  repeat' split
  all_goals simp only [mm, kJ_X11_hardens]
theorem kR_X11_strikes (g : mG) (m : mM) (r : Nat) (a : Int32) (b : Int32) (H : Nat) : gR (X11_strikes_m g m r a b H) = gR m := by
  unfold X11_strikes_m
  repeat' split
  all_goals simp only [mm, kR_X11_hardens]
theorem kQ_X11_strikes (g : mG) (m : mM) (r : Nat) (a : Int32) (b : Int32) (H : Nat) : gQ (X11_strikes_m g m r a b H) = gQ m := by
  unfold X11_strikes_m
  repeat' split
  all_goals simp only [mm, kQ_X11_hardens]
theorem kL_X11_strikes (g : mG) (m : mM) (r : Nat) (a : Int32) (b : Int32) (H : Nat) : gL (X11_strikes_m g m r a b H) = gL m := by
  unfold X11_strikes_m
  repeat' split
  all_goals simp only [mm, kL_X11_hardens]
theorem kD_X11_strikes (g : mG) (m : mM) (r : Nat) (a : Int32) (b : Int32) (H : Nat) : gD (X11_strikes_m g m r a b H) = gD m := by
  unfold X11_strikes_m
  repeat' split
  all_goals simp only [mm, kD_X11_hardens]
theorem kA_X11_strikes (g : mG) (m : mM) (r : Nat) (a : Int32) (b : Int32) (H : Nat) (c9 i9 : Nat) (h0 : c9 ≠ r + 1) : gA (X11_strikes_m g m r a b H) c9 i9 = gA m c9 i9 := by
  unfold X11_strikes_m
  repeat' split
  all_goals simp [mm, kA_X11_hardens, h0]
set_option maxHeartbeats 4000000 in
set_option maxRecDepth 100000 in
theorem c_X11_strikes {l : Launch} {g : mG} (hO : mO l g) (m : mM) (r : Nat) (a : Int32) (b : Int32) (H : Nat) (hs : SR m r) (hH : gA m (r + 1) 6 = nI H) (hH4 : H ≤ 4) (hp8 : 0 ≤ a → okI a 7) : mT l g yX11_strikes (.code yX11_strikes cX11_strikes 3 (Option.some FieldType.int)) 3 66 0 0 [.ref r, .int a, .int b] m (fun u m' => u = some (.int (X11_strikes_r g m r a b H)) ∧ m' = X11_strikes_m g m r a b H) nX := by
  refine mT_of hO (by decide) (Nat.le_of_ble_eq_true rfl) (fun x hX hZ => ?_)
  show mV g x m 0 0 0 [(0, .ref r), (1, .int a), (2, .int b)] []
  refine v_iload_n (pc := 0) hX dX11_strikes_0 rfl ?_
  refine v_if_ge (tgt := 10) (pc := 1) hX dX11_strikes_1 (by decide) (fun c1 => ?_) (fun c1 => ?_)
  ·
    have hpp := hp8 (by assumption)
    have hpp2 := hpp.2
    refine v_aload_n (pc := 10) hX dX11_strikes_10 rfl ?_
    refine v_iload_n (pc := 11) hX dX11_strikes_11 rfl ?_
    refine v_callV (z := yX11_isTool) (pc := 12) hX dX11_strikes_12 (c_X11_isTool hO m r b H hs hH hH4) hs.k rfl wd_1680 wd_1682 wp_31 wd_16 wd_1683 ⟨by decide, by decide, (by decide +kernel : (parseMethodDescriptor yX11_isTool.desc).map (fun d => d.parameters.length) = some 1)⟩ rfl (Nat.le_of_ble_eq_true rfl) ⟨⟨by decide, by decide⟩, by decide, by decide⟩ (fun E m9 h9 => h9.elim) (fun r9 m9 h9 => ?_)
    obtain ⟨rfl, h8⟩ := h9
    replace h8 := h8.symm
    subst h8
    show mV g x _ _ _ _ _ [.int (X11_isTool_r g m r b H)]
    refine v_if_ne (tgt := 24) (pc := 15) hX dX11_strikes_15 (by decide) (fun c2 => ?_) (fun c2 => ?_)
    ·
      have htk := tool_ok (by assumption) hH4
      have htk2 := htk.2
      refine v_aload_n (pc := 24) hX dX11_strikes_24 rfl ?_
      refine v_get (v := .ref (r + 1)) (pc := 25) hX dX11_strikes_25 hs.k (ci := 12) (r := vwC12) rfl 5 (by decide) wd_1511 (fvA rfl hs.r1) ?_
      refine v_iload_n (pc := 28) hX dX11_strikes_28 rfl ?_
      refine v_iconst (v := 5) (pc := 29) hX dX11_strikes_29 (by decide) ?_
      refine v_callS (z := yX11_of) (pc := 30) hX dX11_strikes_30 (c_of2 hO m a a.toNatClampNeg 5 hpp.1) wd_1626 wd_1627 wd_16 wd_1628 ⟨by decide, by decide, (by decide +kernel : (parseMethodDescriptor yX11_of.desc).map (fun d => d.parameters.length) = some 2)⟩ rfl (Nat.le_of_ble_eq_true rfl) ⟨⟨by decide, by decide⟩, by decide, by decide⟩ (fun E m9 h9 => h9.elim) (fun r9 m9 h9 => ?_)
      obtain ⟨rfl, h8⟩ := h9
      replace h8 := h8.symm
      subst h8
      show mV g x _ _ _ _ _ [.int (nI (8 * a.toNatClampNeg + 18)), .ref (r + 1)]
      refine v_iald (j := 8 * a.toNatClampNeg + 18) (v := (gA m (r + 1) (8 * a.toNatClampNeg + 18))) (pc := 33) hX dX11_strikes_33 hs.k1 rfl (by omega) (by decide) rfl ?_
      refine v_iconst (v := 1) (pc := 34) hX dX11_strikes_34 (by decide) ?_
      refine v_icmp_eq (tgt := 78) (pc := 35) hX dX11_strikes_35 (by decide) (fun c3 => ?_) (fun c3 => ?_)
      ·
        refine v_aload_n (pc := 78) hX dX11_strikes_78 rfl ?_
        refine v_iconst (v := 3) (pc := 79) hX dX11_strikes_79 (by decide) ?_
        refine v_callV (z := yX11_fail) (pc := 80) hX dX11_strikes_80 (c_fail2 hO m r 3 hs) hs.k rfl wd_1595 wd_1597 wp_19 wd_16 wd_1598 ⟨by decide, by decide, (by decide +kernel : (parseMethodDescriptor yX11_fail.desc).map (fun d => d.parameters.length) = some 1)⟩ rfl (Nat.le_of_ble_eq_true rfl) ⟨⟨by decide, by decide⟩, by decide, by decide⟩ (fun E m9 h9 => h9.elim) (fun r9 m9 h9 => ?_)
        obtain ⟨rfl, h8⟩ := h9
        replace h8 := h8.symm
        subst h8
        show mV g x _ _ _ _ _ [.int 0]
        exact v_iret (pc := 83) hX hZ dX11_strikes_83 (by decide) (by decide) ⟨(by rw [X11_strikes_r, if_pos c1, if_neg c2, if_pos c3]), (by rw [X11_strikes_m, if_pos c1, if_neg c2, if_pos c3])⟩
      ·
        refine v_aload_n (pc := 38) hX dX11_strikes_38 rfl ?_
        refine v_get (v := .ref (r + 1)) (pc := 39) hX dX11_strikes_39 hs.k (ci := 12) (r := vwC12) rfl 5 (by decide) wd_1511 (fvA rfl hs.r1) ?_
        refine v_iload_n (pc := 42) hX dX11_strikes_42 rfl ?_
        refine v_bipush (v := 6) (pc := 43) hX dX11_strikes_43 (by decide) ?_
        refine v_callS (z := yX11_of) (pc := 45) hX dX11_strikes_45 (c_of2 hO m a a.toNatClampNeg 6 hpp.1) wd_1626 wd_1627 wd_16 wd_1628 ⟨by decide, by decide, (by decide +kernel : (parseMethodDescriptor yX11_of.desc).map (fun d => d.parameters.length) = some 2)⟩ rfl (Nat.le_of_ble_eq_true rfl) ⟨⟨by decide, by decide⟩, by decide, by decide⟩ (fun E m9 h9 => h9.elim) (fun r9 m9 h9 => ?_)
        obtain ⟨rfl, h8⟩ := h9
        replace h8 := h8.symm
        subst h8
        show mV g x _ _ _ _ _ [.int (nI (8 * a.toNatClampNeg + 19)), .ref (r + 1)]
        refine v_iald (j := 8 * a.toNatClampNeg + 19) (v := (gA m (r + 1) (8 * a.toNatClampNeg + 19))) (pc := 48) hX dX11_strikes_48 hs.k1 rfl (by omega) (by decide) rfl ?_
        refine v_iconst (v := 1) (pc := 49) hX dX11_strikes_49 (by decide) ?_
        refine v_icmp_eq (tgt := 78) (pc := 50) hX dX11_strikes_50 (by decide) (fun c4 => ?_) (fun c4 => ?_)
        ·
          refine v_aload_n (pc := 78) hX dX11_strikes_78 rfl ?_
          refine v_iconst (v := 3) (pc := 79) hX dX11_strikes_79 (by decide) ?_
          refine v_callV (z := yX11_fail) (pc := 80) hX dX11_strikes_80 (c_fail2 hO m r 3 hs) hs.k rfl wd_1595 wd_1597 wp_19 wd_16 wd_1598 ⟨by decide, by decide, (by decide +kernel : (parseMethodDescriptor yX11_fail.desc).map (fun d => d.parameters.length) = some 1)⟩ rfl (Nat.le_of_ble_eq_true rfl) ⟨⟨by decide, by decide⟩, by decide, by decide⟩ (fun E m9 h9 => h9.elim) (fun r9 m9 h9 => ?_)
          obtain ⟨rfl, h8⟩ := h9
          replace h8 := h8.symm
          subst h8
          show mV g x _ _ _ _ _ [.int 0]
          exact v_iret (pc := 83) hX hZ dX11_strikes_83 (by decide) (by decide) ⟨(by rw [X11_strikes_r, if_pos c1, if_neg c2, if_neg c3, if_pos c4]), (by rw [X11_strikes_m, if_pos c1, if_neg c2, if_neg c3, if_pos c4])⟩
        ·
          refine v_aload_n (pc := 53) hX dX11_strikes_53 rfl ?_
          refine v_get (v := .ref (r + 1)) (pc := 54) hX dX11_strikes_54 hs.k (ci := 12) (r := vwC12) rfl 5 (by decide) wd_1511 (fvA rfl hs.r1) ?_
          refine v_iload_n (pc := 57) hX dX11_strikes_57 rfl ?_
          refine v_iconst (v := 3) (pc := 58) hX dX11_strikes_58 (by decide) ?_
          refine v_callS (z := yX11_of) (pc := 59) hX dX11_strikes_59 (c_of2 hO m a a.toNatClampNeg 3 hpp.1) wd_1626 wd_1627 wd_16 wd_1628 ⟨by decide, by decide, (by decide +kernel : (parseMethodDescriptor yX11_of.desc).map (fun d => d.parameters.length) = some 2)⟩ rfl (Nat.le_of_ble_eq_true rfl) ⟨⟨by decide, by decide⟩, by decide, by decide⟩ (fun E m9 h9 => h9.elim) (fun r9 m9 h9 => ?_)
          obtain ⟨rfl, h8⟩ := h9
          replace h8 := h8.symm
          subst h8
          show mV g x _ _ _ _ _ [.int (nI (8 * a.toNatClampNeg + 16)), .ref (r + 1)]
          refine v_iald (j := 8 * a.toNatClampNeg + 16) (v := (gA m (r + 1) (8 * a.toNatClampNeg + 16))) (pc := 62) hX dX11_strikes_62 hs.k1 rfl (by omega) (by decide) rfl ?_
          refine v_bipush (v := 10) (pc := 63) hX dX11_strikes_63 (by decide) ?_
          refine v_icmp_eq (tgt := 78) (pc := 65) hX dX11_strikes_65 (by decide) (fun c5 => ?_) (fun c5 => ?_)
          ·
            refine v_aload_n (pc := 78) hX dX11_strikes_78 rfl ?_
            refine v_iconst (v := 3) (pc := 79) hX dX11_strikes_79 (by decide) ?_
            refine v_callV (z := yX11_fail) (pc := 80) hX dX11_strikes_80 (c_fail2 hO m r 3 hs) hs.k rfl wd_1595 wd_1597 wp_19 wd_16 wd_1598 ⟨by decide, by decide, (by decide +kernel : (parseMethodDescriptor yX11_fail.desc).map (fun d => d.parameters.length) = some 1)⟩ rfl (Nat.le_of_ble_eq_true rfl) ⟨⟨by decide, by decide⟩, by decide, by decide⟩ (fun E m9 h9 => h9.elim) (fun r9 m9 h9 => ?_)
            obtain ⟨rfl, h8⟩ := h9
            replace h8 := h8.symm
            subst h8
            show mV g x _ _ _ _ _ [.int 0]
            exact v_iret (pc := 83) hX hZ dX11_strikes_83 (by decide) (by decide) ⟨(by rw [X11_strikes_r, if_pos c1, if_neg c2, if_neg c3, if_neg c4, if_pos c5]), (by rw [X11_strikes_m, if_pos c1, if_neg c2, if_neg c3, if_neg c4, if_pos c5])⟩
          ·
            refine v_aload_n (pc := 68) hX dX11_strikes_68 rfl ?_
            refine v_iload_n (pc := 69) hX dX11_strikes_69 rfl ?_
            refine v_callV (z := yX11_worn) (pc := 70) hX dX11_strikes_70 (c_X11_worn hO m r b  hs htk) hs.k rfl wd_1684 wd_1686 wp_32 wd_16 wd_1687 ⟨by decide, by decide, (by decide +kernel : (parseMethodDescriptor yX11_worn.desc).map (fun d => d.parameters.length) = some 1)⟩ rfl (Nat.le_of_ble_eq_true rfl) ⟨⟨by decide, by decide⟩, by decide, by decide⟩ (fun E m9 h9 => h9.elim) (fun r9 m9 h9 => ?_)
            obtain ⟨rfl, h8⟩ := h9
            replace h8 := h8.symm
            subst h8
            show mV g x _ _ _ _ _ [.int (X11_worn_r g m r b )]
            refine v_bipush (v := 20) (pc := 73) hX dX11_strikes_73 (by decide) ?_
            refine v_icmp_ne (tgt := 84) (pc := 75) hX dX11_strikes_75 (by decide) (fun c6 => ?_) (fun c6 => ?_)
            ·
              refine v_aload_n (pc := 84) hX dX11_strikes_84 rfl ?_
              refine v_get (v := .ref (r + 1)) (pc := 85) hX dX11_strikes_85 hs.k (ci := 12) (r := vwC12) rfl 5 (by decide) wd_1511 (fvA rfl hs.r1) ?_
              refine v_iload_n (pc := 88) hX dX11_strikes_88 rfl ?_
              refine v_iconst (v := 2) (pc := 89) hX dX11_strikes_89 (by decide) ?_
              refine v_callS (z := yX11_of) (pc := 90) hX dX11_strikes_90 (c_of2 hO m a a.toNatClampNeg 2 hpp.1) wd_1626 wd_1627 wd_16 wd_1628 ⟨by decide, by decide, (by decide +kernel : (parseMethodDescriptor yX11_of.desc).map (fun d => d.parameters.length) = some 2)⟩ rfl (Nat.le_of_ble_eq_true rfl) ⟨⟨by decide, by decide⟩, by decide, by decide⟩ (fun E m9 h9 => h9.elim) (fun r9 m9 h9 => ?_)
              obtain ⟨rfl, h8⟩ := h9
              replace h8 := h8.symm
              subst h8
              show mV g x _ _ _ _ _ [.int (nI (8 * a.toNatClampNeg + 15)), .ref (r + 1)]
              refine v_iald (j := 8 * a.toNatClampNeg + 15) (v := (gA m (r + 1) (8 * a.toNatClampNeg + 15))) (pc := 93) hX dX11_strikes_93 hs.k1 rfl (by omega) (by decide) rfl ?_
              refine v_sipush (v := 600) (pc := 94) hX dX11_strikes_94 (by decide) ?_
              refine v_sipush (v := 1100) (pc := 97) hX dX11_strikes_97 (by decide) ?_
              refine v_callS (z := yX11_isIn) (pc := 100) hX dX11_strikes_100 (c_isI hO m (gA m (r + 1) (8 * a.toNatClampNeg + 15)) 600 1100) wd_1592 wd_1593 wd_16 wd_1594 ⟨by decide, by decide, (by decide +kernel : (parseMethodDescriptor yX11_isIn.desc).map (fun d => d.parameters.length) = some 3)⟩ rfl (Nat.le_of_ble_eq_true rfl) ⟨⟨by decide, by decide⟩, by decide, by decide⟩ (fun E m9 h9 => h9.elim) (fun r9 m9 h9 => ?_)
              obtain ⟨rfl, h8⟩ := h9
              replace h8 := h8.symm
              subst h8
              show mV g x _ _ _ _ _ [.int (isI (gA m (r + 1) (8 * a.toNatClampNeg + 15)) 600 1100)]
              refine v_if_ne (tgt := 112) (pc := 103) hX dX11_strikes_103 (by decide) (fun c7 => ?_) (fun c7 => ?_)
              ·
                refine v_aload_n (pc := 112) hX dX11_strikes_112 rfl ?_
                refine v_get (v := .ref (r + 1)) (pc := 113) hX dX11_strikes_113 hs.k (ci := 12) (r := vwC12) rfl 5 (by decide) wd_1511 (fvA rfl hs.r1) ?_
                refine v_iload_n (pc := 116) hX dX11_strikes_116 rfl ?_
                refine v_iconst (v := 3) (pc := 117) hX dX11_strikes_117 (by decide) ?_
                refine v_callS (z := yX11_of) (pc := 118) hX dX11_strikes_118 (c_of2 hO m a a.toNatClampNeg 3 hpp.1) wd_1626 wd_1627 wd_16 wd_1628 ⟨by decide, by decide, (by decide +kernel : (parseMethodDescriptor yX11_of.desc).map (fun d => d.parameters.length) = some 2)⟩ rfl (Nat.le_of_ble_eq_true rfl) ⟨⟨by decide, by decide⟩, by decide, by decide⟩ (fun E m9 h9 => h9.elim) (fun r9 m9 h9 => ?_)
                obtain ⟨rfl, h8⟩ := h9
                replace h8 := h8.symm
                subst h8
                show mV g x _ _ _ _ _ [.int (nI (8 * a.toNatClampNeg + 16)), .ref (r + 1)]
                refine v_dup2 (pc := 121) hX dX11_strikes_121 rfl rfl ?_
                refine v_iald (j := 8 * a.toNatClampNeg + 16) (v := (gA m (r + 1) (8 * a.toNatClampNeg + 16))) (pc := 122) hX dX11_strikes_122 hs.k1 rfl (by omega) (by decide) rfl ?_
                refine v_aload_n (pc := 123) hX dX11_strikes_123 rfl ?_
                refine v_iload_n (pc := 124) hX dX11_strikes_124 rfl ?_
                refine v_iload_n (pc := 125) hX dX11_strikes_125 rfl ?_
                refine v_callV (z := yX11_blow) (pc := 126) hX dX11_strikes_126 (c_X11_blow hO m r a b  hs hpp htk) hs.k rfl wd_1688 wd_1690 wp_33 wd_16 wd_1691 ⟨by decide, by decide, (by decide +kernel : (parseMethodDescriptor yX11_blow.desc).map (fun d => d.parameters.length) = some 2)⟩ rfl (Nat.le_of_ble_eq_true rfl) ⟨⟨by decide, by decide⟩, by decide, by decide⟩ (fun E m9 h9 => h9.elim) (fun r9 m9 h9 => ?_)
                obtain ⟨rfl, h8⟩ := h9
                replace h8 := h8.symm
                subst h8
                show mV g x _ _ _ _ _ [.int (X11_blow_r g m r a b ), .int (gA m (r + 1) (8 * a.toNatClampNeg + 16)), .int (nI (8 * a.toNatClampNeg + 16)), .ref (r + 1)]
                refine v_iadd (pc := 129) hX dX11_strikes_129 ?_
                refine v_iast (j := 8 * a.toNatClampNeg + 16) (pc := 130) hX dX11_strikes_130 hs.k1 rfl (by omega) (by decide) ?_
                refine v_aload_n (pc := 131) hX dX11_strikes_131 rfl ?_
                refine v_iload_n (pc := 132) hX dX11_strikes_132 rfl ?_
                refine v_iconst (v := 2) (pc := 133) hX dX11_strikes_133 (by decide) ?_
                refine v_callV (z := yX11_hardens) (pc := 134) hX dX11_strikes_134 (c_X11_hardens hO ((sA m (r + 1) (8 * a.toNatClampNeg + 16) ((gA m (r + 1) (8 * a.toNatClampNeg + 16)) + (X11_blow_r g m r a b )))) r a 2  (hs.to (by simp only [mm]) (by simp only [mm])) hpp) (by simp only [mm]; exact hs.k) rfl wd_1696 wd_1698 wp_35 wd_16 wd_1699 ⟨by decide, by decide, (by decide +kernel : (parseMethodDescriptor yX11_hardens.desc).map (fun d => d.parameters.length) = some 2)⟩ rfl (Nat.le_of_ble_eq_true rfl) ⟨⟨by decide, by decide⟩, by decide, by decide⟩ (fun E m9 h9 => h9.elim) (fun r9 m9 h9 => ?_)
                obtain ⟨rfl, h8⟩ := h9
                replace h8 := h8.symm
                subst h8
                show mV g x _ _ _ _ _ []
                refine v_aload_n (pc := 137) hX dX11_strikes_137 rfl ?_
                refine v_get (v := .ref (r + 1)) (pc := 138) hX dX11_strikes_138 (by simp only [mm, kK_X11_hardens]; exact hs.k) (ci := 12) (r := vwC12) rfl 5 (by decide) wd_1511 (fvA rfl (by simp [mm, kR_X11_hardens, hs.r1])) ?_
                refine v_bipush (v := 77) (pc := 141) hX dX11_strikes_141 (by decide) ?_
                refine v_iconst (v := 2) (pc := 143) hX dX11_strikes_143 (by decide) ?_
                refine v_iload_n (pc := 144) hX dX11_strikes_144 rfl ?_
                refine v_imul (pc := 145) hX dX11_strikes_145 ?_
                refine v_iadd (pc := 146) hX dX11_strikes_146 ?_
                refine v_iconst (v := 1) (pc := 147) hX dX11_strikes_147 (by decide) ?_
                refine v_iadd (pc := 148) hX dX11_strikes_148 ?_
                refine v_dup2 (pc := 149) hX dX11_strikes_149 rfl rfl ?_
                refine v_iald (j := 2 * b.toNatClampNeg + 78) (v := (gA m (r + 1) (2 * b.toNatClampNeg + 78))) (pc := 150) hX dX11_strikes_150 (by simp only [mm, kK_X11_hardens]; exact hs.k1) (ix_t1 htk.1) (by omega) (by decide) (((ha_n (g := g) (b := 2) (by omega)).trans ((gA_n (by omega)).trans rfl))) ?_
                refine v_iconst (v := 1) (pc := 151) hX dX11_strikes_151 (by decide) ?_
                refine v_iadd (pc := 152) hX dX11_strikes_152 ?_
                refine v_iast (j := 2 * b.toNatClampNeg + 78) (pc := 153) hX dX11_strikes_153 (by simp only [mm, kK_X11_hardens]; exact hs.k1) (ix_t1 htk.1) (by omega) (by decide) ?_
                refine v_aload_n (pc := 154) hX dX11_strikes_154 rfl ?_
                refine v_get (v := .ref (r + 1)) (pc := 155) hX dX11_strikes_155 (by simp only [mm, kK_X11_hardens]; exact hs.k) (ci := 12) (r := vwC12) rfl 5 (by decide) wd_1511 (fvA rfl (by simp [mm, kR_X11_hardens, hs.r1])) ?_
                refine v_bipush (v := 7) (pc := 158) hX dX11_strikes_158 (by decide) ?_
                refine v_dup2 (pc := 160) hX dX11_strikes_160 rfl rfl ?_
                refine v_iald (j := 7) (v := (gA m (r + 1) 7)) (pc := 161) hX dX11_strikes_161 (by simp only [mm, kK_X11_hardens]; exact hs.k1) rfl (by decide) (by decide) (((gA_n (by omega)).trans ((ha_n (g := g) (b := 2) (by omega)).trans ((gA_n (by omega)).trans rfl)))) ?_
                refine v_iconst (v := 1) (pc := 162) hX dX11_strikes_162 (by decide) ?_
                refine v_iadd (pc := 163) hX dX11_strikes_163 ?_
                refine v_iast (j := 7) (pc := 164) hX dX11_strikes_164 (by simp only [mm, kK_X11_hardens]; exact hs.k1) rfl (by decide) (by decide) ?_
                refine v_aload_n (pc := 165) hX dX11_strikes_165 rfl ?_
                refine v_get (v := .ref (r + 1)) (pc := 166) hX dX11_strikes_166 (by simp only [mm, kK_X11_hardens]; exact hs.k) (ci := 12) (r := vwC12) rfl 5 (by decide) wd_1511 (fvA rfl (by simp [mm, kR_X11_hardens, hs.r1])) ?_
                refine v_iload_n (pc := 169) hX dX11_strikes_169 rfl ?_
                refine v_iconst (v := 3) (pc := 170) hX dX11_strikes_170 (by decide) ?_
                refine v_callS (z := yX11_of) (pc := 171) hX dX11_strikes_171 (c_of2 hO ((sA (sA (X11_hardens_m g ((sA m (r + 1) (8 * a.toNatClampNeg + 16) ((gA m (r + 1) (8 * a.toNatClampNeg + 16)) + (X11_blow_r g m r a b )))) r a 2 ) (r + 1) (2 * b.toNatClampNeg + 78) ((gA m (r + 1) (2 * b.toNatClampNeg + 78)) + 1)) (r + 1) 7 ((gA m (r + 1) 7) + 1))) a a.toNatClampNeg 3 hpp.1) wd_1626 wd_1627 wd_16 wd_1628 ⟨by decide, by decide, (by decide +kernel : (parseMethodDescriptor yX11_of.desc).map (fun d => d.parameters.length) = some 2)⟩ rfl (Nat.le_of_ble_eq_true rfl) ⟨⟨by decide, by decide⟩, by decide, by decide⟩ (fun E m9 h9 => h9.elim) (fun r9 m9 h9 => ?_)
                obtain ⟨rfl, h8⟩ := h9
                replace h8 := h8.symm
                subst h8
                show mV g x _ _ _ _ _ [.int (nI (8 * a.toNatClampNeg + 16)), .ref (r + 1)]
                refine v_iald (j := 8 * a.toNatClampNeg + 16) (v := ((gA m (r + 1) (8 * a.toNatClampNeg + 16)) + (X11_blow_r g m r a b))) (pc := 174) hX dX11_strikes_174 (by simp only [mm, kK_X11_hardens]; exact hs.k1) rfl (by omega) (by decide) (((gA_n (by omega)).trans ((gA_n (by omega)).trans ((ha_n (g := g) (b := 2) (by omega)).trans gA_y)))) ?_
                exact v_iret (pc := 175) hX hZ dX11_strikes_175 (by decide) (by decide) ⟨(by rw [X11_strikes_r, if_pos c1, if_neg c2, if_neg c3, if_neg c4, if_neg c5, if_neg c6, if_neg c7]), (by rw [X11_strikes_m, if_pos c1, if_neg c2, if_neg c3, if_neg c4, if_neg c5, if_neg c6, if_neg c7])⟩
              ·
                refine v_aload_n (pc := 106) hX dX11_strikes_106 rfl ?_
                refine v_iconst (v := 4) (pc := 107) hX dX11_strikes_107 (by decide) ?_
                refine v_callV (z := yX11_fail) (pc := 108) hX dX11_strikes_108 (c_fail2 hO m r 4 hs) hs.k rfl wd_1595 wd_1597 wp_19 wd_16 wd_1598 ⟨by decide, by decide, (by decide +kernel : (parseMethodDescriptor yX11_fail.desc).map (fun d => d.parameters.length) = some 1)⟩ rfl (Nat.le_of_ble_eq_true rfl) ⟨⟨by decide, by decide⟩, by decide, by decide⟩ (fun E m9 h9 => h9.elim) (fun r9 m9 h9 => ?_)
                obtain ⟨rfl, h8⟩ := h9
                replace h8 := h8.symm
                subst h8
                show mV g x _ _ _ _ _ [.int 0]
                exact v_iret (pc := 111) hX hZ dX11_strikes_111 (by decide) (by decide) ⟨(by rw [X11_strikes_r, if_pos c1, if_neg c2, if_neg c3, if_neg c4, if_neg c5, if_neg c6, if_pos c7]), (by rw [X11_strikes_m, if_pos c1, if_neg c2, if_neg c3, if_neg c4, if_neg c5, if_neg c6, if_pos c7])⟩
            ·
              refine v_aload_n (pc := 78) hX dX11_strikes_78 rfl ?_
              refine v_iconst (v := 3) (pc := 79) hX dX11_strikes_79 (by decide) ?_
              refine v_callV (z := yX11_fail) (pc := 80) hX dX11_strikes_80 (c_fail2 hO m r 3 hs) hs.k rfl wd_1595 wd_1597 wp_19 wd_16 wd_1598 ⟨by decide, by decide, (by decide +kernel : (parseMethodDescriptor yX11_fail.desc).map (fun d => d.parameters.length) = some 1)⟩ rfl (Nat.le_of_ble_eq_true rfl) ⟨⟨by decide, by decide⟩, by decide, by decide⟩ (fun E m9 h9 => h9.elim) (fun r9 m9 h9 => ?_)
              obtain ⟨rfl, h8⟩ := h9
              replace h8 := h8.symm
              subst h8
              show mV g x _ _ _ _ _ [.int 0]
              exact v_iret (pc := 83) hX hZ dX11_strikes_83 (by decide) (by decide) ⟨(by rw [X11_strikes_r, if_pos c1, if_neg c2, if_neg c3, if_neg c4, if_neg c5, if_pos c6]), (by rw [X11_strikes_m, if_pos c1, if_neg c2, if_neg c3, if_neg c4, if_neg c5, if_pos c6])⟩
    ·
      refine v_aload_n (pc := 18) hX dX11_strikes_18 rfl ?_
      refine v_iconst (v := 2) (pc := 19) hX dX11_strikes_19 (by decide) ?_
      refine v_callV (z := yX11_fail) (pc := 20) hX dX11_strikes_20 (c_fail2 hO m r 2 hs) hs.k rfl wd_1595 wd_1597 wp_19 wd_16 wd_1598 ⟨by decide, by decide, (by decide +kernel : (parseMethodDescriptor yX11_fail.desc).map (fun d => d.parameters.length) = some 1)⟩ rfl (Nat.le_of_ble_eq_true rfl) ⟨⟨by decide, by decide⟩, by decide, by decide⟩ (fun E m9 h9 => h9.elim) (fun r9 m9 h9 => ?_)
      obtain ⟨rfl, h8⟩ := h9
      replace h8 := h8.symm
      subst h8
      show mV g x _ _ _ _ _ [.int 0]
      exact v_iret (pc := 23) hX hZ dX11_strikes_23 (by decide) (by decide) ⟨(by rw [X11_strikes_r, if_pos c1, if_pos c2]), (by rw [X11_strikes_m, if_pos c1, if_pos c2])⟩
  ·
    refine v_aload_n (pc := 4) hX dX11_strikes_4 rfl ?_
    refine v_iconst (v := 1) (pc := 5) hX dX11_strikes_5 (by decide) ?_
    refine v_callV (z := yX11_fail) (pc := 6) hX dX11_strikes_6 (c_fail2 hO m r 1 hs) hs.k rfl wd_1595 wd_1597 wp_19 wd_16 wd_1598 ⟨by decide, by decide, (by decide +kernel : (parseMethodDescriptor yX11_fail.desc).map (fun d => d.parameters.length) = some 1)⟩ rfl (Nat.le_of_ble_eq_true rfl) ⟨⟨by decide, by decide⟩, by decide, by decide⟩ (fun E m9 h9 => h9.elim) (fun r9 m9 h9 => ?_)
    obtain ⟨rfl, h8⟩ := h9
    replace h8 := h8.symm
    subst h8
    show mV g x _ _ _ _ _ [.int 0]
    exact v_iret (pc := 9) hX hZ dX11_strikes_9 (by decide) (by decide) ⟨(by rw [X11_strikes_r, if_neg c1]), (by rw [X11_strikes_m, if_neg c1])⟩
def X11_quenches_r (g : mG) (m : mM) (r : Nat) (a : Int32)  : Int32 := if 0 ≤ a then (if (gA m (r + 1) (8 * a.toNatClampNeg + 18)) = 1 then 0 else (if (gA m (r + 1) (8 * a.toNatClampNeg + 19)) = 1 then 0 else (if 700 ≤ (gA m (r + 1) (8 * a.toNatClampNeg + 15)) then (gA ((X11_hardens_m g m r a (((gA m (r + 1) (8 * a.toNatClampNeg + 15)) - 600) / 8))) (r + 1) (8 * a.toNatClampNeg + 17)) else 0))) else 0
def X11_quenches_m (g : mG) (m : mM) (r : Nat) (a : Int32)  : mM := if 0 ≤ a then (if (gA m (r + 1) (8 * a.toNatClampNeg + 18)) = 1 then ((sI m 384 r 2)) else (if (gA m (r + 1) (8 * a.toNatClampNeg + 19)) = 1 then ((sI m 384 r 2)) else (if 700 ≤ (gA m (r + 1) (8 * a.toNatClampNeg + 15)) then ((sA (sA (X11_hardens_m g m r a (((gA m (r + 1) (8 * a.toNatClampNeg + 15)) - 600) / 8) ) (r + 1) (8 * a.toNatClampNeg + 15) 20) (r + 1) (8 * a.toNatClampNeg + 19) 1)) else ((sI m 384 r 3))))) else ((sI m 384 r 1))
theorem kK_X11_quenches (g : mG) (m : mM) (r : Nat) (a : Int32)  : gK (X11_quenches_m g m r a ) = gK m := by
  unfold X11_quenches_m
  repeat' split
  all_goals simp only [mm, kK_X11_hardens]
theorem kN_X11_quenches (g : mG) (m : mM) (r : Nat) (a : Int32)  : gN (X11_quenches_m g m r a ) = gN m := by
  unfold X11_quenches_m
  repeat' split
  all_goals simp only [mm, kN_X11_hardens]
theorem kI_X11_quenches (g : mG) (m : mM) (r : Nat) (a : Int32)  (k a9 : Nat) (h0 : k ≠ 384) : gI (X11_quenches_m g m r a ) k a9 = gI m k a9 := by
  unfold X11_quenches_m
  repeat' split
  all_goals simp [mm, kI_X11_hardens, h0]
theorem kJ_X11_quenches (g : mG) (m : mM) (r : Nat) (a : Int32)  : gJ (X11_quenches_m g m r a ) = gJ m := by
  unfold X11_quenches_m
  repeat' split
  all_goals simp only [mm, kJ_X11_hardens]
theorem kR_X11_quenches (g : mG) (m : mM) (r : Nat) (a : Int32)  : gR (X11_quenches_m g m r a ) = gR m := by
  unfold X11_quenches_m
  repeat' split
  all_goals simp only [mm, kR_X11_hardens]
theorem kQ_X11_quenches (g : mG) (m : mM) (r : Nat) (a : Int32)  : gQ (X11_quenches_m g m r a ) = gQ m := by
  unfold X11_quenches_m
  repeat' split
  all_goals simp only [mm, kQ_X11_hardens]
theorem kL_X11_quenches (g : mG) (m : mM) (r : Nat) (a : Int32)  : gL (X11_quenches_m g m r a ) = gL m := by
  unfold X11_quenches_m
  repeat' split
  all_goals simp only [mm, kL_X11_hardens]
theorem kD_X11_quenches (g : mG) (m : mM) (r : Nat) (a : Int32)  : gD (X11_quenches_m g m r a ) = gD m := by
  unfold X11_quenches_m
  repeat' split
  all_goals simp only [mm, kD_X11_hardens]
theorem kA_X11_quenches (g : mG) (m : mM) (r : Nat) (a : Int32)  (c9 i9 : Nat) (h0 : c9 ≠ r + 1) : gA (X11_quenches_m g m r a ) c9 i9 = gA m c9 i9 := by
  unfold X11_quenches_m
  repeat' split
  all_goals simp [mm, kA_X11_hardens, h0]
set_option maxHeartbeats 4000000 in
set_option maxRecDepth 100000 in
theorem c_X11_quenches {l : Launch} {g : mG} (hO : mO l g) (m : mM) (r : Nat) (a : Int32)  (hs : SR m r) (hp8 : 0 ≤ a → okI a 7) : mT l g yX11_quenches (.code yX11_quenches cX11_quenches 2 (Option.some FieldType.int)) 3 64 0 0 [.ref r, .int a] m (fun u m' => u = some (.int (X11_quenches_r g m r a )) ∧ m' = X11_quenches_m g m r a ) nX := by
  refine mT_of hO (by decide) (Nat.le_of_ble_eq_true rfl) (fun x hX hZ => ?_)
  show mV g x m 0 0 0 [(0, .ref r), (1, .int a)] []
  refine v_iload_n (pc := 0) hX dX11_quenches_0 rfl ?_
  refine v_if_ge (tgt := 10) (pc := 1) hX dX11_quenches_1 (by decide) (fun c1 => ?_) (fun c1 => ?_)
  ·
    have hpp := hp8 (by assumption)
    have hpp2 := hpp.2
    refine v_aload_n (pc := 10) hX dX11_quenches_10 rfl ?_
    refine v_get (v := .ref (r + 1)) (pc := 11) hX dX11_quenches_11 hs.k (ci := 12) (r := vwC12) rfl 5 (by decide) wd_1511 (fvA rfl hs.r1) ?_
    refine v_iload_n (pc := 14) hX dX11_quenches_14 rfl ?_
    refine v_iconst (v := 5) (pc := 15) hX dX11_quenches_15 (by decide) ?_
    refine v_callS (z := yX11_of) (pc := 16) hX dX11_quenches_16 (c_of2 hO m a a.toNatClampNeg 5 hpp.1) wd_1626 wd_1627 wd_16 wd_1628 ⟨by decide, by decide, (by decide +kernel : (parseMethodDescriptor yX11_of.desc).map (fun d => d.parameters.length) = some 2)⟩ rfl (Nat.le_of_ble_eq_true rfl) ⟨⟨by decide, by decide⟩, by decide, by decide⟩ (fun E m9 h9 => h9.elim) (fun r9 m9 h9 => ?_)
    obtain ⟨rfl, h8⟩ := h9
    replace h8 := h8.symm
    subst h8
    show mV g x _ _ _ _ _ [.int (nI (8 * a.toNatClampNeg + 18)), .ref (r + 1)]
    refine v_iald (j := 8 * a.toNatClampNeg + 18) (v := (gA m (r + 1) (8 * a.toNatClampNeg + 18))) (pc := 19) hX dX11_quenches_19 hs.k1 rfl (by omega) (by decide) rfl ?_
    refine v_iconst (v := 1) (pc := 20) hX dX11_quenches_20 (by decide) ?_
    refine v_icmp_eq (tgt := 39) (pc := 21) hX dX11_quenches_21 (by decide) (fun c2 => ?_) (fun c2 => ?_)
    ·
      refine v_aload_n (pc := 39) hX dX11_quenches_39 rfl ?_
      refine v_iconst (v := 2) (pc := 40) hX dX11_quenches_40 (by decide) ?_
      refine v_callV (z := yX11_fail) (pc := 41) hX dX11_quenches_41 (c_fail2 hO m r 2 hs) hs.k rfl wd_1595 wd_1597 wp_19 wd_16 wd_1598 ⟨by decide, by decide, (by decide +kernel : (parseMethodDescriptor yX11_fail.desc).map (fun d => d.parameters.length) = some 1)⟩ rfl (Nat.le_of_ble_eq_true rfl) ⟨⟨by decide, by decide⟩, by decide, by decide⟩ (fun E m9 h9 => h9.elim) (fun r9 m9 h9 => ?_)
      obtain ⟨rfl, h8⟩ := h9
      replace h8 := h8.symm
      subst h8
      show mV g x _ _ _ _ _ [.int 0]
      exact v_iret (pc := 44) hX hZ dX11_quenches_44 (by decide) (by decide) ⟨(by rw [X11_quenches_r, if_pos c1, if_pos c2]), (by rw [X11_quenches_m, if_pos c1, if_pos c2])⟩
    ·
      refine v_aload_n (pc := 24) hX dX11_quenches_24 rfl ?_
      refine v_get (v := .ref (r + 1)) (pc := 25) hX dX11_quenches_25 hs.k (ci := 12) (r := vwC12) rfl 5 (by decide) wd_1511 (fvA rfl hs.r1) ?_
      refine v_iload_n (pc := 28) hX dX11_quenches_28 rfl ?_
      refine v_bipush (v := 6) (pc := 29) hX dX11_quenches_29 (by decide) ?_
      refine v_callS (z := yX11_of) (pc := 31) hX dX11_quenches_31 (c_of2 hO m a a.toNatClampNeg 6 hpp.1) wd_1626 wd_1627 wd_16 wd_1628 ⟨by decide, by decide, (by decide +kernel : (parseMethodDescriptor yX11_of.desc).map (fun d => d.parameters.length) = some 2)⟩ rfl (Nat.le_of_ble_eq_true rfl) ⟨⟨by decide, by decide⟩, by decide, by decide⟩ (fun E m9 h9 => h9.elim) (fun r9 m9 h9 => ?_)
      obtain ⟨rfl, h8⟩ := h9
      replace h8 := h8.symm
      subst h8
      show mV g x _ _ _ _ _ [.int (nI (8 * a.toNatClampNeg + 19)), .ref (r + 1)]
      refine v_iald (j := 8 * a.toNatClampNeg + 19) (v := (gA m (r + 1) (8 * a.toNatClampNeg + 19))) (pc := 34) hX dX11_quenches_34 hs.k1 rfl (by omega) (by decide) rfl ?_
      refine v_iconst (v := 1) (pc := 35) hX dX11_quenches_35 (by decide) ?_
      refine v_icmp_ne (tgt := 45) (pc := 36) hX dX11_quenches_36 (by decide) (fun c3 => ?_) (fun c3 => ?_)
      ·
        refine v_aload_n (pc := 45) hX dX11_quenches_45 rfl ?_
        refine v_get (v := .ref (r + 1)) (pc := 46) hX dX11_quenches_46 hs.k (ci := 12) (r := vwC12) rfl 5 (by decide) wd_1511 (fvA rfl hs.r1) ?_
        refine v_iload_n (pc := 49) hX dX11_quenches_49 rfl ?_
        refine v_iconst (v := 2) (pc := 50) hX dX11_quenches_50 (by decide) ?_
        refine v_callS (z := yX11_of) (pc := 51) hX dX11_quenches_51 (c_of2 hO m a a.toNatClampNeg 2 hpp.1) wd_1626 wd_1627 wd_16 wd_1628 ⟨by decide, by decide, (by decide +kernel : (parseMethodDescriptor yX11_of.desc).map (fun d => d.parameters.length) = some 2)⟩ rfl (Nat.le_of_ble_eq_true rfl) ⟨⟨by decide, by decide⟩, by decide, by decide⟩ (fun E m9 h9 => h9.elim) (fun r9 m9 h9 => ?_)
        obtain ⟨rfl, h8⟩ := h9
        replace h8 := h8.symm
        subst h8
        show mV g x _ _ _ _ _ [.int (nI (8 * a.toNatClampNeg + 15)), .ref (r + 1)]
        refine v_iald (j := 8 * a.toNatClampNeg + 15) (v := (gA m (r + 1) (8 * a.toNatClampNeg + 15))) (pc := 54) hX dX11_quenches_54 hs.k1 rfl (by omega) (by decide) rfl ?_
        refine v_sipush (v := 700) (pc := 55) hX dX11_quenches_55 (by decide) ?_
        refine v_icmp_ge (tgt := 67) (pc := 58) hX dX11_quenches_58 (by decide) (fun c4 => ?_) (fun c4 => ?_)
        ·
          refine v_aload_n (pc := 67) hX dX11_quenches_67 rfl ?_
          refine v_iload_n (pc := 68) hX dX11_quenches_68 rfl ?_
          refine v_aload_n (pc := 69) hX dX11_quenches_69 rfl ?_
          refine v_get (v := .ref (r + 1)) (pc := 70) hX dX11_quenches_70 hs.k (ci := 12) (r := vwC12) rfl 5 (by decide) wd_1511 (fvA rfl hs.r1) ?_
          refine v_iload_n (pc := 73) hX dX11_quenches_73 rfl ?_
          refine v_iconst (v := 2) (pc := 74) hX dX11_quenches_74 (by decide) ?_
          refine v_callS (z := yX11_of) (pc := 75) hX dX11_quenches_75 (c_of2 hO m a a.toNatClampNeg 2 hpp.1) wd_1626 wd_1627 wd_16 wd_1628 ⟨by decide, by decide, (by decide +kernel : (parseMethodDescriptor yX11_of.desc).map (fun d => d.parameters.length) = some 2)⟩ rfl (Nat.le_of_ble_eq_true rfl) ⟨⟨by decide, by decide⟩, by decide, by decide⟩ (fun E m9 h9 => h9.elim) (fun r9 m9 h9 => ?_)
          obtain ⟨rfl, h8⟩ := h9
          replace h8 := h8.symm
          subst h8
          show mV g x _ _ _ _ _ [.int (nI (8 * a.toNatClampNeg + 15)), .ref (r + 1), .int a, .ref r]
          refine v_iald (j := 8 * a.toNatClampNeg + 15) (v := (gA m (r + 1) (8 * a.toNatClampNeg + 15))) (pc := 78) hX dX11_quenches_78 hs.k1 rfl (by omega) (by decide) rfl ?_
          refine v_sipush (v := 600) (pc := 79) hX dX11_quenches_79 (by decide) ?_
          refine v_isub (pc := 82) hX dX11_quenches_82 ?_
          refine v_bipush (v := 8) (pc := 83) hX dX11_quenches_83 (by decide) ?_
          refine v_idiv (pc := 85) hX dX11_quenches_85 (by decide) ?_
          refine v_callV (z := yX11_hardens) (pc := 86) hX dX11_quenches_86 (c_X11_hardens hO m r a (((gA m (r + 1) (8 * a.toNatClampNeg + 15)) - 600) / 8)  hs hpp) hs.k rfl wd_1696 wd_1698 wp_35 wd_16 wd_1699 ⟨by decide, by decide, (by decide +kernel : (parseMethodDescriptor yX11_hardens.desc).map (fun d => d.parameters.length) = some 2)⟩ rfl (Nat.le_of_ble_eq_true rfl) ⟨⟨by decide, by decide⟩, by decide, by decide⟩ (fun E m9 h9 => h9.elim) (fun r9 m9 h9 => ?_)
          obtain ⟨rfl, h8⟩ := h9
          replace h8 := h8.symm
          subst h8
          show mV g x _ _ _ _ _ []
          refine v_aload_n (pc := 89) hX dX11_quenches_89 rfl ?_
          refine v_get (v := .ref (r + 1)) (pc := 90) hX dX11_quenches_90 (by simp only [mm, kK_X11_hardens]; exact hs.k) (ci := 12) (r := vwC12) rfl 5 (by decide) wd_1511 (fvA rfl (by simp [mm, kR_X11_hardens, hs.r1])) ?_
          refine v_iload_n (pc := 93) hX dX11_quenches_93 rfl ?_
          refine v_iconst (v := 2) (pc := 94) hX dX11_quenches_94 (by decide) ?_
          refine v_callS (z := yX11_of) (pc := 95) hX dX11_quenches_95 (c_of2 hO ((X11_hardens_m g m r a (((gA m (r + 1) (8 * a.toNatClampNeg + 15)) - 600) / 8) )) a a.toNatClampNeg 2 hpp.1) wd_1626 wd_1627 wd_16 wd_1628 ⟨by decide, by decide, (by decide +kernel : (parseMethodDescriptor yX11_of.desc).map (fun d => d.parameters.length) = some 2)⟩ rfl (Nat.le_of_ble_eq_true rfl) ⟨⟨by decide, by decide⟩, by decide, by decide⟩ (fun E m9 h9 => h9.elim) (fun r9 m9 h9 => ?_)
          obtain ⟨rfl, h8⟩ := h9
          replace h8 := h8.symm
          subst h8
          show mV g x _ _ _ _ _ [.int (nI (8 * a.toNatClampNeg + 15)), .ref (r + 1)]
          refine v_bipush (v := 20) (pc := 98) hX dX11_quenches_98 (by decide) ?_
          refine v_iast (j := 8 * a.toNatClampNeg + 15) (pc := 100) hX dX11_quenches_100 (by simp only [mm, kK_X11_hardens]; exact hs.k1) rfl (by omega) (by decide) ?_
          refine v_aload_n (pc := 101) hX dX11_quenches_101 rfl ?_
          refine v_get (v := .ref (r + 1)) (pc := 102) hX dX11_quenches_102 (by simp only [mm, kK_X11_hardens]; exact hs.k) (ci := 12) (r := vwC12) rfl 5 (by decide) wd_1511 (fvA rfl (by simp [mm, kR_X11_hardens, hs.r1])) ?_
          refine v_iload_n (pc := 105) hX dX11_quenches_105 rfl ?_
          refine v_bipush (v := 6) (pc := 106) hX dX11_quenches_106 (by decide) ?_
          refine v_callS (z := yX11_of) (pc := 108) hX dX11_quenches_108 (c_of2 hO ((sA (X11_hardens_m g m r a (((gA m (r + 1) (8 * a.toNatClampNeg + 15)) - 600) / 8) ) (r + 1) (8 * a.toNatClampNeg + 15) 20)) a a.toNatClampNeg 6 hpp.1) wd_1626 wd_1627 wd_16 wd_1628 ⟨by decide, by decide, (by decide +kernel : (parseMethodDescriptor yX11_of.desc).map (fun d => d.parameters.length) = some 2)⟩ rfl (Nat.le_of_ble_eq_true rfl) ⟨⟨by decide, by decide⟩, by decide, by decide⟩ (fun E m9 h9 => h9.elim) (fun r9 m9 h9 => ?_)
          obtain ⟨rfl, h8⟩ := h9
          replace h8 := h8.symm
          subst h8
          show mV g x _ _ _ _ _ [.int (nI (8 * a.toNatClampNeg + 19)), .ref (r + 1)]
          refine v_iconst (v := 1) (pc := 111) hX dX11_quenches_111 (by decide) ?_
          refine v_iast (j := 8 * a.toNatClampNeg + 19) (pc := 112) hX dX11_quenches_112 (by simp only [mm, kK_X11_hardens]; exact hs.k1) rfl (by omega) (by decide) ?_
          refine v_aload_n (pc := 113) hX dX11_quenches_113 rfl ?_
          refine v_get (v := .ref (r + 1)) (pc := 114) hX dX11_quenches_114 (by simp only [mm, kK_X11_hardens]; exact hs.k) (ci := 12) (r := vwC12) rfl 5 (by decide) wd_1511 (fvA rfl (by simp [mm, kR_X11_hardens, hs.r1])) ?_
          refine v_iload_n (pc := 117) hX dX11_quenches_117 rfl ?_
          refine v_iconst (v := 4) (pc := 118) hX dX11_quenches_118 (by decide) ?_
          refine v_callS (z := yX11_of) (pc := 119) hX dX11_quenches_119 (c_of2 hO ((sA (sA (X11_hardens_m g m r a (((gA m (r + 1) (8 * a.toNatClampNeg + 15)) - 600) / 8) ) (r + 1) (8 * a.toNatClampNeg + 15) 20) (r + 1) (8 * a.toNatClampNeg + 19) 1)) a a.toNatClampNeg 4 hpp.1) wd_1626 wd_1627 wd_16 wd_1628 ⟨by decide, by decide, (by decide +kernel : (parseMethodDescriptor yX11_of.desc).map (fun d => d.parameters.length) = some 2)⟩ rfl (Nat.le_of_ble_eq_true rfl) ⟨⟨by decide, by decide⟩, by decide, by decide⟩ (fun E m9 h9 => h9.elim) (fun r9 m9 h9 => ?_)
          obtain ⟨rfl, h8⟩ := h9
          replace h8 := h8.symm
          subst h8
          show mV g x _ _ _ _ _ [.int (nI (8 * a.toNatClampNeg + 17)), .ref (r + 1)]
          refine v_iald (j := 8 * a.toNatClampNeg + 17) (v := (gA ((X11_hardens_m g m r a (((gA m (r + 1) (8 * a.toNatClampNeg + 15)) - 600) / 8))) (r + 1) (8 * a.toNatClampNeg + 17))) (pc := 122) hX dX11_quenches_122 (by simp only [mm, kK_X11_hardens]; exact hs.k1) rfl (by omega) (by decide) (((gA_n (by omega)).trans ((gA_n (by omega)).trans rfl))) ?_
          exact v_iret (pc := 123) hX hZ dX11_quenches_123 (by decide) (by decide) ⟨(by rw [X11_quenches_r, if_pos c1, if_neg c2, if_neg c3, if_pos c4]), (by rw [X11_quenches_m, if_pos c1, if_neg c2, if_neg c3, if_pos c4])⟩
        ·
          refine v_aload_n (pc := 61) hX dX11_quenches_61 rfl ?_
          refine v_iconst (v := 3) (pc := 62) hX dX11_quenches_62 (by decide) ?_
          refine v_callV (z := yX11_fail) (pc := 63) hX dX11_quenches_63 (c_fail2 hO m r 3 hs) hs.k rfl wd_1595 wd_1597 wp_19 wd_16 wd_1598 ⟨by decide, by decide, (by decide +kernel : (parseMethodDescriptor yX11_fail.desc).map (fun d => d.parameters.length) = some 1)⟩ rfl (Nat.le_of_ble_eq_true rfl) ⟨⟨by decide, by decide⟩, by decide, by decide⟩ (fun E m9 h9 => h9.elim) (fun r9 m9 h9 => ?_)
          obtain ⟨rfl, h8⟩ := h9
          replace h8 := h8.symm
          subst h8
          show mV g x _ _ _ _ _ [.int 0]
          exact v_iret (pc := 66) hX hZ dX11_quenches_66 (by decide) (by decide) ⟨(by rw [X11_quenches_r, if_pos c1, if_neg c2, if_neg c3, if_neg c4]), (by rw [X11_quenches_m, if_pos c1, if_neg c2, if_neg c3, if_neg c4])⟩
      ·
        refine v_aload_n (pc := 39) hX dX11_quenches_39 rfl ?_
        refine v_iconst (v := 2) (pc := 40) hX dX11_quenches_40 (by decide) ?_
        refine v_callV (z := yX11_fail) (pc := 41) hX dX11_quenches_41 (c_fail2 hO m r 2 hs) hs.k rfl wd_1595 wd_1597 wp_19 wd_16 wd_1598 ⟨by decide, by decide, (by decide +kernel : (parseMethodDescriptor yX11_fail.desc).map (fun d => d.parameters.length) = some 1)⟩ rfl (Nat.le_of_ble_eq_true rfl) ⟨⟨by decide, by decide⟩, by decide, by decide⟩ (fun E m9 h9 => h9.elim) (fun r9 m9 h9 => ?_)
        obtain ⟨rfl, h8⟩ := h9
        replace h8 := h8.symm
        subst h8
        show mV g x _ _ _ _ _ [.int 0]
        exact v_iret (pc := 44) hX hZ dX11_quenches_44 (by decide) (by decide) ⟨(by rw [X11_quenches_r, if_pos c1, if_neg c2, if_pos c3]), (by rw [X11_quenches_m, if_pos c1, if_neg c2, if_pos c3])⟩
  ·
    refine v_aload_n (pc := 4) hX dX11_quenches_4 rfl ?_
    refine v_iconst (v := 1) (pc := 5) hX dX11_quenches_5 (by decide) ?_
    refine v_callV (z := yX11_fail) (pc := 6) hX dX11_quenches_6 (c_fail2 hO m r 1 hs) hs.k rfl wd_1595 wd_1597 wp_19 wd_16 wd_1598 ⟨by decide, by decide, (by decide +kernel : (parseMethodDescriptor yX11_fail.desc).map (fun d => d.parameters.length) = some 1)⟩ rfl (Nat.le_of_ble_eq_true rfl) ⟨⟨by decide, by decide⟩, by decide, by decide⟩ (fun E m9 h9 => h9.elim) (fun r9 m9 h9 => ?_)
    obtain ⟨rfl, h8⟩ := h9
    replace h8 := h8.symm
    subst h8
    show mV g x _ _ _ _ _ [.int 0]
    exact v_iret (pc := 9) hX hZ dX11_quenches_9 (by decide) (by decide) ⟨(by rw [X11_quenches_r, if_neg c1]), (by rw [X11_quenches_m, if_neg c1])⟩
def X11_tests_r (g : mG) (m : mM) (r : Nat) (a : Int32)  : Int32 := if 0 ≤ a then (if (gA m (r + 1) (8 * a.toNatClampNeg + 18)) = 1 then 0 else (if (gA m (r + 1) (8 * a.toNatClampNeg + 19)) = 0 then 0 else (if (gA m (r + 1) (8 * a.toNatClampNeg + 20)) = 0 then (if (gA m (r + 1) (8 * a.toNatClampNeg + 15)) ≤ 60 then (if (gA m (r + 1) (8 * a.toNatClampNeg + 16)) = 10 then (if (isI (gA m (r + 1) (8 * a.toNatClampNeg + 17)) 40 70) = 0 then 0 else 1) else 0) else 0) else 0))) else 0
def X11_tests_m (g : mG) (m : mM) (r : Nat) (a : Int32)  : mM := if 0 ≤ a then (if (gA m (r + 1) (8 * a.toNatClampNeg + 18)) = 1 then ((sI m 384 r 2)) else (if (gA m (r + 1) (8 * a.toNatClampNeg + 19)) = 0 then ((sI m 384 r 2)) else (if (gA m (r + 1) (8 * a.toNatClampNeg + 20)) = 0 then (if (gA m (r + 1) (8 * a.toNatClampNeg + 15)) ≤ 60 then (if (gA m (r + 1) (8 * a.toNatClampNeg + 16)) = 10 then (if (isI (gA m (r + 1) (8 * a.toNatClampNeg + 17)) 40 70) = 0 then ((sA (sA (sA m (r + 1) (8 * a.toNatClampNeg + 20) (2 - 0)) (r + 1) 11 ((gA m (r + 1) 11) + 1)) (r + 1) 12 ((gA m (r + 1) 12) + 0))) else ((sA (sA (sA m (r + 1) (8 * a.toNatClampNeg + 20) (2 - 1)) (r + 1) 11 ((gA m (r + 1) 11) + 1)) (r + 1) 12 ((gA m (r + 1) 12) + 1)))) else ((sA (sA (sA m (r + 1) (8 * a.toNatClampNeg + 20) (2 - 0)) (r + 1) 11 ((gA m (r + 1) 11) + 1)) (r + 1) 12 ((gA m (r + 1) 12) + 0)))) else ((sI m 384 r 3))) else ((sI m 384 r 2))))) else ((sI m 384 r 1))
theorem kK_X11_tests (g : mG) (m : mM) (r : Nat) (a : Int32)  : gK (X11_tests_m g m r a ) = gK m := by
  unfold X11_tests_m
  repeat' split
  all_goals simp only [mm]
theorem kN_X11_tests (g : mG) (m : mM) (r : Nat) (a : Int32)  : gN (X11_tests_m g m r a ) = gN m := by
  unfold X11_tests_m
  repeat' split
  all_goals simp only [mm]
theorem kI_X11_tests (g : mG) (m : mM) (r : Nat) (a : Int32)  (k a9 : Nat) (h0 : k ≠ 384) : gI (X11_tests_m g m r a ) k a9 = gI m k a9 := by
  unfold X11_tests_m
  repeat' split
  all_goals simp [mm, h0]
theorem kJ_X11_tests (g : mG) (m : mM) (r : Nat) (a : Int32)  : gJ (X11_tests_m g m r a ) = gJ m := by
  unfold X11_tests_m
  repeat' split
  all_goals simp only [mm]
theorem kR_X11_tests (g : mG) (m : mM) (r : Nat) (a : Int32)  : gR (X11_tests_m g m r a ) = gR m := by
  unfold X11_tests_m
  repeat' split
  all_goals simp only [mm]
theorem kQ_X11_tests (g : mG) (m : mM) (r : Nat) (a : Int32)  : gQ (X11_tests_m g m r a ) = gQ m := by
  unfold X11_tests_m
  repeat' split
  all_goals simp only [mm]
theorem kL_X11_tests (g : mG) (m : mM) (r : Nat) (a : Int32)  : gL (X11_tests_m g m r a ) = gL m := by
  unfold X11_tests_m
  repeat' split
  all_goals simp only [mm]
theorem kD_X11_tests (g : mG) (m : mM) (r : Nat) (a : Int32)  : gD (X11_tests_m g m r a ) = gD m := by
  unfold X11_tests_m
  repeat' split
  all_goals simp only [mm]
theorem kA_X11_tests (g : mG) (m : mM) (r : Nat) (a : Int32)  (c9 i9 : Nat) (h0 : c9 ≠ r + 1) : gA (X11_tests_m g m r a ) c9 i9 = gA m c9 i9 := by
  unfold X11_tests_m
  repeat' split
  all_goals simp [mm, h0]
set_option maxHeartbeats 4000000 in
set_option maxRecDepth 100000 in
theorem c_X11_tests {l : Launch} {g : mG} (hO : mO l g) (m : mM) (r : Nat) (a : Int32)  (hs : SR m r) (hp8 : 0 ≤ a → okI a 7) : mT l g yX11_tests (.code yX11_tests cX11_tests 3 (Option.some FieldType.int)) 2 42 0 0 [.ref r, .int a] m (fun u m' => u = some (.int (X11_tests_r g m r a )) ∧ m' = X11_tests_m g m r a ) nX := by
  refine mT_of hO (by decide) (Nat.le_of_ble_eq_true rfl) (fun x hX hZ => ?_)
  show mV g x m 0 0 0 [(0, .ref r), (1, .int a)] []
  refine v_iload_n (pc := 0) hX dX11_tests_0 rfl ?_
  refine v_if_ge (tgt := 10) (pc := 1) hX dX11_tests_1 (by decide) (fun c1 => ?_) (fun c1 => ?_)
  ·
    have hpp := hp8 (by assumption)
    have hpp2 := hpp.2
    refine v_aload_n (pc := 10) hX dX11_tests_10 rfl ?_
    refine v_get (v := .ref (r + 1)) (pc := 11) hX dX11_tests_11 hs.k (ci := 12) (r := vwC12) rfl 5 (by decide) wd_1511 (fvA rfl hs.r1) ?_
    refine v_iload_n (pc := 14) hX dX11_tests_14 rfl ?_
    refine v_iconst (v := 5) (pc := 15) hX dX11_tests_15 (by decide) ?_
    refine v_callS (z := yX11_of) (pc := 16) hX dX11_tests_16 (c_of2 hO m a a.toNatClampNeg 5 hpp.1) wd_1626 wd_1627 wd_16 wd_1628 ⟨by decide, by decide, (by decide +kernel : (parseMethodDescriptor yX11_of.desc).map (fun d => d.parameters.length) = some 2)⟩ rfl (Nat.le_of_ble_eq_true rfl) ⟨⟨by decide, by decide⟩, by decide, by decide⟩ (fun E m9 h9 => h9.elim) (fun r9 m9 h9 => ?_)
    obtain ⟨rfl, h8⟩ := h9
    replace h8 := h8.symm
    subst h8
    show mV g x _ _ _ _ _ [.int (nI (8 * a.toNatClampNeg + 18)), .ref (r + 1)]
    refine v_iald (j := 8 * a.toNatClampNeg + 18) (v := (gA m (r + 1) (8 * a.toNatClampNeg + 18))) (pc := 19) hX dX11_tests_19 hs.k1 rfl (by omega) (by decide) rfl ?_
    refine v_iconst (v := 1) (pc := 20) hX dX11_tests_20 (by decide) ?_
    refine v_icmp_eq (tgt := 52) (pc := 21) hX dX11_tests_21 (by decide) (fun c2 => ?_) (fun c2 => ?_)
    ·
      refine v_aload_n (pc := 52) hX dX11_tests_52 rfl ?_
      refine v_iconst (v := 2) (pc := 53) hX dX11_tests_53 (by decide) ?_
      refine v_callV (z := yX11_fail) (pc := 54) hX dX11_tests_54 (c_fail2 hO m r 2 hs) hs.k rfl wd_1595 wd_1597 wp_19 wd_16 wd_1598 ⟨by decide, by decide, (by decide +kernel : (parseMethodDescriptor yX11_fail.desc).map (fun d => d.parameters.length) = some 1)⟩ rfl (Nat.le_of_ble_eq_true rfl) ⟨⟨by decide, by decide⟩, by decide, by decide⟩ (fun E m9 h9 => h9.elim) (fun r9 m9 h9 => ?_)
      obtain ⟨rfl, h8⟩ := h9
      replace h8 := h8.symm
      subst h8
      show mV g x _ _ _ _ _ [.int 0]
      exact v_iret (pc := 57) hX hZ dX11_tests_57 (by decide) (by decide) ⟨(by rw [X11_tests_r, if_pos c1, if_pos c2]), (by rw [X11_tests_m, if_pos c1, if_pos c2])⟩
    ·
      refine v_aload_n (pc := 24) hX dX11_tests_24 rfl ?_
      refine v_get (v := .ref (r + 1)) (pc := 25) hX dX11_tests_25 hs.k (ci := 12) (r := vwC12) rfl 5 (by decide) wd_1511 (fvA rfl hs.r1) ?_
      refine v_iload_n (pc := 28) hX dX11_tests_28 rfl ?_
      refine v_bipush (v := 6) (pc := 29) hX dX11_tests_29 (by decide) ?_
      refine v_callS (z := yX11_of) (pc := 31) hX dX11_tests_31 (c_of2 hO m a a.toNatClampNeg 6 hpp.1) wd_1626 wd_1627 wd_16 wd_1628 ⟨by decide, by decide, (by decide +kernel : (parseMethodDescriptor yX11_of.desc).map (fun d => d.parameters.length) = some 2)⟩ rfl (Nat.le_of_ble_eq_true rfl) ⟨⟨by decide, by decide⟩, by decide, by decide⟩ (fun E m9 h9 => h9.elim) (fun r9 m9 h9 => ?_)
      obtain ⟨rfl, h8⟩ := h9
      replace h8 := h8.symm
      subst h8
      show mV g x _ _ _ _ _ [.int (nI (8 * a.toNatClampNeg + 19)), .ref (r + 1)]
      refine v_iald (j := 8 * a.toNatClampNeg + 19) (v := (gA m (r + 1) (8 * a.toNatClampNeg + 19))) (pc := 34) hX dX11_tests_34 hs.k1 rfl (by omega) (by decide) rfl ?_
      refine v_if_eq (tgt := 52) (pc := 35) hX dX11_tests_35 (by decide) (fun c3 => ?_) (fun c3 => ?_)
      ·
        refine v_aload_n (pc := 52) hX dX11_tests_52 rfl ?_
        refine v_iconst (v := 2) (pc := 53) hX dX11_tests_53 (by decide) ?_
        refine v_callV (z := yX11_fail) (pc := 54) hX dX11_tests_54 (c_fail2 hO m r 2 hs) hs.k rfl wd_1595 wd_1597 wp_19 wd_16 wd_1598 ⟨by decide, by decide, (by decide +kernel : (parseMethodDescriptor yX11_fail.desc).map (fun d => d.parameters.length) = some 1)⟩ rfl (Nat.le_of_ble_eq_true rfl) ⟨⟨by decide, by decide⟩, by decide, by decide⟩ (fun E m9 h9 => h9.elim) (fun r9 m9 h9 => ?_)
        obtain ⟨rfl, h8⟩ := h9
        replace h8 := h8.symm
        subst h8
        show mV g x _ _ _ _ _ [.int 0]
        exact v_iret (pc := 57) hX hZ dX11_tests_57 (by decide) (by decide) ⟨(by rw [X11_tests_r, if_pos c1, if_neg c2, if_pos c3]), (by rw [X11_tests_m, if_pos c1, if_neg c2, if_pos c3])⟩
      ·
        refine v_aload_n (pc := 38) hX dX11_tests_38 rfl ?_
        refine v_get (v := .ref (r + 1)) (pc := 39) hX dX11_tests_39 hs.k (ci := 12) (r := vwC12) rfl 5 (by decide) wd_1511 (fvA rfl hs.r1) ?_
        refine v_iload_n (pc := 42) hX dX11_tests_42 rfl ?_
        refine v_bipush (v := 7) (pc := 43) hX dX11_tests_43 (by decide) ?_
        refine v_callS (z := yX11_of) (pc := 45) hX dX11_tests_45 (c_of2 hO m a a.toNatClampNeg 7 hpp.1) wd_1626 wd_1627 wd_16 wd_1628 ⟨by decide, by decide, (by decide +kernel : (parseMethodDescriptor yX11_of.desc).map (fun d => d.parameters.length) = some 2)⟩ rfl (Nat.le_of_ble_eq_true rfl) ⟨⟨by decide, by decide⟩, by decide, by decide⟩ (fun E m9 h9 => h9.elim) (fun r9 m9 h9 => ?_)
        obtain ⟨rfl, h8⟩ := h9
        replace h8 := h8.symm
        subst h8
        show mV g x _ _ _ _ _ [.int (nI (8 * a.toNatClampNeg + 20)), .ref (r + 1)]
        refine v_iald (j := 8 * a.toNatClampNeg + 20) (v := (gA m (r + 1) (8 * a.toNatClampNeg + 20))) (pc := 48) hX dX11_tests_48 hs.k1 rfl (by omega) (by decide) rfl ?_
        refine v_if_eq (tgt := 58) (pc := 49) hX dX11_tests_49 (by decide) (fun c4 => ?_) (fun c4 => ?_)
        ·
          refine v_aload_n (pc := 58) hX dX11_tests_58 rfl ?_
          refine v_get (v := .ref (r + 1)) (pc := 59) hX dX11_tests_59 hs.k (ci := 12) (r := vwC12) rfl 5 (by decide) wd_1511 (fvA rfl hs.r1) ?_
          refine v_iload_n (pc := 62) hX dX11_tests_62 rfl ?_
          refine v_iconst (v := 2) (pc := 63) hX dX11_tests_63 (by decide) ?_
          refine v_callS (z := yX11_of) (pc := 64) hX dX11_tests_64 (c_of2 hO m a a.toNatClampNeg 2 hpp.1) wd_1626 wd_1627 wd_16 wd_1628 ⟨by decide, by decide, (by decide +kernel : (parseMethodDescriptor yX11_of.desc).map (fun d => d.parameters.length) = some 2)⟩ rfl (Nat.le_of_ble_eq_true rfl) ⟨⟨by decide, by decide⟩, by decide, by decide⟩ (fun E m9 h9 => h9.elim) (fun r9 m9 h9 => ?_)
          obtain ⟨rfl, h8⟩ := h9
          replace h8 := h8.symm
          subst h8
          show mV g x _ _ _ _ _ [.int (nI (8 * a.toNatClampNeg + 15)), .ref (r + 1)]
          refine v_iald (j := 8 * a.toNatClampNeg + 15) (v := (gA m (r + 1) (8 * a.toNatClampNeg + 15))) (pc := 67) hX dX11_tests_67 hs.k1 rfl (by omega) (by decide) rfl ?_
          refine v_bipush (v := 60) (pc := 68) hX dX11_tests_68 (by decide) ?_
          refine v_icmp_le (tgt := 79) (pc := 70) hX dX11_tests_70 (by decide) (fun c5 => ?_) (fun c5 => ?_)
          ·
            refine v_aload_n (pc := 79) hX dX11_tests_79 rfl ?_
            refine v_get (v := .ref (r + 1)) (pc := 80) hX dX11_tests_80 hs.k (ci := 12) (r := vwC12) rfl 5 (by decide) wd_1511 (fvA rfl hs.r1) ?_
            refine v_iload_n (pc := 83) hX dX11_tests_83 rfl ?_
            refine v_iconst (v := 3) (pc := 84) hX dX11_tests_84 (by decide) ?_
            refine v_callS (z := yX11_of) (pc := 85) hX dX11_tests_85 (c_of2 hO m a a.toNatClampNeg 3 hpp.1) wd_1626 wd_1627 wd_16 wd_1628 ⟨by decide, by decide, (by decide +kernel : (parseMethodDescriptor yX11_of.desc).map (fun d => d.parameters.length) = some 2)⟩ rfl (Nat.le_of_ble_eq_true rfl) ⟨⟨by decide, by decide⟩, by decide, by decide⟩ (fun E m9 h9 => h9.elim) (fun r9 m9 h9 => ?_)
            obtain ⟨rfl, h8⟩ := h9
            replace h8 := h8.symm
            subst h8
            show mV g x _ _ _ _ _ [.int (nI (8 * a.toNatClampNeg + 16)), .ref (r + 1)]
            refine v_iald (j := 8 * a.toNatClampNeg + 16) (v := (gA m (r + 1) (8 * a.toNatClampNeg + 16))) (pc := 88) hX dX11_tests_88 hs.k1 rfl (by omega) (by decide) rfl ?_
            refine v_bipush (v := 10) (pc := 89) hX dX11_tests_89 (by decide) ?_
            refine v_icmp_ne (tgt := 118) (pc := 91) hX dX11_tests_91 (by decide) (fun c6 => ?_) (fun c6 => ?_)
            ·
              refine v_iconst (v := 0) (pc := 118) hX dX11_tests_118 (by decide) ?_
              refine v_istore_n (pc := 119) hX dX11_tests_119 (by decide) rfl ?_
              refine v_aload_n (pc := 120) hX dX11_tests_120 rfl ?_
              refine v_get (v := .ref (r + 1)) (pc := 121) hX dX11_tests_121 hs.k (ci := 12) (r := vwC12) rfl 5 (by decide) wd_1511 (fvA rfl hs.r1) ?_
              refine v_iload_n (pc := 124) hX dX11_tests_124 rfl ?_
              refine v_bipush (v := 7) (pc := 125) hX dX11_tests_125 (by decide) ?_
              refine v_callS (z := yX11_of) (pc := 127) hX dX11_tests_127 (c_of2 hO m a a.toNatClampNeg 7 hpp.1) wd_1626 wd_1627 wd_16 wd_1628 ⟨by decide, by decide, (by decide +kernel : (parseMethodDescriptor yX11_of.desc).map (fun d => d.parameters.length) = some 2)⟩ rfl (Nat.le_of_ble_eq_true rfl) ⟨⟨by decide, by decide⟩, by decide, by decide⟩ (fun E m9 h9 => h9.elim) (fun r9 m9 h9 => ?_)
              obtain ⟨rfl, h8⟩ := h9
              replace h8 := h8.symm
              subst h8
              show mV g x _ _ _ _ _ [.int (nI (8 * a.toNatClampNeg + 20)), .ref (r + 1)]
              refine v_iconst (v := 2) (pc := 130) hX dX11_tests_130 (by decide) ?_
              refine v_iload_n (pc := 131) hX dX11_tests_131 rfl ?_
              refine v_isub (pc := 132) hX dX11_tests_132 ?_
              refine v_iast (j := 8 * a.toNatClampNeg + 20) (pc := 133) hX dX11_tests_133 hs.k1 rfl (by omega) (by decide) ?_
              refine v_aload_n (pc := 134) hX dX11_tests_134 rfl ?_
              refine v_get (v := .ref (r + 1)) (pc := 135) hX dX11_tests_135 (by simp only [mm]; exact hs.k) (ci := 12) (r := vwC12) rfl 5 (by decide) wd_1511 (fvA rfl (by simp [mm, hs.r1])) ?_
              refine v_bipush (v := 11) (pc := 138) hX dX11_tests_138 (by decide) ?_
              refine v_dup2 (pc := 140) hX dX11_tests_140 rfl rfl ?_
              refine v_iald (j := 11) (v := (gA m (r + 1) 11)) (pc := 141) hX dX11_tests_141 (by simp only [mm]; exact hs.k1) rfl (by decide) (by decide) (((gA_n (by omega)).trans rfl)) ?_
              refine v_iconst (v := 1) (pc := 142) hX dX11_tests_142 (by decide) ?_
              refine v_iadd (pc := 143) hX dX11_tests_143 ?_
              refine v_iast (j := 11) (pc := 144) hX dX11_tests_144 (by simp only [mm]; exact hs.k1) rfl (by decide) (by decide) ?_
              refine v_aload_n (pc := 145) hX dX11_tests_145 rfl ?_
              refine v_get (v := .ref (r + 1)) (pc := 146) hX dX11_tests_146 (by simp only [mm]; exact hs.k) (ci := 12) (r := vwC12) rfl 5 (by decide) wd_1511 (fvA rfl (by simp [mm, hs.r1])) ?_
              refine v_bipush (v := 12) (pc := 149) hX dX11_tests_149 (by decide) ?_
              refine v_dup2 (pc := 151) hX dX11_tests_151 rfl rfl ?_
              refine v_iald (j := 12) (v := (gA m (r + 1) 12)) (pc := 152) hX dX11_tests_152 (by simp only [mm]; exact hs.k1) rfl (by decide) (by decide) (((gA_n (by omega)).trans ((gA_n (by omega)).trans rfl))) ?_
              refine v_iload_n (pc := 153) hX dX11_tests_153 rfl ?_
              refine v_iadd (pc := 154) hX dX11_tests_154 ?_
              refine v_iast (j := 12) (pc := 155) hX dX11_tests_155 (by simp only [mm]; exact hs.k1) rfl (by decide) (by decide) ?_
              refine v_iload_n (pc := 156) hX dX11_tests_156 rfl ?_
              exact v_iret (pc := 157) hX hZ dX11_tests_157 (by decide) (by decide) ⟨(by rw [X11_tests_r, if_pos c1, if_neg c2, if_neg c3, if_pos c4, if_pos c5, if_neg c6]), (by rw [X11_tests_m, if_pos c1, if_neg c2, if_neg c3, if_pos c4, if_pos c5, if_neg c6])⟩
            ·
              refine v_aload_n (pc := 94) hX dX11_tests_94 rfl ?_
              refine v_get (v := .ref (r + 1)) (pc := 95) hX dX11_tests_95 hs.k (ci := 12) (r := vwC12) rfl 5 (by decide) wd_1511 (fvA rfl hs.r1) ?_
              refine v_iload_n (pc := 98) hX dX11_tests_98 rfl ?_
              refine v_iconst (v := 4) (pc := 99) hX dX11_tests_99 (by decide) ?_
              refine v_callS (z := yX11_of) (pc := 100) hX dX11_tests_100 (c_of2 hO m a a.toNatClampNeg 4 hpp.1) wd_1626 wd_1627 wd_16 wd_1628 ⟨by decide, by decide, (by decide +kernel : (parseMethodDescriptor yX11_of.desc).map (fun d => d.parameters.length) = some 2)⟩ rfl (Nat.le_of_ble_eq_true rfl) ⟨⟨by decide, by decide⟩, by decide, by decide⟩ (fun E m9 h9 => h9.elim) (fun r9 m9 h9 => ?_)
              obtain ⟨rfl, h8⟩ := h9
              replace h8 := h8.symm
              subst h8
              show mV g x _ _ _ _ _ [.int (nI (8 * a.toNatClampNeg + 17)), .ref (r + 1)]
              refine v_iald (j := 8 * a.toNatClampNeg + 17) (v := (gA m (r + 1) (8 * a.toNatClampNeg + 17))) (pc := 103) hX dX11_tests_103 hs.k1 rfl (by omega) (by decide) rfl ?_
              refine v_bipush (v := 40) (pc := 104) hX dX11_tests_104 (by decide) ?_
              refine v_bipush (v := 70) (pc := 106) hX dX11_tests_106 (by decide) ?_
              refine v_callS (z := yX11_isIn) (pc := 108) hX dX11_tests_108 (c_isI hO m (gA m (r + 1) (8 * a.toNatClampNeg + 17)) 40 70) wd_1592 wd_1593 wd_16 wd_1594 ⟨by decide, by decide, (by decide +kernel : (parseMethodDescriptor yX11_isIn.desc).map (fun d => d.parameters.length) = some 3)⟩ rfl (Nat.le_of_ble_eq_true rfl) ⟨⟨by decide, by decide⟩, by decide, by decide⟩ (fun E m9 h9 => h9.elim) (fun r9 m9 h9 => ?_)
              obtain ⟨rfl, h8⟩ := h9
              replace h8 := h8.symm
              subst h8
              show mV g x _ _ _ _ _ [.int (isI (gA m (r + 1) (8 * a.toNatClampNeg + 17)) 40 70)]
              refine v_if_eq (tgt := 118) (pc := 111) hX dX11_tests_111 (by decide) (fun c7 => ?_) (fun c7 => ?_)
              ·
                refine v_iconst (v := 0) (pc := 118) hX dX11_tests_118 (by decide) ?_
                refine v_istore_n (pc := 119) hX dX11_tests_119 (by decide) rfl ?_
                refine v_aload_n (pc := 120) hX dX11_tests_120 rfl ?_
                refine v_get (v := .ref (r + 1)) (pc := 121) hX dX11_tests_121 hs.k (ci := 12) (r := vwC12) rfl 5 (by decide) wd_1511 (fvA rfl hs.r1) ?_
                refine v_iload_n (pc := 124) hX dX11_tests_124 rfl ?_
                refine v_bipush (v := 7) (pc := 125) hX dX11_tests_125 (by decide) ?_
                refine v_callS (z := yX11_of) (pc := 127) hX dX11_tests_127 (c_of2 hO m a a.toNatClampNeg 7 hpp.1) wd_1626 wd_1627 wd_16 wd_1628 ⟨by decide, by decide, (by decide +kernel : (parseMethodDescriptor yX11_of.desc).map (fun d => d.parameters.length) = some 2)⟩ rfl (Nat.le_of_ble_eq_true rfl) ⟨⟨by decide, by decide⟩, by decide, by decide⟩ (fun E m9 h9 => h9.elim) (fun r9 m9 h9 => ?_)
                obtain ⟨rfl, h8⟩ := h9
                replace h8 := h8.symm
                subst h8
                show mV g x _ _ _ _ _ [.int (nI (8 * a.toNatClampNeg + 20)), .ref (r + 1)]
                refine v_iconst (v := 2) (pc := 130) hX dX11_tests_130 (by decide) ?_
                refine v_iload_n (pc := 131) hX dX11_tests_131 rfl ?_
                refine v_isub (pc := 132) hX dX11_tests_132 ?_
                refine v_iast (j := 8 * a.toNatClampNeg + 20) (pc := 133) hX dX11_tests_133 hs.k1 rfl (by omega) (by decide) ?_
                refine v_aload_n (pc := 134) hX dX11_tests_134 rfl ?_
                refine v_get (v := .ref (r + 1)) (pc := 135) hX dX11_tests_135 (by simp only [mm]; exact hs.k) (ci := 12) (r := vwC12) rfl 5 (by decide) wd_1511 (fvA rfl (by simp [mm, hs.r1])) ?_
                refine v_bipush (v := 11) (pc := 138) hX dX11_tests_138 (by decide) ?_
                refine v_dup2 (pc := 140) hX dX11_tests_140 rfl rfl ?_
                refine v_iald (j := 11) (v := (gA m (r + 1) 11)) (pc := 141) hX dX11_tests_141 (by simp only [mm]; exact hs.k1) rfl (by decide) (by decide) (((gA_n (by omega)).trans rfl)) ?_
                refine v_iconst (v := 1) (pc := 142) hX dX11_tests_142 (by decide) ?_
                refine v_iadd (pc := 143) hX dX11_tests_143 ?_
                refine v_iast (j := 11) (pc := 144) hX dX11_tests_144 (by simp only [mm]; exact hs.k1) rfl (by decide) (by decide) ?_
                refine v_aload_n (pc := 145) hX dX11_tests_145 rfl ?_
                refine v_get (v := .ref (r + 1)) (pc := 146) hX dX11_tests_146 (by simp only [mm]; exact hs.k) (ci := 12) (r := vwC12) rfl 5 (by decide) wd_1511 (fvA rfl (by simp [mm, hs.r1])) ?_
                refine v_bipush (v := 12) (pc := 149) hX dX11_tests_149 (by decide) ?_
                refine v_dup2 (pc := 151) hX dX11_tests_151 rfl rfl ?_
                refine v_iald (j := 12) (v := (gA m (r + 1) 12)) (pc := 152) hX dX11_tests_152 (by simp only [mm]; exact hs.k1) rfl (by decide) (by decide) (((gA_n (by omega)).trans ((gA_n (by omega)).trans rfl))) ?_
                refine v_iload_n (pc := 153) hX dX11_tests_153 rfl ?_
                refine v_iadd (pc := 154) hX dX11_tests_154 ?_
                refine v_iast (j := 12) (pc := 155) hX dX11_tests_155 (by simp only [mm]; exact hs.k1) rfl (by decide) (by decide) ?_
                refine v_iload_n (pc := 156) hX dX11_tests_156 rfl ?_
                exact v_iret (pc := 157) hX hZ dX11_tests_157 (by decide) (by decide) ⟨(by rw [X11_tests_r, if_pos c1, if_neg c2, if_neg c3, if_pos c4, if_pos c5, if_pos c6, if_pos c7]), (by rw [X11_tests_m, if_pos c1, if_neg c2, if_neg c3, if_pos c4, if_pos c5, if_pos c6, if_pos c7])⟩
              ·
                refine v_iconst (v := 1) (pc := 114) hX dX11_tests_114 (by decide) ?_
                refine v_goto (tgt := 119) (pc := 115) hX dX11_tests_115 (by decide) ?_
                refine v_istore_n (pc := 119) hX dX11_tests_119 (by decide) rfl ?_
                refine v_aload_n (pc := 120) hX dX11_tests_120 rfl ?_
                refine v_get (v := .ref (r + 1)) (pc := 121) hX dX11_tests_121 hs.k (ci := 12) (r := vwC12) rfl 5 (by decide) wd_1511 (fvA rfl hs.r1) ?_
                refine v_iload_n (pc := 124) hX dX11_tests_124 rfl ?_
                refine v_bipush (v := 7) (pc := 125) hX dX11_tests_125 (by decide) ?_
                refine v_callS (z := yX11_of) (pc := 127) hX dX11_tests_127 (c_of2 hO m a a.toNatClampNeg 7 hpp.1) wd_1626 wd_1627 wd_16 wd_1628 ⟨by decide, by decide, (by decide +kernel : (parseMethodDescriptor yX11_of.desc).map (fun d => d.parameters.length) = some 2)⟩ rfl (Nat.le_of_ble_eq_true rfl) ⟨⟨by decide, by decide⟩, by decide, by decide⟩ (fun E m9 h9 => h9.elim) (fun r9 m9 h9 => ?_)
                obtain ⟨rfl, h8⟩ := h9
                replace h8 := h8.symm
                subst h8
                show mV g x _ _ _ _ _ [.int (nI (8 * a.toNatClampNeg + 20)), .ref (r + 1)]
                refine v_iconst (v := 2) (pc := 130) hX dX11_tests_130 (by decide) ?_
                refine v_iload_n (pc := 131) hX dX11_tests_131 rfl ?_
                refine v_isub (pc := 132) hX dX11_tests_132 ?_
                refine v_iast (j := 8 * a.toNatClampNeg + 20) (pc := 133) hX dX11_tests_133 hs.k1 rfl (by omega) (by decide) ?_
                refine v_aload_n (pc := 134) hX dX11_tests_134 rfl ?_
                refine v_get (v := .ref (r + 1)) (pc := 135) hX dX11_tests_135 (by simp only [mm]; exact hs.k) (ci := 12) (r := vwC12) rfl 5 (by decide) wd_1511 (fvA rfl (by simp [mm, hs.r1])) ?_
                refine v_bipush (v := 11) (pc := 138) hX dX11_tests_138 (by decide) ?_
                refine v_dup2 (pc := 140) hX dX11_tests_140 rfl rfl ?_
                refine v_iald (j := 11) (v := (gA m (r + 1) 11)) (pc := 141) hX dX11_tests_141 (by simp only [mm]; exact hs.k1) rfl (by decide) (by decide) (((gA_n (by omega)).trans rfl)) ?_
                refine v_iconst (v := 1) (pc := 142) hX dX11_tests_142 (by decide) ?_
                refine v_iadd (pc := 143) hX dX11_tests_143 ?_
                refine v_iast (j := 11) (pc := 144) hX dX11_tests_144 (by simp only [mm]; exact hs.k1) rfl (by decide) (by decide) ?_
                refine v_aload_n (pc := 145) hX dX11_tests_145 rfl ?_
                refine v_get (v := .ref (r + 1)) (pc := 146) hX dX11_tests_146 (by simp only [mm]; exact hs.k) (ci := 12) (r := vwC12) rfl 5 (by decide) wd_1511 (fvA rfl (by simp [mm, hs.r1])) ?_
                refine v_bipush (v := 12) (pc := 149) hX dX11_tests_149 (by decide) ?_
                refine v_dup2 (pc := 151) hX dX11_tests_151 rfl rfl ?_
                refine v_iald (j := 12) (v := (gA m (r + 1) 12)) (pc := 152) hX dX11_tests_152 (by simp only [mm]; exact hs.k1) rfl (by decide) (by decide) (((gA_n (by omega)).trans ((gA_n (by omega)).trans rfl))) ?_
                refine v_iload_n (pc := 153) hX dX11_tests_153 rfl ?_
                refine v_iadd (pc := 154) hX dX11_tests_154 ?_
                refine v_iast (j := 12) (pc := 155) hX dX11_tests_155 (by simp only [mm]; exact hs.k1) rfl (by decide) (by decide) ?_
                refine v_iload_n (pc := 156) hX dX11_tests_156 rfl ?_
                exact v_iret (pc := 157) hX hZ dX11_tests_157 (by decide) (by decide) ⟨(by rw [X11_tests_r, if_pos c1, if_neg c2, if_neg c3, if_pos c4, if_pos c5, if_pos c6, if_neg c7]), (by rw [X11_tests_m, if_pos c1, if_neg c2, if_neg c3, if_pos c4, if_pos c5, if_pos c6, if_neg c7])⟩
          ·
            refine v_aload_n (pc := 73) hX dX11_tests_73 rfl ?_
            refine v_iconst (v := 3) (pc := 74) hX dX11_tests_74 (by decide) ?_
            refine v_callV (z := yX11_fail) (pc := 75) hX dX11_tests_75 (c_fail2 hO m r 3 hs) hs.k rfl wd_1595 wd_1597 wp_19 wd_16 wd_1598 ⟨by decide, by decide, (by decide +kernel : (parseMethodDescriptor yX11_fail.desc).map (fun d => d.parameters.length) = some 1)⟩ rfl (Nat.le_of_ble_eq_true rfl) ⟨⟨by decide, by decide⟩, by decide, by decide⟩ (fun E m9 h9 => h9.elim) (fun r9 m9 h9 => ?_)
            obtain ⟨rfl, h8⟩ := h9
            replace h8 := h8.symm
            subst h8
            show mV g x _ _ _ _ _ [.int 0]
            exact v_iret (pc := 78) hX hZ dX11_tests_78 (by decide) (by decide) ⟨(by rw [X11_tests_r, if_pos c1, if_neg c2, if_neg c3, if_pos c4, if_neg c5]), (by rw [X11_tests_m, if_pos c1, if_neg c2, if_neg c3, if_pos c4, if_neg c5])⟩
        ·
          refine v_aload_n (pc := 52) hX dX11_tests_52 rfl ?_
          refine v_iconst (v := 2) (pc := 53) hX dX11_tests_53 (by decide) ?_
          refine v_callV (z := yX11_fail) (pc := 54) hX dX11_tests_54 (c_fail2 hO m r 2 hs) hs.k rfl wd_1595 wd_1597 wp_19 wd_16 wd_1598 ⟨by decide, by decide, (by decide +kernel : (parseMethodDescriptor yX11_fail.desc).map (fun d => d.parameters.length) = some 1)⟩ rfl (Nat.le_of_ble_eq_true rfl) ⟨⟨by decide, by decide⟩, by decide, by decide⟩ (fun E m9 h9 => h9.elim) (fun r9 m9 h9 => ?_)
          obtain ⟨rfl, h8⟩ := h9
          replace h8 := h8.symm
          subst h8
          show mV g x _ _ _ _ _ [.int 0]
          exact v_iret (pc := 57) hX hZ dX11_tests_57 (by decide) (by decide) ⟨(by rw [X11_tests_r, if_pos c1, if_neg c2, if_neg c3, if_neg c4]), (by rw [X11_tests_m, if_pos c1, if_neg c2, if_neg c3, if_neg c4])⟩
  ·
    refine v_aload_n (pc := 4) hX dX11_tests_4 rfl ?_
    refine v_iconst (v := 1) (pc := 5) hX dX11_tests_5 (by decide) ?_
    refine v_callV (z := yX11_fail) (pc := 6) hX dX11_tests_6 (c_fail2 hO m r 1 hs) hs.k rfl wd_1595 wd_1597 wp_19 wd_16 wd_1598 ⟨by decide, by decide, (by decide +kernel : (parseMethodDescriptor yX11_fail.desc).map (fun d => d.parameters.length) = some 1)⟩ rfl (Nat.le_of_ble_eq_true rfl) ⟨⟨by decide, by decide⟩, by decide, by decide⟩ (fun E m9 h9 => h9.elim) (fun r9 m9 h9 => ?_)
    obtain ⟨rfl, h8⟩ := h9
    replace h8 := h8.symm
    subst h8
    show mV g x _ _ _ _ _ [.int 0]
    exact v_iret (pc := 9) hX hZ dX11_tests_9 (by decide) (by decide) ⟨(by rw [X11_tests_r, if_neg c1]), (by rw [X11_tests_m, if_neg c1])⟩
