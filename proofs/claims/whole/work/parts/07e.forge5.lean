def X3_copyFrom_l2 (g : mG) (f : Nat) (o : Nat)  : Nat → Nat → mM → mM
  | 0, j, m => (sJ (sI (sI (sI (sI (sI (sI (sI (sI m 163 f (gI m 163 o)) 164 f (gI m 164 o)) 165 f (gI m 165 o)) 166 f (gI m 166 o)) 167 f (gI m 167 o)) 168 f (gI m 168 o)) 169 f (gI m 169 o)) 170 f (gI m 170 o)) 171 f (gJ m 171 o))
  | n + 1, j, m => X3_copyFrom_l2 g f o  n (j + 1)  ((X5_copyFrom_m g m (f + 12 + j) (o + 12 + j)))
set_option maxHeartbeats 4000000 in
set_option maxRecDepth 100000 in
theorem lp_X3_copyFrom_l2 {l : Launch} {g : mG} {x : mCx} (hO : mO l g) (f : Nat) (o : Nat)   {pst : Option Value → mM → Prop} {XX : String → mM → Prop} (hX : mX l g x cX3_copyFrom yX3_copyFrom { frames := 2, cells := 0, slots := 0, locals := 41 } 3) (hZ : mZ g x (Option.none : Option FieldType) [] pst XX 0 0) : ∀ (n j : Nat)  (m : mM) (hs : SF m f) (ho : SF m o) (hj : j + n = 4) (hp : pst none (X3_copyFrom_l2 g f o  n j  m)), mV g x m 0 0 42 [(0, .ref f), (1, .ref o), (2, .int (nI j))] [] := by
  intro n
  induction n with
  | zero =>
    intro j  m hs ho hj hp
    refine v_iload_n (pc := 42) hX dX3_copyFrom_42 rfl ?_
    refine v_iconst (v := 4) (pc := 43) hX dX3_copyFrom_43 (by decide) ?_
    refine v_icmp_ge (tgt := 68) (pc := 44) hX dX3_copyFrom_44 (by decide) (fun c1 => ?_) (fun c1 => ?_)
    ·
      refine v_aload_n (pc := 68) hX dX3_copyFrom_68 rfl ?_
      refine v_aload_n (pc := 69) hX dX3_copyFrom_69 rfl ?_
      refine v_get (v := .int (gI m 163 o)) (pc := 70) hX dX3_copyFrom_70 ho.k (ci := 5) (r := vwC5) rfl 3 (by decide) wd_155 rfl ?_
      refine v_put (m1 := (sI m 163 f (gI m 163 o))) (pc := 73) hX dX3_copyFrom_73 hs.k (ci := 5) (r := vwC5) rfl 3 (by decide) wd_155 rfl rfl rfl rfl ?_
      refine v_aload_n (pc := 76) hX dX3_copyFrom_76 rfl ?_
      refine v_aload_n (pc := 77) hX dX3_copyFrom_77 rfl ?_
      refine v_get (v := .int (gI m 164 o)) (pc := 78) hX dX3_copyFrom_78 (by simp only [mm]; exact ho.k) (ci := 5) (r := vwC5) rfl 4 (by decide) wd_158 (by show Value.int _ = Value.int _; simp [mm]) ?_
      refine v_put (m1 := (sI (sI m 163 f (gI m 163 o)) 164 f (gI m 164 o))) (pc := 81) hX dX3_copyFrom_81 (by simp only [mm]; exact hs.k) (ci := 5) (r := vwC5) rfl 4 (by decide) wd_158 rfl rfl rfl rfl ?_
      refine v_aload_n (pc := 84) hX dX3_copyFrom_84 rfl ?_
      refine v_aload_n (pc := 85) hX dX3_copyFrom_85 rfl ?_
      refine v_get (v := .int (gI m 165 o)) (pc := 86) hX dX3_copyFrom_86 (by simp only [mm]; exact ho.k) (ci := 5) (r := vwC5) rfl 5 (by decide) wd_160 (by show Value.int _ = Value.int _; simp [mm]) ?_
      refine v_put (m1 := (sI (sI (sI m 163 f (gI m 163 o)) 164 f (gI m 164 o)) 165 f (gI m 165 o))) (pc := 89) hX dX3_copyFrom_89 (by simp only [mm]; exact hs.k) (ci := 5) (r := vwC5) rfl 5 (by decide) wd_160 rfl rfl rfl rfl ?_
      refine v_aload_n (pc := 92) hX dX3_copyFrom_92 rfl ?_
      refine v_aload_n (pc := 93) hX dX3_copyFrom_93 rfl ?_
      refine v_get (v := .int (gI m 166 o)) (pc := 94) hX dX3_copyFrom_94 (by simp only [mm]; exact ho.k) (ci := 5) (r := vwC5) rfl 6 (by decide) wd_161 (by show Value.int _ = Value.int _; simp [mm]) ?_
      refine v_put (m1 := (sI (sI (sI (sI m 163 f (gI m 163 o)) 164 f (gI m 164 o)) 165 f (gI m 165 o)) 166 f (gI m 166 o))) (pc := 97) hX dX3_copyFrom_97 (by simp only [mm]; exact hs.k) (ci := 5) (r := vwC5) rfl 6 (by decide) wd_161 rfl rfl rfl rfl ?_
      refine v_aload_n (pc := 100) hX dX3_copyFrom_100 rfl ?_
      refine v_aload_n (pc := 101) hX dX3_copyFrom_101 rfl ?_
      refine v_get (v := .int (gI m 167 o)) (pc := 102) hX dX3_copyFrom_102 (by simp only [mm]; exact ho.k) (ci := 5) (r := vwC5) rfl 7 (by decide) wd_163 (by show Value.int _ = Value.int _; simp [mm]) ?_
      refine v_put (m1 := (sI (sI (sI (sI (sI m 163 f (gI m 163 o)) 164 f (gI m 164 o)) 165 f (gI m 165 o)) 166 f (gI m 166 o)) 167 f (gI m 167 o))) (pc := 105) hX dX3_copyFrom_105 (by simp only [mm]; exact hs.k) (ci := 5) (r := vwC5) rfl 7 (by decide) wd_163 rfl rfl rfl rfl ?_
      refine v_aload_n (pc := 108) hX dX3_copyFrom_108 rfl ?_
      refine v_aload_n (pc := 109) hX dX3_copyFrom_109 rfl ?_
      refine v_get (v := .int (gI m 168 o)) (pc := 110) hX dX3_copyFrom_110 (by simp only [mm]; exact ho.k) (ci := 5) (r := vwC5) rfl 8 (by decide) wd_165 (by show Value.int _ = Value.int _; simp [mm]) ?_
      refine v_put (m1 := (sI (sI (sI (sI (sI (sI m 163 f (gI m 163 o)) 164 f (gI m 164 o)) 165 f (gI m 165 o)) 166 f (gI m 166 o)) 167 f (gI m 167 o)) 168 f (gI m 168 o))) (pc := 113) hX dX3_copyFrom_113 (by simp only [mm]; exact hs.k) (ci := 5) (r := vwC5) rfl 8 (by decide) wd_165 rfl rfl rfl rfl ?_
      refine v_aload_n (pc := 116) hX dX3_copyFrom_116 rfl ?_
      refine v_aload_n (pc := 117) hX dX3_copyFrom_117 rfl ?_
      refine v_get (v := .int (gI m 169 o)) (pc := 118) hX dX3_copyFrom_118 (by simp only [mm]; exact ho.k) (ci := 5) (r := vwC5) rfl 9 (by decide) wd_167 (by show Value.int _ = Value.int _; simp [mm]) ?_
      refine v_put (m1 := (sI (sI (sI (sI (sI (sI (sI m 163 f (gI m 163 o)) 164 f (gI m 164 o)) 165 f (gI m 165 o)) 166 f (gI m 166 o)) 167 f (gI m 167 o)) 168 f (gI m 168 o)) 169 f (gI m 169 o))) (pc := 121) hX dX3_copyFrom_121 (by simp only [mm]; exact hs.k) (ci := 5) (r := vwC5) rfl 9 (by decide) wd_167 rfl rfl rfl rfl ?_
      refine v_aload_n (pc := 124) hX dX3_copyFrom_124 rfl ?_
      refine v_aload_n (pc := 125) hX dX3_copyFrom_125 rfl ?_
      refine v_get (v := .int (gI m 170 o)) (pc := 126) hX dX3_copyFrom_126 (by simp only [mm]; exact ho.k) (ci := 5) (r := vwC5) rfl 10 (by decide) wd_169 (by show Value.int _ = Value.int _; simp [mm]) ?_
      refine v_put (m1 := (sI (sI (sI (sI (sI (sI (sI (sI m 163 f (gI m 163 o)) 164 f (gI m 164 o)) 165 f (gI m 165 o)) 166 f (gI m 166 o)) 167 f (gI m 167 o)) 168 f (gI m 168 o)) 169 f (gI m 169 o)) 170 f (gI m 170 o))) (pc := 129) hX dX3_copyFrom_129 (by simp only [mm]; exact hs.k) (ci := 5) (r := vwC5) rfl 10 (by decide) wd_169 rfl rfl rfl rfl ?_
      refine v_aload_n (pc := 132) hX dX3_copyFrom_132 rfl ?_
      refine v_aload_n (pc := 133) hX dX3_copyFrom_133 rfl ?_
      refine v_get (v := .long (gJ m 171 o)) (pc := 134) hX dX3_copyFrom_134 (by simp only [mm]; exact ho.k) (ci := 5) (r := vwC5) rfl 11 (by decide) wd_171 (by show Value.long _ = Value.long _; simp [mm]) ?_
      refine v_put (m1 := (sJ (sI (sI (sI (sI (sI (sI (sI (sI m 163 f (gI m 163 o)) 164 f (gI m 164 o)) 165 f (gI m 165 o)) 166 f (gI m 166 o)) 167 f (gI m 167 o)) 168 f (gI m 168 o)) 169 f (gI m 169 o)) 170 f (gI m 170 o)) 171 f (gJ m 171 o))) (pc := 137) hX dX3_copyFrom_137 (by simp only [mm]; exact hs.k) (ci := 5) (r := vwC5) rfl 11 (by decide) wd_171 rfl rfl rfl rfl ?_
      exact v_vret (pc := 140) hX hZ dX3_copyFrom_140 (by decide) (by decide) (by rw [X3_copyFrom_l2] at hp; exact hp)
    · exact absurd (show nI 4 ≤ nI j from nI_le (by omega) (by omega)) c1
  | succ n ih =>
    intro j  m hs ho hj hp
    refine v_iload_n (pc := 42) hX dX3_copyFrom_42 rfl ?_
    refine v_iconst (v := 4) (pc := 43) hX dX3_copyFrom_43 (by decide) ?_
    refine v_icmp_ge (tgt := 68) (pc := 44) hX dX3_copyFrom_44 (by decide) (fun c1 => ?_) (fun c1 => ?_)
    · exact absurd c1 (show ¬ nI 4 ≤ nI j from nI_ge (by omega) (by omega))
    ·
      refine v_aload_n (pc := 47) hX dX3_copyFrom_47 rfl ?_
      refine v_get (v := .ref (f + 3)) (pc := 48) hX dX3_copyFrom_48 hs.k (ci := 5) (r := vwC5) rfl 2 (by decide) wd_154 (fvR hs.r2) ?_
      refine v_iload_n (pc := 51) hX dX3_copyFrom_51 rfl ?_
      refine v_aaldR (q := f + 12 + j) (pc := 52) hX dX3_copyFrom_52 hs.k3 (by decide) (by decide) rfl (by omega) (by decide) (hs.qh (i := j) (by omega)) ?_
      refine v_aload_n (pc := 53) hX dX3_copyFrom_53 rfl ?_
      refine v_get (v := .ref (o + 3)) (pc := 54) hX dX3_copyFrom_54 ho.k (ci := 5) (r := vwC5) rfl 2 (by decide) wd_154 (fvR ho.r2) ?_
      refine v_iload_n (pc := 57) hX dX3_copyFrom_57 rfl ?_
      refine v_aaldR (q := o + 12 + j) (pc := 58) hX dX3_copyFrom_58 ho.k3 (by decide) (by decide) rfl (by omega) (by decide) (ho.qh (i := j) (by omega)) ?_
      refine v_callV (z := yX5_copyFrom) (pc := 59) hX dX3_copyFrom_59 (c_X5_copyFrom hO m (f + 12 + j) (o + 12 + j) (by exact (hs.kh (i := j) (by omega))) (by exact (ho.kh (i := j) (by omega)))) (hs.kh (i := j) (by omega)) rfl wd_427 wd_428 wd_429 wd_7 wd_430 ⟨by decide, by decide, (by decide +kernel : (parseMethodDescriptor yX5_copyFrom.desc).map (fun d => d.parameters.length) = some 1)⟩ rfl (Nat.le_of_ble_eq_true rfl) ⟨⟨by decide, by decide⟩, by decide, by decide⟩ (fun E m9 h9 => h9.elim) (fun r9 m9 h9 => ?_)
      obtain ⟨rfl, h8⟩ := h9
      replace h8 := h8.symm
      subst h8
      show mV g x _ _ _ _ _ []
      refine v_iinc (w := nI (j + 1)) (pc := 62) hX dX3_copyFrom_62 rfl (nI_1 _) (by decide) rfl ?_
      refine v_goto (tgt := 42) (pc := 65) hX dX3_copyFrom_65 (by decide) ?_
      refine mV_sub (lv' := [(0, .ref f), (1, .ref o), (2, .int (nI (j + 1)))]) ⟨rfl, rfl, rfl, trivial⟩ ?_
      exact ih (j + 1)  ((X5_copyFrom_m g m (f + 12 + j) (o + 12 + j))) (hs.to (by simp only [mm, kK_X5_copyFrom]) (by simp [mm, kR_X5_copyFrom]) (by simp [mm, kR_X5_copyFrom]) (by simp [mm, kR_X5_copyFrom]) (by simp only [mm, kQ_X5_copyFrom])) (ho.to (by simp only [mm, kK_X5_copyFrom]) (by simp [mm, kR_X5_copyFrom]) (by simp [mm, kR_X5_copyFrom]) (by simp [mm, kR_X5_copyFrom]) (by simp only [mm, kQ_X5_copyFrom])) (by omega) (by rw [X3_copyFrom_l2] at hp; exact hp)
theorem kK_X3_copyFrom_l2 (g : mG) (f : Nat) (o : Nat)  : ∀ (n j : Nat)  (m : mM), gK (X3_copyFrom_l2 g f o  n j  m) = gK m := by
  intro n
  induction n with
  | zero =>
    intro j  m
    rw [X3_copyFrom_l2]
    repeat' split
    all_goals simp only [mm, kK_X5_copyFrom]
  | succ n ih =>
    intro j  m
    rw [X3_copyFrom_l2]
    repeat' split
    all_goals simp only [mm, ih, kK_X5_copyFrom]
theorem kN_X3_copyFrom_l2 (g : mG) (f : Nat) (o : Nat)  : ∀ (n j : Nat)  (m : mM), gN (X3_copyFrom_l2 g f o  n j  m) = gN m := by
  intro n
  induction n with
  | zero =>
    intro j  m
    rw [X3_copyFrom_l2]
    repeat' split
    all_goals simp only [mm, kN_X5_copyFrom]
  | succ n ih =>
    intro j  m
    rw [X3_copyFrom_l2]
    repeat' split
    all_goals simp only [mm, ih, kN_X5_copyFrom]
theorem kI_X3_copyFrom_l2 (g : mG) (f : Nat) (o : Nat)  (k a9 : Nat) (h0 : k ≠ 163) (h1 : k ≠ 164) (h2 : k ≠ 165) (h3 : k ≠ 166) (h4 : k ≠ 167) (h5 : k ≠ 168) (h6 : k ≠ 169) (h7 : k ≠ 170) (h8 : k ≠ 224) (h9 : k ≠ 225) : ∀ (n j : Nat)  (m : mM), gI (X3_copyFrom_l2 g f o  n j  m) k a9 = gI m k a9 := by
  intro n
  induction n with
  | zero =>
    intro j  m
    rw [X3_copyFrom_l2]
    repeat' split
    all_goals simp [mm, kI_X5_copyFrom, h0, h1, h2, h3, h4, h5, h6, h7, h8, h9]
  | succ n ih =>
    intro j  m
    rw [X3_copyFrom_l2]
    repeat' split
    all_goals simp [mm, ih, kI_X5_copyFrom, h0, h1, h2, h3, h4, h5, h6, h7, h8, h9]
theorem kJ_X3_copyFrom_l2 (g : mG) (f : Nat) (o : Nat)  (k a9 : Nat) (h0 : k ≠ 171) : ∀ (n j : Nat)  (m : mM), gJ (X3_copyFrom_l2 g f o  n j  m) k a9 = gJ m k a9 := by
  intro n
  induction n with
  | zero =>
    intro j  m
    rw [X3_copyFrom_l2]
    repeat' split
    all_goals simp [mm, kJ_X5_copyFrom, h0]
  | succ n ih =>
    intro j  m
    rw [X3_copyFrom_l2]
    repeat' split
    all_goals simp [mm, ih, kJ_X5_copyFrom, h0]
theorem kR_X3_copyFrom_l2 (g : mG) (f : Nat) (o : Nat)  : ∀ (n j : Nat)  (m : mM), gR (X3_copyFrom_l2 g f o  n j  m) = gR m := by
  intro n
  induction n with
  | zero =>
    intro j  m
    rw [X3_copyFrom_l2]
    repeat' split
    all_goals simp only [mm, kR_X5_copyFrom]
  | succ n ih =>
    intro j  m
    rw [X3_copyFrom_l2]
    repeat' split
    all_goals simp only [mm, ih, kR_X5_copyFrom]
theorem kA_X3_copyFrom_l2 (g : mG) (f : Nat) (o : Nat)  : ∀ (n j : Nat)  (m : mM), gA (X3_copyFrom_l2 g f o  n j  m) = gA m := by
  intro n
  induction n with
  | zero =>
    intro j  m
    rw [X3_copyFrom_l2]
    repeat' split
    all_goals simp only [mm, kA_X5_copyFrom]
  | succ n ih =>
    intro j  m
    rw [X3_copyFrom_l2]
    repeat' split
    all_goals simp only [mm, ih, kA_X5_copyFrom]
theorem kQ_X3_copyFrom_l2 (g : mG) (f : Nat) (o : Nat)  : ∀ (n j : Nat)  (m : mM), gQ (X3_copyFrom_l2 g f o  n j  m) = gQ m := by
  intro n
  induction n with
  | zero =>
    intro j  m
    rw [X3_copyFrom_l2]
    repeat' split
    all_goals simp only [mm, kQ_X5_copyFrom]
  | succ n ih =>
    intro j  m
    rw [X3_copyFrom_l2]
    repeat' split
    all_goals simp only [mm, ih, kQ_X5_copyFrom]
theorem kL_X3_copyFrom_l2 (g : mG) (f : Nat) (o : Nat)  : ∀ (n j : Nat)  (m : mM), gL (X3_copyFrom_l2 g f o  n j  m) = gL m := by
  intro n
  induction n with
  | zero =>
    intro j  m
    rw [X3_copyFrom_l2]
    repeat' split
    all_goals simp only [mm, kL_X5_copyFrom]
  | succ n ih =>
    intro j  m
    rw [X3_copyFrom_l2]
    repeat' split
    all_goals simp only [mm, ih, kL_X5_copyFrom]
theorem kD_X3_copyFrom_l2 (g : mG) (f : Nat) (o : Nat)  : ∀ (n j : Nat)  (m : mM), gD (X3_copyFrom_l2 g f o  n j  m) = gD m := by
  intro n
  induction n with
  | zero =>
    intro j  m
    rw [X3_copyFrom_l2]
    repeat' split
    all_goals simp only [mm, kD_X5_copyFrom]
  | succ n ih =>
    intro j  m
    rw [X3_copyFrom_l2]
    repeat' split
    all_goals simp only [mm, ih, kD_X5_copyFrom]
theorem fr_X3_copyFrom_l2 (g : mG) (f : Nat) (o : Nat)   : ∀ (n j : Nat)  (m : mM) (hs : SF m f) (ho : SF m o), j + n = 4 → Fr f (f + 16) m (X3_copyFrom_l2 g f o  n j  m) := by
  intro n
  induction n with
  | zero =>
    intro j  m hs ho hj
    rw [X3_copyFrom_l2]
    exact ((((((((((((((((((Fr.rf).I (by first | omega | (have h3_ := n8_lt' (by assumption) hN8; omega) | (have h3_ := n4_lt' (by assumption) hH4; omega)))).I (by first | omega | (have h3_ := n8_lt' (by assumption) hN8; omega) | (have h3_ := n4_lt' (by assumption) hH4; omega)))).I (by first | omega | (have h3_ := n8_lt' (by assumption) hN8; omega) | (have h3_ := n4_lt' (by assumption) hH4; omega)))).I (by first | omega | (have h3_ := n8_lt' (by assumption) hN8; omega) | (have h3_ := n4_lt' (by assumption) hH4; omega)))).I (by first | omega | (have h3_ := n8_lt' (by assumption) hN8; omega) | (have h3_ := n4_lt' (by assumption) hH4; omega)))).I (by first | omega | (have h3_ := n8_lt' (by assumption) hN8; omega) | (have h3_ := n4_lt' (by assumption) hH4; omega)))).I (by first | omega | (have h3_ := n8_lt' (by assumption) hN8; omega) | (have h3_ := n4_lt' (by assumption) hH4; omega)))).I (by first | omega | (have h3_ := n8_lt' (by assumption) hN8; omega) | (have h3_ := n4_lt' (by assumption) hH4; omega)))).J (by first | omega | (have h3_ := n8_lt' (by assumption) hN8; omega) | (have h3_ := n4_lt' (by assumption) hH4; omega)))
  | succ n ih =>
    intro j  m hs ho hj
    rw [X3_copyFrom_l2]
    exact (((Fr.rf).tr (fr_X5_copyFrom g m (f + 12 + j) (o + 12 + j) ) (by first | omega | (have h3_ := n8_lt' (by assumption) hN8; omega) | (have h3_ := n4_lt' (by assumption) hH4; omega)) (by first | omega | (have h3_ := n8_lt' (by assumption) hN8; omega) | (have h3_ := n4_lt' (by assumption) hH4; omega)))).tr (ih (j + 1)  (X5_copyFrom_m g m (f + 12 + j) (o + 12 + j)) (hs.to (by simp only [mm, kK_X5_copyFrom]) (by simp [mm, kR_X5_copyFrom]) (by simp [mm, kR_X5_copyFrom]) (by simp [mm, kR_X5_copyFrom]) (by simp only [mm, kQ_X5_copyFrom])) (ho.to (by simp only [mm, kK_X5_copyFrom]) (by simp [mm, kR_X5_copyFrom]) (by simp [mm, kR_X5_copyFrom]) (by simp [mm, kR_X5_copyFrom]) (by simp only [mm, kQ_X5_copyFrom])) (by omega)) (Nat.le_refl _) (Nat.le_refl _)
def X3_copyFrom_l1 (g : mG) (f : Nat) (o : Nat)  : Nat → Nat → mM → mM
  | 0, j, m => X3_copyFrom_l2 g f o  4 0  m
  | n + 1, j, m => X3_copyFrom_l1 g f o  n (j + 1)  ((X7_copyFrom_m g m (pa m f j) (pa m o j)))
set_option maxHeartbeats 4000000 in
set_option maxRecDepth 100000 in
theorem lp_X3_copyFrom_l1 {l : Launch} {g : mG} {x : mCx} (hO : mO l g) (f : Nat) (o : Nat)   {pst : Option Value → mM → Prop} {XX : String → mM → Prop} (hX : mX l g x cX3_copyFrom yX3_copyFrom { frames := 2, cells := 0, slots := 0, locals := 41 } 3) (hZ : mZ g x (Option.none : Option FieldType) [] pst XX 0 0) : ∀ (n j : Nat)  (m : mM) (hs : SF m f) (ho : SF m o) (hj : j + n = 8) (hp : pst none (X3_copyFrom_l1 g f o  n j  m)), mV g x m 0 0 13 [(0, .ref f), (1, .ref o), (2, .int (nI j))] [] := by
  intro n
  induction n with
  | zero =>
    intro j  m hs ho hj hp
    refine v_iload_n (pc := 13) hX dX3_copyFrom_13 rfl ?_
    refine v_bipush (v := 8) (pc := 14) hX dX3_copyFrom_14 (by decide) ?_
    refine v_icmp_ge (tgt := 40) (pc := 16) hX dX3_copyFrom_16 (by decide) (fun c1 => ?_) (fun c1 => ?_)
    ·
      refine v_iconst (v := 0) (pc := 40) hX dX3_copyFrom_40 (by decide) ?_
      refine v_istore_n (pc := 41) hX dX3_copyFrom_41 (by decide) rfl ?_
      refine mV_sub (lv' := [(0, .ref f), (1, .ref o), (2, .int (nI 0))]) ⟨rfl, rfl, rfl, trivial⟩ ?_
      exact lp_X3_copyFrom_l2 hO f o   hX hZ 4 0  m hs ho (by omega) (by rw [X3_copyFrom_l1] at hp; exact hp)
    · exact absurd (show nI 8 ≤ nI j from nI_le (by omega) (by omega)) c1
  | succ n ih =>
    intro j  m hs ho hj hp
    refine v_iload_n (pc := 13) hX dX3_copyFrom_13 rfl ?_
    refine v_bipush (v := 8) (pc := 14) hX dX3_copyFrom_14 (by decide) ?_
    refine v_icmp_ge (tgt := 40) (pc := 16) hX dX3_copyFrom_16 (by decide) (fun c1 => ?_) (fun c1 => ?_)
    · exact absurd c1 (show ¬ nI 8 ≤ nI j from nI_ge (by omega) (by omega))
    ·
      refine v_aload_n (pc := 19) hX dX3_copyFrom_19 rfl ?_
      refine v_get (v := .ref (f + 2)) (pc := 20) hX dX3_copyFrom_20 hs.k (ci := 5) (r := vwC5) rfl 1 (by decide) wd_152 (fvR hs.r1) ?_
      refine v_iload_n (pc := 23) hX dX3_copyFrom_23 rfl ?_
      refine v_aaldR (q := pa m f j) (pc := 24) hX dX3_copyFrom_24 hs.k2 (by decide) (by decide) rfl (by omega) (by decide) (hs.qp (i := j) (by omega)) ?_
      refine v_aload_n (pc := 25) hX dX3_copyFrom_25 rfl ?_
      refine v_get (v := .ref (o + 2)) (pc := 26) hX dX3_copyFrom_26 ho.k (ci := 5) (r := vwC5) rfl 1 (by decide) wd_152 (fvR ho.r1) ?_
      refine v_iload_n (pc := 29) hX dX3_copyFrom_29 rfl ?_
      refine v_aaldR (q := pa m o j) (pc := 30) hX dX3_copyFrom_30 ho.k2 (by decide) (by decide) rfl (by omega) (by decide) (ho.qp (i := j) (by omega)) ?_
      refine v_callV (z := yX7_copyFrom) (pc := 31) hX dX3_copyFrom_31 (c_X7_copyFrom hO m (pa m f j) (pa m o j) (by exact (hs.kp (i := j) (by omega))) (by exact (ho.kp (i := j) (by omega)))) (hs.kp (i := j) (by omega)) rfl wd_423 wd_424 wd_425 wd_4 wd_426 ⟨by decide, by decide, (by decide +kernel : (parseMethodDescriptor yX7_copyFrom.desc).map (fun d => d.parameters.length) = some 1)⟩ rfl (Nat.le_of_ble_eq_true rfl) ⟨⟨by decide, by decide⟩, by decide, by decide⟩ (fun E m9 h9 => h9.elim) (fun r9 m9 h9 => ?_)
      obtain ⟨rfl, h8⟩ := h9
      replace h8 := h8.symm
      subst h8
      show mV g x _ _ _ _ _ []
      refine v_iinc (w := nI (j + 1)) (pc := 34) hX dX3_copyFrom_34 rfl (nI_1 _) (by decide) rfl ?_
      refine v_goto (tgt := 13) (pc := 37) hX dX3_copyFrom_37 (by decide) ?_
      refine mV_sub (lv' := [(0, .ref f), (1, .ref o), (2, .int (nI (j + 1)))]) ⟨rfl, rfl, rfl, trivial⟩ ?_
      exact ih (j + 1)  ((X7_copyFrom_m g m (pa m f j) (pa m o j))) (hs.to (by simp only [mm, kK_X7_copyFrom]) (by simp [mm, kR_X7_copyFrom]) (by simp [mm, kR_X7_copyFrom]) (by simp [mm, kR_X7_copyFrom]) (by simp only [mm, kQ_X7_copyFrom])) (ho.to (by simp only [mm, kK_X7_copyFrom]) (by simp [mm, kR_X7_copyFrom]) (by simp [mm, kR_X7_copyFrom]) (by simp [mm, kR_X7_copyFrom]) (by simp only [mm, kQ_X7_copyFrom])) (by omega) (by rw [X3_copyFrom_l1] at hp; exact hp)
theorem kK_X3_copyFrom_l1 (g : mG) (f : Nat) (o : Nat)  : ∀ (n j : Nat)  (m : mM), gK (X3_copyFrom_l1 g f o  n j  m) = gK m := by
  intro n
  induction n with
  | zero =>
    intro j  m
    rw [X3_copyFrom_l1]
    repeat' split
    all_goals simp only [mm, kK_X3_copyFrom_l2, kK_X7_copyFrom]
  | succ n ih =>
    intro j  m
    rw [X3_copyFrom_l1]
    repeat' split
    all_goals simp only [mm, ih, kK_X3_copyFrom_l2, kK_X7_copyFrom]
theorem kN_X3_copyFrom_l1 (g : mG) (f : Nat) (o : Nat)  : ∀ (n j : Nat)  (m : mM), gN (X3_copyFrom_l1 g f o  n j  m) = gN m := by
  intro n
  induction n with
  | zero =>
    intro j  m
    rw [X3_copyFrom_l1]
    repeat' split
    all_goals simp only [mm, kN_X3_copyFrom_l2, kN_X7_copyFrom]
  | succ n ih =>
    intro j  m
    rw [X3_copyFrom_l1]
    repeat' split
    all_goals simp only [mm, ih, kN_X3_copyFrom_l2, kN_X7_copyFrom]
theorem kI_X3_copyFrom_l1 (g : mG) (f : Nat) (o : Nat)  (k a9 : Nat) (h0 : k ≠ 163) (h1 : k ≠ 164) (h2 : k ≠ 165) (h3 : k ≠ 166) (h4 : k ≠ 167) (h5 : k ≠ 168) (h6 : k ≠ 169) (h7 : k ≠ 170) (h8 : k ≠ 224) (h9 : k ≠ 225) (h10 : k ≠ 288) (h11 : k ≠ 289) (h12 : k ≠ 290) (h13 : k ≠ 291) (h14 : k ≠ 292) (h15 : k ≠ 293) (h16 : k ≠ 294) : ∀ (n j : Nat)  (m : mM), gI (X3_copyFrom_l1 g f o  n j  m) k a9 = gI m k a9 := by
  intro n
  induction n with
  | zero =>
    intro j  m
    rw [X3_copyFrom_l1]
    repeat' split
    all_goals simp [mm, kI_X3_copyFrom_l2, kI_X7_copyFrom, h0, h1, h2, h3, h4, h5, h6, h7, h8, h9, h10, h11, h12, h13, h14, h15, h16]
  | succ n ih =>
    intro j  m
    rw [X3_copyFrom_l1]
    repeat' split
    all_goals simp [mm, ih, kI_X3_copyFrom_l2, kI_X7_copyFrom, h0, h1, h2, h3, h4, h5, h6, h7, h8, h9, h10, h11, h12, h13, h14, h15, h16]
theorem kJ_X3_copyFrom_l1 (g : mG) (f : Nat) (o : Nat)  (k a9 : Nat) (h0 : k ≠ 171) : ∀ (n j : Nat)  (m : mM), gJ (X3_copyFrom_l1 g f o  n j  m) k a9 = gJ m k a9 := by
  intro n
  induction n with
  | zero =>
    intro j  m
    rw [X3_copyFrom_l1]
    repeat' split
    all_goals simp [mm, kJ_X3_copyFrom_l2, kJ_X7_copyFrom, h0]
  | succ n ih =>
    intro j  m
    rw [X3_copyFrom_l1]
    repeat' split
    all_goals simp [mm, ih, kJ_X3_copyFrom_l2, kJ_X7_copyFrom, h0]
theorem kR_X3_copyFrom_l1 (g : mG) (f : Nat) (o : Nat)  (k a9 : Nat) (h0 : k ≠ 295) : ∀ (n j : Nat)  (m : mM), gR (X3_copyFrom_l1 g f o  n j  m) k a9 = gR m k a9 := by
  intro n
  induction n with
  | zero =>
    intro j  m
    rw [X3_copyFrom_l1]
    repeat' split
    all_goals simp [mm, kR_X3_copyFrom_l2, kR_X7_copyFrom, h0]
  | succ n ih =>
    intro j  m
    rw [X3_copyFrom_l1]
    repeat' split
    all_goals simp [mm, ih, kR_X3_copyFrom_l2, kR_X7_copyFrom, h0]
theorem kA_X3_copyFrom_l1 (g : mG) (f : Nat) (o : Nat)  : ∀ (n j : Nat)  (m : mM), gA (X3_copyFrom_l1 g f o  n j  m) = gA m := by
  intro n
  induction n with
  | zero =>
    intro j  m
    rw [X3_copyFrom_l1]
    repeat' split
    all_goals simp only [mm, kA_X3_copyFrom_l2, kA_X7_copyFrom]
  | succ n ih =>
    intro j  m
    rw [X3_copyFrom_l1]
    repeat' split
    all_goals simp only [mm, ih, kA_X3_copyFrom_l2, kA_X7_copyFrom]
theorem kQ_X3_copyFrom_l1 (g : mG) (f : Nat) (o : Nat)  : ∀ (n j : Nat)  (m : mM), gQ (X3_copyFrom_l1 g f o  n j  m) = gQ m := by
  intro n
  induction n with
  | zero =>
    intro j  m
    rw [X3_copyFrom_l1]
    repeat' split
    all_goals simp only [mm, kQ_X3_copyFrom_l2, kQ_X7_copyFrom]
  | succ n ih =>
    intro j  m
    rw [X3_copyFrom_l1]
    repeat' split
    all_goals simp only [mm, ih, kQ_X3_copyFrom_l2, kQ_X7_copyFrom]
theorem kL_X3_copyFrom_l1 (g : mG) (f : Nat) (o : Nat)  : ∀ (n j : Nat)  (m : mM), gL (X3_copyFrom_l1 g f o  n j  m) = gL m := by
  intro n
  induction n with
  | zero =>
    intro j  m
    rw [X3_copyFrom_l1]
    repeat' split
    all_goals simp only [mm, kL_X3_copyFrom_l2, kL_X7_copyFrom]
  | succ n ih =>
    intro j  m
    rw [X3_copyFrom_l1]
    repeat' split
    all_goals simp only [mm, ih, kL_X3_copyFrom_l2, kL_X7_copyFrom]
theorem kD_X3_copyFrom_l1 (g : mG) (f : Nat) (o : Nat)  : ∀ (n j : Nat)  (m : mM), gD (X3_copyFrom_l1 g f o  n j  m) = gD m := by
  intro n
  induction n with
  | zero =>
    intro j  m
    rw [X3_copyFrom_l1]
    repeat' split
    all_goals simp only [mm, kD_X3_copyFrom_l2, kD_X7_copyFrom]
  | succ n ih =>
    intro j  m
    rw [X3_copyFrom_l1]
    repeat' split
    all_goals simp only [mm, ih, kD_X3_copyFrom_l2, kD_X7_copyFrom]
theorem fr_X3_copyFrom_l1 (g : mG) (f : Nat) (o : Nat)   : ∀ (n j : Nat)  (m : mM) (hs : SF m f) (ho : SF m o), j + n = 8 → Fr f (f + 16) m (X3_copyFrom_l1 g f o  n j  m) := by
  intro n
  induction n with
  | zero =>
    intro j  m hs ho hj
    rw [X3_copyFrom_l1]
    exact (Fr.rf).tr (fr_X3_copyFrom_l2 g f o   4 0  m hs ho (by omega)) (Nat.le_refl _) (Nat.le_refl _)
  | succ n ih =>
    intro j  m hs ho hj
    rw [X3_copyFrom_l1]
    exact (((Fr.rf).tr (fr_X7_copyFrom g m (pa m f j) (pa m o j) ) (by have h1_ := (hs.lo (i := j) (by first | omega | (have h3_ := n8_lt' (by assumption) hN8; omega) | (have h3_ := n4_lt' (by assumption) hH4; omega))); omega) (by have h2_ := (hs.hi (i := j) (by first | omega | (have h3_ := n8_lt' (by assumption) hN8; omega) | (have h3_ := n4_lt' (by assumption) hH4; omega))); omega))).tr (ih (j + 1)  (X7_copyFrom_m g m (pa m f j) (pa m o j)) (hs.to (by simp only [mm, kK_X7_copyFrom]) (by simp [mm, kR_X7_copyFrom]) (by simp [mm, kR_X7_copyFrom]) (by simp [mm, kR_X7_copyFrom]) (by simp only [mm, kQ_X7_copyFrom])) (ho.to (by simp only [mm, kK_X7_copyFrom]) (by simp [mm, kR_X7_copyFrom]) (by simp [mm, kR_X7_copyFrom]) (by simp [mm, kR_X7_copyFrom]) (by simp only [mm, kQ_X7_copyFrom])) (by omega)) (Nat.le_refl _) (Nat.le_refl _)
def X3_copyFrom_m (g : mG) (m : mM) (f : Nat) (o : Nat)  : mM := X3_copyFrom_l1 g f o  8 0  ((X4_copyFrom_m g m (f + 1) (o + 1)))
theorem kK_X3_copyFrom (g : mG) (m : mM) (f : Nat) (o : Nat)  : gK (X3_copyFrom_m g m f o ) = gK m := by
  unfold X3_copyFrom_m
  repeat' split
  all_goals simp only [mm, kK_X3_copyFrom_l1, kK_X4_copyFrom]
theorem kN_X3_copyFrom (g : mG) (m : mM) (f : Nat) (o : Nat)  : gN (X3_copyFrom_m g m f o ) = gN m := by
  unfold X3_copyFrom_m
  repeat' split
  all_goals simp only [mm, kN_X3_copyFrom_l1, kN_X4_copyFrom]
theorem kI_X3_copyFrom (g : mG) (m : mM) (f : Nat) (o : Nat)  (k a9 : Nat) (h0 : k ≠ 163) (h1 : k ≠ 164) (h2 : k ≠ 165) (h3 : k ≠ 166) (h4 : k ≠ 167) (h5 : k ≠ 168) (h6 : k ≠ 169) (h7 : k ≠ 170) (h8 : k ≠ 192) (h9 : k ≠ 193) (h10 : k ≠ 194) (h11 : k ≠ 224) (h12 : k ≠ 225) (h13 : k ≠ 288) (h14 : k ≠ 289) (h15 : k ≠ 290) (h16 : k ≠ 291) (h17 : k ≠ 292) (h18 : k ≠ 293) (h19 : k ≠ 294) : gI (X3_copyFrom_m g m f o ) k a9 = gI m k a9 := by
  unfold X3_copyFrom_m
  repeat' split
  all_goals simp [mm, kI_X3_copyFrom_l1, kI_X4_copyFrom, h0, h1, h2, h3, h4, h5, h6, h7, h8, h9, h10, h11, h12, h13, h14, h15, h16, h17, h18, h19]
theorem kJ_X3_copyFrom (g : mG) (m : mM) (f : Nat) (o : Nat)  (k a9 : Nat) (h0 : k ≠ 171) (h1 : k ≠ 195) : gJ (X3_copyFrom_m g m f o ) k a9 = gJ m k a9 := by
  unfold X3_copyFrom_m
  repeat' split
  all_goals simp [mm, kJ_X3_copyFrom_l1, kJ_X4_copyFrom, h0, h1]
theorem kR_X3_copyFrom (g : mG) (m : mM) (f : Nat) (o : Nat)  (k a9 : Nat) (h0 : k ≠ 295) : gR (X3_copyFrom_m g m f o ) k a9 = gR m k a9 := by
  unfold X3_copyFrom_m
  repeat' split
  all_goals simp [mm, kR_X3_copyFrom_l1, kR_X4_copyFrom, h0]
theorem kA_X3_copyFrom (g : mG) (m : mM) (f : Nat) (o : Nat)  : gA (X3_copyFrom_m g m f o ) = gA m := by
  unfold X3_copyFrom_m
  repeat' split
  all_goals simp only [mm, kA_X3_copyFrom_l1, kA_X4_copyFrom]
theorem kQ_X3_copyFrom (g : mG) (m : mM) (f : Nat) (o : Nat)  : gQ (X3_copyFrom_m g m f o ) = gQ m := by
  unfold X3_copyFrom_m
  repeat' split
  all_goals simp only [mm, kQ_X3_copyFrom_l1, kQ_X4_copyFrom]
theorem kL_X3_copyFrom (g : mG) (m : mM) (f : Nat) (o : Nat)  : gL (X3_copyFrom_m g m f o ) = gL m := by
  unfold X3_copyFrom_m
  repeat' split
  all_goals simp only [mm, kL_X3_copyFrom_l1, kL_X4_copyFrom]
theorem kD_X3_copyFrom (g : mG) (m : mM) (f : Nat) (o : Nat)  : gD (X3_copyFrom_m g m f o ) = gD m := by
  unfold X3_copyFrom_m
  repeat' split
  all_goals simp only [mm, kD_X3_copyFrom_l1, kD_X4_copyFrom]
theorem fr_X3_copyFrom (g : mG) (m : mM) (f : Nat) (o : Nat)  (hs : SF m f) (ho : SF m o) : Fr f (f + 16) m (X3_copyFrom_m g m f o ) := by
  unfold X3_copyFrom_m
  exact (((Fr.rf).tr (fr_X4_copyFrom g m (f + 1) (o + 1) ) (by first | omega | (have h3_ := n8_lt' (by assumption) hN8; omega) | (have h3_ := n4_lt' (by assumption) hH4; omega)) (by first | omega | (have h3_ := n8_lt' (by assumption) hN8; omega) | (have h3_ := n4_lt' (by assumption) hH4; omega)))).tr (fr_X3_copyFrom_l1 g f o   8 0  (X4_copyFrom_m g m (f + 1) (o + 1)) (hs.to (by simp only [mm, kK_X4_copyFrom]) (by simp [mm, kR_X4_copyFrom]) (by simp [mm, kR_X4_copyFrom]) (by simp [mm, kR_X4_copyFrom]) (by simp only [mm, kQ_X4_copyFrom])) (ho.to (by simp only [mm, kK_X4_copyFrom]) (by simp [mm, kR_X4_copyFrom]) (by simp [mm, kR_X4_copyFrom]) (by simp [mm, kR_X4_copyFrom]) (by simp only [mm, kQ_X4_copyFrom])) (by omega)) (Nat.le_refl _) (Nat.le_refl _)
set_option maxHeartbeats 4000000 in
set_option maxRecDepth 100000 in
theorem c_X3_copyFrom {l : Launch} {g : mG} (hO : mO l g) (m : mM) (f : Nat) (o : Nat)  (hs : SF m f) (ho : SF m o) : mT l g yX3_copyFrom (.code yX3_copyFrom cX3_copyFrom 3 (Option.none : Option FieldType)) 2 41 0 0 [.ref f, .ref o] m (fun r m' => r = none ∧ m' = X3_copyFrom_m g m f o ) nX := by
  refine mT_of hO (by decide) (Nat.le_of_ble_eq_true rfl) (fun x hX hZ => ?_)
  show mV g x m 0 0 0 [(0, .ref f), (1, .ref o)] []
  refine v_aload_n (pc := 0) hX dX3_copyFrom_0 rfl ?_
  refine v_get (v := .ref (f + 1)) (pc := 1) hX dX3_copyFrom_1 hs.k (ci := 5) (r := vwC5) rfl 0 (by decide) wd_149 (fvR hs.r0) ?_
  refine v_aload_n (pc := 4) hX dX3_copyFrom_4 rfl ?_
  refine v_get (v := .ref (o + 1)) (pc := 5) hX dX3_copyFrom_5 ho.k (ci := 5) (r := vwC5) rfl 0 (by decide) wd_149 (fvR ho.r0) ?_
  refine v_callV (z := yX4_copyFrom) (pc := 8) hX dX3_copyFrom_8 (c_X4_copyFrom hO m (f + 1) (o + 1) (by exact hs.k1) (by exact ho.k1)) hs.k1 rfl wd_419 wd_420 wd_421 wd_3 wd_422 ⟨by decide, by decide, (by decide +kernel : (parseMethodDescriptor yX4_copyFrom.desc).map (fun d => d.parameters.length) = some 1)⟩ rfl (Nat.le_of_ble_eq_true rfl) ⟨⟨by decide, by decide⟩, by decide, by decide⟩ (fun E m9 h9 => h9.elim) (fun r9 m9 h9 => ?_)
  obtain ⟨rfl, h8⟩ := h9
  replace h8 := h8.symm
  subst h8
  show mV g x _ _ _ _ _ []
  refine v_iconst (v := 0) (pc := 11) hX dX3_copyFrom_11 (by decide) ?_
  refine v_istore_n (pc := 12) hX dX3_copyFrom_12 (by decide) rfl ?_
  refine mV_sub (lv' := [(0, .ref f), (1, .ref o), (2, .int (nI 0))]) ⟨rfl, rfl, rfl, trivial⟩ ?_
  exact lp_X3_copyFrom_l1 hO f o   hX hZ 8 0  ((X4_copyFrom_m g m (f + 1) (o + 1))) (hs.to (by simp only [mm, kK_X4_copyFrom]) (by simp [mm, kR_X4_copyFrom]) (by simp [mm, kR_X4_copyFrom]) (by simp [mm, kR_X4_copyFrom]) (by simp only [mm, kQ_X4_copyFrom])) (ho.to (by simp only [mm, kK_X4_copyFrom]) (by simp [mm, kR_X4_copyFrom]) (by simp [mm, kR_X4_copyFrom]) (by simp [mm, kR_X4_copyFrom]) (by simp only [mm, kQ_X4_copyFrom])) (by omega) ⟨rfl, (by rw [X3_copyFrom_m])⟩
def X3_rankOf_l1 (g : mG) (m : mM) (f : Nat) (p : Nat) (N : Nat) : Nat → Nat → Int32 → Int32
  | 0, j, s => s
  | n + 1, j, s => if (X7_ranksBefore_r g m (pa m f j) p) = 0 then (X3_rankOf_l1 g m f p N n (j + 1) s ) else (X3_rankOf_l1 g m f p N n (j + 1) (s + 1) )
set_option maxHeartbeats 4000000 in
set_option maxRecDepth 100000 in
theorem lp_X3_rankOf_l1 {l : Launch} {g : mG} {x : mCx} (hO : mO l g) {m : mM} (f : Nat) (p : Nat) (N : Nat) (hs : SF m f) (hN : gI m 163 f = nI N) (hN8 : N ≤ 8) (hk : gK m p = some (.inl 9)) {pst : Option Value → mM → Prop} {XX : String → mM → Prop} (hX : mX l g x cX3_rankOf yX3_rankOf { frames := 2, cells := 0, slots := 0, locals := 41 } 4) (hZ : mZ g x (Option.some FieldType.int) [] pst XX 0 0) : ∀ (n j : Nat) (s : Int32)  (hj : j + n = N) (hp : pst (some (.int (X3_rankOf_l1 g m f p N n j s ))) m), mV g x m 0 0 4 [(0, .ref f), (1, .ref p), (2, .int s), (3, .int (nI j))] [] := by
  intro n
  induction n with
  | zero =>
    intro j s   hj hp
    refine v_iload_n (pc := 4) hX dX3_rankOf_4 rfl ?_
    refine v_aload_n (pc := 5) hX dX3_rankOf_5 rfl ?_
    refine v_get (v := .int (nI N)) (pc := 6) hX dX3_rankOf_6 hs.k (ci := 5) (r := vwC5) rfl 3 (by decide) wd_155 (congrArg Value.int hN) ?_
    refine v_icmp_ge (tgt := 34) (pc := 9) hX dX3_rankOf_9 (by decide) (fun c1 => ?_) (fun c1 => ?_)
    ·
      refine v_iload_n (pc := 34) hX dX3_rankOf_34 rfl ?_
      exact v_iret (pc := 35) hX hZ dX3_rankOf_35 (by decide) (by decide) (by rw [X3_rankOf_l1] at hp; exact hp)
    · exact absurd (nI_le (by omega) (by omega)) c1
  | succ n ih =>
    intro j s   hj hp
    refine v_iload_n (pc := 4) hX dX3_rankOf_4 rfl ?_
    refine v_aload_n (pc := 5) hX dX3_rankOf_5 rfl ?_
    refine v_get (v := .int (nI N)) (pc := 6) hX dX3_rankOf_6 hs.k (ci := 5) (r := vwC5) rfl 3 (by decide) wd_155 (congrArg Value.int hN) ?_
    refine v_icmp_ge (tgt := 34) (pc := 9) hX dX3_rankOf_9 (by decide) (fun c1 => ?_) (fun c1 => ?_)
    · exact absurd c1 (nI_ge (by omega) (by omega))
    ·
      refine v_aload_n (pc := 12) hX dX3_rankOf_12 rfl ?_
      refine v_get (v := .ref (f + 2)) (pc := 13) hX dX3_rankOf_13 hs.k (ci := 5) (r := vwC5) rfl 1 (by decide) wd_152 (fvR hs.r1) ?_
      refine v_iload_n (pc := 16) hX dX3_rankOf_16 rfl ?_
      refine v_aaldR (q := pa m f j) (pc := 17) hX dX3_rankOf_17 hs.k2 (by decide) (by decide) rfl (by omega) (by decide) (hs.qp (by omega)) ?_
      refine v_aload_n (pc := 18) hX dX3_rankOf_18 rfl ?_
      refine v_callV (z := yX7_ranksBefore) (pc := 19) hX dX3_rankOf_19 (c_X7_ranksBefore hO m (pa m f j) p (by exact (hs.kp (i := j) (by omega))) (by exact hk)) (hs.kp (i := j) (by omega)) rfl wd_1264 wd_1265 wd_1266 wd_4 wd_1267 ⟨by decide, by decide, (by decide +kernel : (parseMethodDescriptor yX7_ranksBefore.desc).map (fun d => d.parameters.length) = some 1)⟩ rfl (Nat.le_of_ble_eq_true rfl) ⟨⟨by decide, by decide⟩, by decide, by decide⟩ (fun E m9 h9 => h9.elim) (fun r9 m9 h9 => ?_)
      obtain ⟨rfl, h8⟩ := h9
      replace h8 := h8.symm
      subst h8
      show mV g x _ _ _ _ _ [.int (X7_ranksBefore_r g m (pa m f j) p)]
      refine v_if_eq (tgt := 28) (pc := 22) hX dX3_rankOf_22 (by decide) (fun c2 => ?_) (fun c2 => ?_)
      ·
        refine v_iinc (w := nI (j + 1)) (pc := 28) hX dX3_rankOf_28 rfl (nI_1 _) (by decide) rfl ?_
        refine v_goto (tgt := 4) (pc := 31) hX dX3_rankOf_31 (by decide) ?_
        refine mV_sub (lv' := [(0, .ref f), (1, .ref p), (2, .int s), (3, .int (nI (j + 1)))]) ⟨rfl, rfl, rfl, rfl, trivial⟩ ?_
        exact ih (j + 1) s   (by omega) (by rw [X3_rankOf_l1, if_pos c2] at hp; exact hp)
      ·
        refine v_iinc (w := s + 1) (pc := 25) hX dX3_rankOf_25 rfl rfl (by decide) rfl ?_
        refine v_iinc (w := nI (j + 1)) (pc := 28) hX dX3_rankOf_28 rfl (nI_1 _) (by decide) rfl ?_
        refine v_goto (tgt := 4) (pc := 31) hX dX3_rankOf_31 (by decide) ?_
        refine mV_sub (lv' := [(0, .ref f), (1, .ref p), (2, .int (s + 1)), (3, .int (nI (j + 1)))]) ⟨rfl, rfl, rfl, rfl, trivial⟩ ?_
        exact ih (j + 1) (s + 1)   (by omega) (by rw [X3_rankOf_l1, if_neg c2] at hp; exact hp)

def X3_rankOf_r (g : mG) (m : mM) (f : Nat) (p : Nat) (N : Nat) : Int32 := X3_rankOf_l1 g m f p N N 0 0 

set_option maxHeartbeats 4000000 in
set_option maxRecDepth 100000 in
theorem c_X3_rankOf {l : Launch} {g : mG} (hO : mO l g) (m : mM) (f : Nat) (p : Nat) (N : Nat) (hs : SF m f) (hN : gI m 163 f = nI N) (hN8 : N ≤ 8) (hk : gK m p = some (.inl 9)) : mT l g yX3_rankOf (.code yX3_rankOf cX3_rankOf 4 (Option.some FieldType.int)) 2 41 0 0 [.ref f, .ref p] m (fun r m' => r = some (.int (X3_rankOf_r g m f p N)) ∧ m' = m) nX := by
  refine mT_of hO (by decide) (Nat.le_of_ble_eq_true rfl) (fun x hX hZ => ?_)
  show mV g x m 0 0 0 [(0, .ref f), (1, .ref p)] []
  refine v_iconst (v := 0) (pc := 0) hX dX3_rankOf_0 (by decide) ?_
  refine v_istore_n (pc := 1) hX dX3_rankOf_1 (by decide) rfl ?_
  refine v_iconst (v := 0) (pc := 2) hX dX3_rankOf_2 (by decide) ?_
  refine v_istore_n (pc := 3) hX dX3_rankOf_3 (by decide) rfl ?_
  refine mV_sub (lv' := [(0, .ref f), (1, .ref p), (2, .int 0), (3, .int (nI 0))]) ⟨rfl, rfl, rfl, rfl, trivial⟩ ?_
  exact lp_X3_rankOf_l1 hO f p N hs hN hN8 hk hX hZ N 0 0   (by omega) ⟨by rw [X3_rankOf_r], rfl⟩
def X3_pieceRanked_l1 (g : mG) (m : mM) (f : Nat) (a : Int32) (N : Nat) : Nat → Nat → Option Nat
  | 0, j => none
  | n + 1, j => if (X3_rankOf_r g m f (pa m f j) N) = a then (some (pa m f j)) else (X3_pieceRanked_l1 g m f a N n (j + 1)  )
set_option maxHeartbeats 4000000 in
set_option maxRecDepth 100000 in
theorem lp_X3_pieceRanked_l1 {l : Launch} {g : mG} {x : mCx} (hO : mO l g) {m : mM} (f : Nat) (a : Int32) (N : Nat) (hs : SF m f) (hN : gI m 163 f = nI N) (hN8 : N ≤ 8) {pst : Option Value → mM → Prop} {XX : String → mM → Prop} (hX : mX l g x cX3_pieceRanked yX3_pieceRanked { frames := 3, cells := 0, slots := 0, locals := 64 } 3) (hZ : mZ g x (Option.some (FieldType.object "BirdForge$Piece")) [] pst XX 0 0) : ∀ (n j : Nat)   (hj : j + n = N) (hp : pst (some (va_rf (X3_pieceRanked_l1 g m f a N n j  ))) m), mV g x m 0 0 2 [(0, .ref f), (1, .int a), (2, .int (nI j))] [] := by
  intro n
  induction n with
  | zero =>
    intro j    hj hp
    refine v_iload_n (pc := 2) hX dX3_pieceRanked_2 rfl ?_
    refine v_aload_n (pc := 3) hX dX3_pieceRanked_3 rfl ?_
    refine v_get (v := .int (nI N)) (pc := 4) hX dX3_pieceRanked_4 hs.k (ci := 5) (r := vwC5) rfl 3 (by decide) wd_155 (congrArg Value.int hN) ?_
    refine v_icmp_ge (tgt := 37) (pc := 7) hX dX3_pieceRanked_7 (by decide) (fun c1 => ?_) (fun c1 => ?_)
    ·
      refine v_aconst_null (pc := 37) hX dX3_pieceRanked_37 ?_
      exact v_aret (v := none) (pc := 38) hX hZ dX3_pieceRanked_38 (Or.inl ⟨_, rfl⟩) (by decide) (by decide) (by rw [X3_pieceRanked_l1] at hp; exact hp)
    · exact absurd (nI_le (by omega) (by omega)) c1
  | succ n ih =>
    intro j    hj hp
    refine v_iload_n (pc := 2) hX dX3_pieceRanked_2 rfl ?_
    refine v_aload_n (pc := 3) hX dX3_pieceRanked_3 rfl ?_
    refine v_get (v := .int (nI N)) (pc := 4) hX dX3_pieceRanked_4 hs.k (ci := 5) (r := vwC5) rfl 3 (by decide) wd_155 (congrArg Value.int hN) ?_
    refine v_icmp_ge (tgt := 37) (pc := 7) hX dX3_pieceRanked_7 (by decide) (fun c1 => ?_) (fun c1 => ?_)
    · exact absurd c1 (nI_ge (by omega) (by omega))
    ·
      refine v_aload_n (pc := 10) hX dX3_pieceRanked_10 rfl ?_
      refine v_aload_n (pc := 11) hX dX3_pieceRanked_11 rfl ?_
      refine v_get (v := .ref (f + 2)) (pc := 12) hX dX3_pieceRanked_12 hs.k (ci := 5) (r := vwC5) rfl 1 (by decide) wd_152 (fvR hs.r1) ?_
      refine v_iload_n (pc := 15) hX dX3_pieceRanked_15 rfl ?_
      refine v_aaldR (q := pa m f j) (pc := 16) hX dX3_pieceRanked_16 hs.k2 (by decide) (by decide) rfl (by omega) (by decide) (hs.qp (by omega)) ?_
      refine v_callV (z := yX3_rankOf) (pc := 17) hX dX3_pieceRanked_17 (c_X3_rankOf hO m f (pa m f j) N hs hN hN8 (hs.kp (i := j) (by omega))) hs.k rfl wd_1260 wd_1262 wp_8 wd_2 wd_1263 ⟨by decide, by decide, (by decide +kernel : (parseMethodDescriptor yX3_rankOf.desc).map (fun d => d.parameters.length) = some 1)⟩ rfl (Nat.le_of_ble_eq_true rfl) ⟨⟨by decide, by decide⟩, by decide, by decide⟩ (fun E m9 h9 => h9.elim) (fun r9 m9 h9 => ?_)
      obtain ⟨rfl, h8⟩ := h9
      replace h8 := h8.symm
      subst h8
      show mV g x _ _ _ _ _ [.int (X3_rankOf_r g m f (pa m f j) N)]
      refine v_iload_n (pc := 20) hX dX3_pieceRanked_20 rfl ?_
      refine v_icmp_ne (tgt := 31) (pc := 21) hX dX3_pieceRanked_21 (by decide) (fun c2 => ?_) (fun c2 => ?_)
      ·
        refine v_iinc (w := nI (j + 1)) (pc := 31) hX dX3_pieceRanked_31 rfl (nI_1 _) (by decide) rfl ?_
        refine v_goto (tgt := 2) (pc := 34) hX dX3_pieceRanked_34 (by decide) ?_
        refine mV_sub (lv' := [(0, .ref f), (1, .int a), (2, .int (nI (j + 1)))]) ⟨rfl, rfl, rfl, trivial⟩ ?_
        exact ih (j + 1)    (by omega) (by rw [X3_pieceRanked_l1, if_neg c2] at hp; exact hp)
      ·
        refine v_aload_n (pc := 24) hX dX3_pieceRanked_24 rfl ?_
        refine v_get (v := .ref (f + 2)) (pc := 25) hX dX3_pieceRanked_25 hs.k (ci := 5) (r := vwC5) rfl 1 (by decide) wd_152 (fvR hs.r1) ?_
        refine v_iload_n (pc := 28) hX dX3_pieceRanked_28 rfl ?_
        refine v_aaldR (q := pa m f j) (pc := 29) hX dX3_pieceRanked_29 hs.k2 (by decide) (by decide) rfl (by omega) (by decide) (hs.qp (by omega)) ?_
        exact v_aret (v := some (pa m f j)) (pc := 30) hX hZ dX3_pieceRanked_30 (Or.inl ⟨_, rfl⟩) (by decide) (by decide) (by rw [X3_pieceRanked_l1, if_pos c2] at hp; exact hp)

def X3_pieceRanked_r (g : mG) (m : mM) (f : Nat) (a : Int32) (N : Nat) : Option Nat := X3_pieceRanked_l1 g m f a N N 0  

set_option maxHeartbeats 4000000 in
set_option maxRecDepth 100000 in
theorem c_X3_pieceRanked {l : Launch} {g : mG} (hO : mO l g) (m : mM) (f : Nat) (a : Int32) (N : Nat) (hs : SF m f) (hN : gI m 163 f = nI N) (hN8 : N ≤ 8) : mT l g yX3_pieceRanked (.code yX3_pieceRanked cX3_pieceRanked 3 (Option.some (FieldType.object "BirdForge$Piece"))) 3 64 0 0 [.ref f, .int a] m (fun r m' => r = some (va_rf (X3_pieceRanked_r g m f a N)) ∧ m' = m) nX := by
  refine mT_of hO (by decide) (Nat.le_of_ble_eq_true rfl) (fun x hX hZ => ?_)
  show mV g x m 0 0 0 [(0, .ref f), (1, .int a)] []
  refine v_iconst (v := 0) (pc := 0) hX dX3_pieceRanked_0 (by decide) ?_
  refine v_istore_n (pc := 1) hX dX3_pieceRanked_1 (by decide) rfl ?_
  refine mV_sub (lv' := [(0, .ref f), (1, .int a), (2, .int (nI 0))]) ⟨rfl, rfl, rfl, trivial⟩ ?_
  exact lp_X3_pieceRanked_l1 hO f a N hs hN hN8 hX hZ N 0    (by omega) ⟨by rw [X3_pieceRanked_r], rfl⟩
def X3_wearsMatchStrokes_l1 (g : mG) (m : mM) (f : Nat) (H : Nat) : Nat → Nat → Int32 → Int32
  | 0, j, s => if s = (gI m 167 f) then (1) else (0)
  | n + 1, j, s => X3_wearsMatchStrokes_l1 g m f H n (j + 1) (s + (gI m 225 (f + 12 + j))) 
set_option maxHeartbeats 4000000 in
set_option maxRecDepth 100000 in
theorem lp_X3_wearsMatchStrokes_l1 {l : Launch} {g : mG} {x : mCx} (hO : mO l g) {m : mM} (f : Nat) (H : Nat) (hs : SF m f) (hH : gI m 164 f = nI H) (hH4 : H ≤ 4) {pst : Option Value → mM → Prop} {XX : String → mM → Prop} (hX : mX l g x cX3_wearsMatchStrokes yX3_wearsMatchStrokes { frames := 1, cells := 0, slots := 0, locals := 20 } 3) (hZ : mZ g x (Option.some FieldType.boolean) [] pst XX 0 0) : ∀ (n j : Nat) (s : Int32)  (hj : j + n = H) (hp : pst (some (.int (X3_wearsMatchStrokes_l1 g m f H n j s ))) m), mV g x m 0 0 4 [(0, .ref f), (1, .int s), (2, .int (nI j))] [] := by
  intro n
  induction n with
  | zero =>
    intro j s   hj hp
    refine v_iload_n (pc := 4) hX dX3_wearsMatchStrokes_4 rfl ?_
    refine v_aload_n (pc := 5) hX dX3_wearsMatchStrokes_5 rfl ?_
    refine v_get (v := .int (nI H)) (pc := 6) hX dX3_wearsMatchStrokes_6 hs.k (ci := 5) (r := vwC5) rfl 4 (by decide) wd_158 (congrArg Value.int hH) ?_
    refine v_icmp_ge (tgt := 30) (pc := 9) hX dX3_wearsMatchStrokes_9 (by decide) (fun c1 => ?_) (fun c1 => ?_)
    ·
      refine v_iload_n (pc := 30) hX dX3_wearsMatchStrokes_30 rfl ?_
      refine v_aload_n (pc := 31) hX dX3_wearsMatchStrokes_31 rfl ?_
      refine v_get (v := .int (gI m 167 f)) (pc := 32) hX dX3_wearsMatchStrokes_32 hs.k (ci := 5) (r := vwC5) rfl 7 (by decide) wd_163 rfl ?_
      refine v_icmp_ne (tgt := 42) (pc := 35) hX dX3_wearsMatchStrokes_35 (by decide) (fun c2 => ?_) (fun c2 => ?_)
      ·
        refine v_iconst (v := 0) (pc := 42) hX dX3_wearsMatchStrokes_42 (by decide) ?_
        exact v_zret (pc := 43) hX hZ dX3_wearsMatchStrokes_43 rfl (by decide) (by decide) (by rw [X3_wearsMatchStrokes_l1, if_neg c2] at hp; exact hp)
      ·
        refine v_iconst (v := 1) (pc := 38) hX dX3_wearsMatchStrokes_38 (by decide) ?_
        refine v_goto (tgt := 43) (pc := 39) hX dX3_wearsMatchStrokes_39 (by decide) ?_
        exact v_zret (pc := 43) hX hZ dX3_wearsMatchStrokes_43 rfl (by decide) (by decide) (by rw [X3_wearsMatchStrokes_l1, if_pos c2] at hp; exact hp)
    · exact absurd (nI_le (by omega) (by omega)) c1
  | succ n ih =>
    intro j s   hj hp
    refine v_iload_n (pc := 4) hX dX3_wearsMatchStrokes_4 rfl ?_
    refine v_aload_n (pc := 5) hX dX3_wearsMatchStrokes_5 rfl ?_
    refine v_get (v := .int (nI H)) (pc := 6) hX dX3_wearsMatchStrokes_6 hs.k (ci := 5) (r := vwC5) rfl 4 (by decide) wd_158 (congrArg Value.int hH) ?_
    refine v_icmp_ge (tgt := 30) (pc := 9) hX dX3_wearsMatchStrokes_9 (by decide) (fun c1 => ?_) (fun c1 => ?_)
    · exact absurd c1 (nI_ge (by omega) (by omega))
    ·
      refine v_iload_n (pc := 12) hX dX3_wearsMatchStrokes_12 rfl ?_
      refine v_aload_n (pc := 13) hX dX3_wearsMatchStrokes_13 rfl ?_
      refine v_get (v := .ref (f + 3)) (pc := 14) hX dX3_wearsMatchStrokes_14 hs.k (ci := 5) (r := vwC5) rfl 2 (by decide) wd_154 (fvR hs.r2) ?_
      refine v_iload_n (pc := 17) hX dX3_wearsMatchStrokes_17 rfl ?_
      refine v_aaldR (q := f + 12 + j) (pc := 18) hX dX3_wearsMatchStrokes_18 hs.k3 (by decide) (by decide) rfl (by omega) (by decide) (hs.qh (by omega)) ?_
      refine v_getN (v := .int (gI m 225 (f + 12 + j))) (pc := 19) hX dX3_wearsMatchStrokes_19 (hs.kh (i := j) (by omega)) (ci := 7) (r := vwC7) rfl 1 (by decide) wd_142 rfl ?_
      refine v_iadd (pc := 22) hX dX3_wearsMatchStrokes_22 ?_
      refine v_istore_n (pc := 23) hX dX3_wearsMatchStrokes_23 (by decide) rfl ?_
      refine v_iinc (w := nI (j + 1)) (pc := 24) hX dX3_wearsMatchStrokes_24 rfl (nI_1 _) (by decide) rfl ?_
      refine v_goto (tgt := 4) (pc := 27) hX dX3_wearsMatchStrokes_27 (by decide) ?_
      refine mV_sub (lv' := [(0, .ref f), (1, .int (s + (gI m 225 (f + 12 + j)))), (2, .int (nI (j + 1)))]) ⟨rfl, rfl, rfl, trivial⟩ ?_
      exact ih (j + 1) (s + (gI m 225 (f + 12 + j)))   (by omega) (by rw [X3_wearsMatchStrokes_l1] at hp; exact hp)

def X3_wearsMatchStrokes_r (g : mG) (m : mM) (f : Nat) (H : Nat) : Int32 := X3_wearsMatchStrokes_l1 g m f H H 0 0 

set_option maxHeartbeats 4000000 in
set_option maxRecDepth 100000 in
theorem c_X3_wearsMatchStrokes {l : Launch} {g : mG} (hO : mO l g) (m : mM) (f : Nat) (H : Nat) (hs : SF m f) (hH : gI m 164 f = nI H) (hH4 : H ≤ 4) : mT l g yX3_wearsMatchStrokes (.code yX3_wearsMatchStrokes cX3_wearsMatchStrokes 3 (Option.some FieldType.boolean)) 1 20 0 0 [.ref f] m (fun r m' => r = some (.int (X3_wearsMatchStrokes_r g m f H)) ∧ m' = m) nX := by
  refine mT_of hO (by decide) (Nat.le_of_ble_eq_true rfl) (fun x hX hZ => ?_)
  show mV g x m 0 0 0 [(0, .ref f)] []
  refine v_iconst (v := 0) (pc := 0) hX dX3_wearsMatchStrokes_0 (by decide) ?_
  refine v_istore_n (pc := 1) hX dX3_wearsMatchStrokes_1 (by decide) rfl ?_
  refine v_iconst (v := 0) (pc := 2) hX dX3_wearsMatchStrokes_2 (by decide) ?_
  refine v_istore_n (pc := 3) hX dX3_wearsMatchStrokes_3 (by decide) rfl ?_
  refine mV_sub (lv' := [(0, .ref f), (1, .int 0), (2, .int (nI 0))]) ⟨rfl, rfl, rfl, trivial⟩ ?_
  exact lp_X3_wearsMatchStrokes_l1 hO f H hs hH hH4 hX hZ H 0 0   (by omega) ⟨by rw [X3_wearsMatchStrokes_r], rfl⟩
def X3_testedAreQuenched_l1 (g : mG) (m : mM) (f : Nat) (N : Nat) : Nat → Nat → Int32
  | 0, j => 1
  | n + 1, j => if (gR m 295 (pa m f j)) = (some (vdA g 0)) then (X3_testedAreQuenched_l1 g m f N n (j + 1)  ) else (if (gI m 294 (pa m f j)) = 0 then (0) else (X3_testedAreQuenched_l1 g m f N n (j + 1)  ))
set_option maxHeartbeats 4000000 in
set_option maxRecDepth 100000 in
theorem lp_X3_testedAreQuenched_l1 {l : Launch} {g : mG} {x : mCx} (hO : mO l g) {m : mM} (f : Nat) (N : Nat) (hs : SF m f) (hN : gI m 163 f = nI N) (hN8 : N ≤ 8) {pst : Option Value → mM → Prop} {XX : String → mM → Prop} (hX : mX l g x cX3_testedAreQuenched yX3_testedAreQuenched { frames := 1, cells := 0, slots := 0, locals := 20 } 2) (hZ : mZ g x (Option.some FieldType.boolean) [] pst XX 0 0) : ∀ (n j : Nat)   (hj : j + n = N) (hp : pst (some (.int (X3_testedAreQuenched_l1 g m f N n j  ))) m), mV g x m 0 0 2 [(0, .ref f), (1, .int (nI j))] [] := by
  intro n
  induction n with
  | zero =>
    intro j    hj hp
    refine v_iload_n (pc := 2) hX dX3_testedAreQuenched_2 rfl ?_
    refine v_aload_n (pc := 3) hX dX3_testedAreQuenched_3 rfl ?_
    refine v_get (v := .int (nI N)) (pc := 4) hX dX3_testedAreQuenched_4 hs.k (ci := 5) (r := vwC5) rfl 3 (by decide) wd_155 (congrArg Value.int hN) ?_
    refine v_icmp_ge (tgt := 45) (pc := 7) hX dX3_testedAreQuenched_7 (by decide) (fun c1 => ?_) (fun c1 => ?_)
    ·
      refine v_iconst (v := 1) (pc := 45) hX dX3_testedAreQuenched_45 (by decide) ?_
      exact v_zret (pc := 46) hX hZ dX3_testedAreQuenched_46 rfl (by decide) (by decide) (by rw [X3_testedAreQuenched_l1] at hp; exact hp)
    · exact absurd (nI_le (by omega) (by omega)) c1
  | succ n ih =>
    intro j    hj hp
    refine v_iload_n (pc := 2) hX dX3_testedAreQuenched_2 rfl ?_
    refine v_aload_n (pc := 3) hX dX3_testedAreQuenched_3 rfl ?_
    refine v_get (v := .int (nI N)) (pc := 4) hX dX3_testedAreQuenched_4 hs.k (ci := 5) (r := vwC5) rfl 3 (by decide) wd_155 (congrArg Value.int hN) ?_
    refine v_icmp_ge (tgt := 45) (pc := 7) hX dX3_testedAreQuenched_7 (by decide) (fun c1 => ?_) (fun c1 => ?_)
    · exact absurd c1 (nI_ge (by omega) (by omega))
    ·
      refine v_aload_n (pc := 10) hX dX3_testedAreQuenched_10 rfl ?_
      refine v_get (v := .ref (f + 2)) (pc := 11) hX dX3_testedAreQuenched_11 hs.k (ci := 5) (r := vwC5) rfl 1 (by decide) wd_152 (fvR hs.r1) ?_
      refine v_iload_n (pc := 14) hX dX3_testedAreQuenched_14 rfl ?_
      refine v_aaldR (q := pa m f j) (pc := 15) hX dX3_testedAreQuenched_15 hs.k2 (by decide) (by decide) rfl (by omega) (by decide) (hs.qp (by omega)) ?_
      refine v_getN (v := va_rf (gR m 295 (pa m f j))) (pc := 16) hX dX3_testedAreQuenched_16 (hs.kp (i := j) (by omega)) (ci := 9) (r := vwC9) rfl 7 (by decide) wd_114 rfl ?_
      refine v_gets (pc := 19) hX dX3_testedAreQuenched_19 (vd_Z0 hO) wd_401 ?_
      refine v_acmp_eq (a := gR m 295 (pa m f j)) (b := some (vdA g 0)) (tgt := 39) (pc := 22) hX dX3_testedAreQuenched_22 (by decide) (fun c2 => ?_) (fun c2 => ?_)
      ·
        refine v_iinc (w := nI (j + 1)) (pc := 39) hX dX3_testedAreQuenched_39 rfl (nI_1 _) (by decide) rfl ?_
        refine v_goto (tgt := 2) (pc := 42) hX dX3_testedAreQuenched_42 (by decide) ?_
        refine mV_sub (lv' := [(0, .ref f), (1, .int (nI (j + 1)))]) ⟨rfl, rfl, trivial⟩ ?_
        exact ih (j + 1)    (by omega) (by rw [X3_testedAreQuenched_l1, if_pos c2] at hp; exact hp)
      ·
        refine v_aload_n (pc := 25) hX dX3_testedAreQuenched_25 rfl ?_
        refine v_get (v := .ref (f + 2)) (pc := 26) hX dX3_testedAreQuenched_26 hs.k (ci := 5) (r := vwC5) rfl 1 (by decide) wd_152 (fvR hs.r1) ?_
        refine v_iload_n (pc := 29) hX dX3_testedAreQuenched_29 rfl ?_
        refine v_aaldR (q := pa m f j) (pc := 30) hX dX3_testedAreQuenched_30 hs.k2 (by decide) (by decide) rfl (by omega) (by decide) (hs.qp (by omega)) ?_
        refine v_getN (v := .int (gI m 294 (pa m f j))) (pc := 31) hX dX3_testedAreQuenched_31 (hs.kp (i := j) (by omega)) (ci := 9) (r := vwC9) rfl 6 (by decide) wd_111 rfl ?_
        refine v_if_ne (tgt := 39) (pc := 34) hX dX3_testedAreQuenched_34 (by decide) (fun c3 => ?_) (fun c3 => ?_)
        ·
          refine v_iinc (w := nI (j + 1)) (pc := 39) hX dX3_testedAreQuenched_39 rfl (nI_1 _) (by decide) rfl ?_
          refine v_goto (tgt := 2) (pc := 42) hX dX3_testedAreQuenched_42 (by decide) ?_
          refine mV_sub (lv' := [(0, .ref f), (1, .int (nI (j + 1)))]) ⟨rfl, rfl, trivial⟩ ?_
          exact ih (j + 1)    (by omega) (by rw [X3_testedAreQuenched_l1, if_neg c2, if_neg c3] at hp; exact hp)
        ·
          refine v_iconst (v := 0) (pc := 37) hX dX3_testedAreQuenched_37 (by decide) ?_
          exact v_zret (pc := 38) hX hZ dX3_testedAreQuenched_38 rfl (by decide) (by decide) (by rw [X3_testedAreQuenched_l1, if_neg c2, if_pos c3] at hp; exact hp)

def X3_testedAreQuenched_r (g : mG) (m : mM) (f : Nat) (N : Nat) : Int32 := X3_testedAreQuenched_l1 g m f N N 0  

set_option maxHeartbeats 4000000 in
set_option maxRecDepth 100000 in
theorem c_X3_testedAreQuenched {l : Launch} {g : mG} (hO : mO l g) (m : mM) (f : Nat) (N : Nat) (hs : SF m f) (hN : gI m 163 f = nI N) (hN8 : N ≤ 8) : mT l g yX3_testedAreQuenched (.code yX3_testedAreQuenched cX3_testedAreQuenched 2 (Option.some FieldType.boolean)) 1 20 0 0 [.ref f] m (fun r m' => r = some (.int (X3_testedAreQuenched_r g m f N)) ∧ m' = m) nX := by
  refine mT_of hO (by decide) (Nat.le_of_ble_eq_true rfl) (fun x hX hZ => ?_)
  show mV g x m 0 0 0 [(0, .ref f)] []
  refine v_iconst (v := 0) (pc := 0) hX dX3_testedAreQuenched_0 (by decide) ?_
  refine v_istore_n (pc := 1) hX dX3_testedAreQuenched_1 (by decide) rfl ?_
  refine mV_sub (lv' := [(0, .ref f), (1, .int (nI 0))]) ⟨rfl, rfl, trivial⟩ ?_
  exact lp_X3_testedAreQuenched_l1 hO f N hs hN hN8 hX hZ N 0    (by omega) ⟨by rw [X3_testedAreQuenched_r], rfl⟩
