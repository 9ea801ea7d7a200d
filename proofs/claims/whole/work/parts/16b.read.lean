theorem rc_Pl {g : mG} {p : Nat} : ∀ (n j k : Nat) (m : mM), okI (gI m 325 p) 60 → okI (gI m 323 p) 60 → okI (gI (X8_readCommand_l1 g p n j k m).2 325 p) 60 := by
  intro n
  induction n with
  | zero => intro j k m hP hL; rw [X8_readCommand_l1]; exact hP
  | succ n ih =>
    intro j k m hP hL
    rw [X8_readCommand_l1]
    repeat' split
    all_goals (try dsimp only)
    all_goals first
      | exact hP
      | exact ra_P hP hL
      | exact acc_P hP hL
      | exact ra_P (acc_P hP hL) (by simp [kI_X8_accept]; exact hL)
      | exact ih _ _ _ (ra_P hP hL) (by simp [kI_X8_readArgument]; exact hL)
      | exact ih _ _ _ (ra_P (acc_P hP hL) (by simp [kI_X8_accept]; exact hL)) (by simp [kI_X8_readArgument, kI_X8_accept]; exact hL)
theorem rc_P {g : mG} {m : mM} {p : Nat} (hP : okI (gI m 325 p) 60) (hL : okI (gI m 323 p) 60) : okI (gI (X8_readCommand_m g m p) 325 p) 60 := by
  unfold X8_readCommand_m
  split
  · exact rw_P hP hL
  · exact rc_Pl _ _ _ _ (by simp only [mm]; exact rw_P hP hL) (by simp [mm, kI_X8_readWord]; exact hL)
theorem kQ_X8_readCommand (g : mG) (m : mM) (p a : Nat) (h : a ≠ p + 2) (i : Nat) : gQ (X8_readCommand_m g m p) a i = gQ m a i := by
  unfold X8_readCommand_m
  split
  · simp only [kQ_X8_readWord]
  · simp [mm, kQ_X8_readCommand_l1, kQ_X8_readWord, h]
theorem rc_SP {g : mG} {m : mM} {p : Nat} (hs : SP m p) : SP (X8_readCommand_m g m p) p := hs.to (kK_X8_readCommand g m p) (fun k hk a => by rw [kR_X8_readCommand]) (fun i => kQ_X8_readCommand g m p _ (by omega) i)
theorem rc_n {g : mG} {m : mM} {p : Nat} : narrow .boolean (.int (X8_readCommand_r g m p)) = .int (X8_readCommand_r g m p) := by
  have key : ∀ (n j k : Nat) (m : mM), (X8_readCommand_l1 g p n j k m).1 = 0 ∨ (X8_readCommand_l1 g p n j k m).1 = 1 := by
    intro n
    induction n with
    | zero => intro j k m; rw [X8_readCommand_l1]; exact Or.inr rfl
    | succ n ih =>
      intro j k m
      rw [X8_readCommand_l1]
      repeat' split
      all_goals (try dsimp only)
      all_goals first
        | exact Or.inr rfl
        | exact Or.inl rfl
        | exact ih _ _ _
  unfold X8_readCommand_r
  split
  · dsimp only
    rfl
  · rcases key 4 0 _ _ with h | h
    · rw [h]; rfl
    · rw [h]; rfl
def X8_read_l1 (g : mG) (p : Nat)  : Nat → Nat → mM → Int32 × mM
  | 0, j, m => (gI m 325 p, m)
  | n + 1, j, m => if (X8_readCommand_r g m p ) = 0 then ((gI (X8_readCommand_m g m p ) 325 p, (X8_readCommand_m g m p ))) else (if (gI (X8_readCommand_m g m p ) 325 p) < (gI (X8_readCommand_m g m p ) 323 p) then (if (X8_accept_r g ((sI (X8_readCommand_m g m p ) 324 p ((nI j) + 1))) p 59 ) = 0 then ((gI (X8_accept_m g ((sI (X8_readCommand_m g m p ) 324 p ((nI j) + 1))) p 59 ) 325 p, (X8_accept_m g ((sI (X8_readCommand_m g m p ) 324 p ((nI j) + 1))) p 59 ))) else (X8_read_l1 g p  n (j + 1)  ((X8_accept_m g ((sI (X8_readCommand_m g m p ) 324 p ((nI j) + 1))) p 59 )))) else (((-1), (sI (X8_readCommand_m g m p ) 324 p ((nI j) + 1)))))
set_option maxHeartbeats 4000000 in
set_option maxRecDepth 100000 in
theorem lp_X8_read_l1 {l : Launch} {g : mG} {x : mCx} (hO : mO l g) (p : Nat)   {pst : Option Value → mM → Prop} {XX : String → mM → Prop} (hX : mX l g x cX8_read yX8_read { frames := 8, cells := 0, slots := 0, locals := 174 } 1) (hZ : mZ g x (Option.some FieldType.int) [] pst XX 0 0) : ∀ (n j : Nat)  (m : mM) (hs : SP m p) (hL : okI (gI m 323 p) 60) (hP : okI (gI m 325 p) 60) (hcj : gI m 324 p = nI j) (hj : j + n = 12) (hp : pst (some (.int ((X8_read_l1 g p  n j  m).1))) ((X8_read_l1 g p  n j  m).2)), mV g x m 0 0 10 [(0, .ref p)] [] := by
  intro n
  induction n with
  | zero =>
    intro j  m hs hL hP hcj hj hp
    refine v_aload_n (pc := 10) hX dX8_read_10 rfl ?_
    refine v_get (v := .int (nI j)) (pc := 11) hX dX8_read_11 hs.k (ci := 10) (r := vwC10) rfl 4 (by decide) wd_255 (congrArg Value.int hcj) ?_
    refine v_bipush (v := 12) (pc := 14) hX dX8_read_14 (by decide) ?_
    refine v_icmp_ge (tgt := 68) (pc := 16) hX dX8_read_16 (by decide) (fun c1 => ?_) (fun c1 => ?_)
    ·
      refine v_aload_n (pc := 68) hX dX8_read_68 rfl ?_
      refine v_get (v := .int (gI m 325 p)) (pc := 69) hX dX8_read_69 hs.k (ci := 10) (r := vwC10) rfl 5 (by decide) wd_257 rfl ?_
      exact v_iret (pc := 72) hX hZ dX8_read_72 (by decide) (by decide) (by rw [X8_read_l1] at hp; exact hp)
    · exact absurd (show nI 12 ≤ nI j from nI_le (by omega) (by omega)) c1
  | succ n ih =>
    intro j  m hs hL hP hcj hj hp
    refine v_aload_n (pc := 10) hX dX8_read_10 rfl ?_
    refine v_get (v := .int (nI j)) (pc := 11) hX dX8_read_11 hs.k (ci := 10) (r := vwC10) rfl 4 (by decide) wd_255 (congrArg Value.int hcj) ?_
    refine v_bipush (v := 12) (pc := 14) hX dX8_read_14 (by decide) ?_
    refine v_icmp_ge (tgt := 68) (pc := 16) hX dX8_read_16 (by decide) (fun c1 => ?_) (fun c1 => ?_)
    · exact absurd c1 (show ¬ nI 12 ≤ nI j from nI_ge (by omega) (by omega))
    ·
      refine v_aload_n (pc := 19) hX dX8_read_19 rfl ?_
      refine v_callV (z := yX8_readCommand) (pc := 20) hX dX8_read_20 (c_X8_readCommand hO m p  hs hL hP (by rw [hcj]; exact okI_nI (by omega) (by decide))) hs.k rfl wd_1346 wd_1348 wp_9 wd_10 wd_1349 ⟨by decide, by decide, (by decide +kernel : (parseMethodDescriptor yX8_readCommand.desc).map (fun d => d.parameters.length) = some 0)⟩ rfl (Nat.le_of_ble_eq_true rfl) ⟨⟨by decide, by decide⟩, by decide, by decide⟩ (fun E m9 h9 => h9.elim) (fun r9 m9 h9 => ?_)
      obtain ⟨rfl, h8⟩ := h9
      replace h8 := h8.symm
      subst h8
      show mV g x _ _ _ _ _ [.int (X8_readCommand_r g m p )]
      refine v_if_ne (tgt := 31) (pc := 23) hX dX8_read_23 (by decide) (fun c2 => ?_) (fun c2 => ?_)
      ·
        refine v_aload_n (pc := 31) hX dX8_read_31 rfl ?_
        refine v_dup (pc := 32) hX dX8_read_32 rfl ?_
        refine v_get (v := .int (nI j)) (pc := 33) hX dX8_read_33 (by simp only [mm, kK_X8_readCommand]; exact hs.k) (ci := 10) (r := vwC10) rfl 4 (by decide) wd_255 (congrArg Value.int (by simp [mm, kI_X8_readCommand, hcj])) ?_
        refine v_iconst (v := 1) (pc := 36) hX dX8_read_36 (by decide) ?_
        refine v_iadd (pc := 37) hX dX8_read_37 ?_
        refine v_put (m1 := (sI (X8_readCommand_m g m p ) 324 p ((nI j) + 1))) (pc := 38) hX dX8_read_38 (by simp only [mm, kK_X8_readCommand]; exact hs.k) (ci := 10) (r := vwC10) rfl 4 (by decide) wd_255 rfl rfl rfl rfl ?_
        refine v_aload_n (pc := 41) hX dX8_read_41 rfl ?_
        refine v_get (v := .int (gI (X8_readCommand_m g m p ) 325 p)) (pc := 42) hX dX8_read_42 (by simp only [mm, kK_X8_readCommand]; exact hs.k) (ci := 10) (r := vwC10) rfl 5 (by decide) wd_257 (by show Value.int _ = Value.int _; simp [mm]) ?_
        refine v_aload_n (pc := 45) hX dX8_read_45 rfl ?_
        refine v_get (v := .int (gI (X8_readCommand_m g m p ) 323 p)) (pc := 46) hX dX8_read_46 (by simp only [mm, kK_X8_readCommand]; exact hs.k) (ci := 10) (r := vwC10) rfl 3 (by decide) wd_254 (by show Value.int _ = Value.int _; simp [mm]) ?_
        refine v_icmp_lt (tgt := 54) (pc := 49) hX dX8_read_49 (by decide) (fun c3 => ?_) (fun c3 => ?_)
        ·
          refine v_aload_n (pc := 54) hX dX8_read_54 rfl ?_
          refine v_bipush (v := 59) (pc := 55) hX dX8_read_55 (by decide) ?_
          refine v_callV (z := yX8_accept) (pc := 57) hX dX8_read_57 (c_X8_accept hO ((sI (X8_readCommand_m g m p ) 324 p ((nI j) + 1))) p 59  ((rc_SP (g := g) hs).to (by simp only [mm]) (fun k hk a => by simp only [mm]) (fun i => by simp only [mm])) (by simp [mm, kI_X8_readCommand]; exact hL) (by simp [mm]; exact rc_P hP hL)) (by simp only [mm, kK_X8_readCommand]; exact hs.k) rfl wd_1377 wd_1379 wp_12 wd_10 wd_1380 ⟨by decide, by decide, (by decide +kernel : (parseMethodDescriptor yX8_accept.desc).map (fun d => d.parameters.length) = some 1)⟩ rfl (Nat.le_of_ble_eq_true rfl) ⟨⟨by decide, by decide⟩, by decide, by decide⟩ (fun E m9 h9 => h9.elim) (fun r9 m9 h9 => ?_)
          obtain ⟨rfl, h8⟩ := h9
          replace h8 := h8.symm
          subst h8
          show mV g x _ _ _ _ _ [.int (X8_accept_r g ((sI (X8_readCommand_m g m p ) 324 p ((nI j) + 1))) p 59 )]
          refine v_if_ne (tgt := 10) (pc := 60) hX dX8_read_60 (by decide) (fun c4 => ?_) (fun c4 => ?_)
          ·
            refine mV_sub (lv' := [(0, .ref p)]) ⟨rfl, trivial⟩ ?_
            exact ih (j + 1)  ((X8_accept_m g ((sI (X8_readCommand_m g m p ) 324 p ((nI j) + 1))) p 59 )) ((rc_SP (g := g) hs).to (by simp only [mm, kK_X8_accept]) (fun k hk a => by simp only [mm, kR_X8_accept]) (fun i => by simp only [mm, kQ_X8_accept])) (by simp [mm, kI_X8_readCommand, kI_X8_accept]; exact hL) (acc_P (by simp [mm]; exact rc_P hP hL) (by simp [mm, kI_X8_readCommand]; exact hL)) (by simp [mm, kI_X8_readCommand, kI_X8_accept, nI_1]) (by omega) (by rw [X8_read_l1, if_neg c2, if_pos c3, if_neg c4] at hp; exact hp)
          ·
            refine v_aload_n (pc := 63) hX dX8_read_63 rfl ?_
            refine v_get (v := .int (gI (X8_accept_m g ((sI (X8_readCommand_m g m p ) 324 p ((nI j) + 1))) p 59 ) 325 p)) (pc := 64) hX dX8_read_64 (by simp only [mm, kK_X8_accept, kK_X8_readCommand]; exact hs.k) (ci := 10) (r := vwC10) rfl 5 (by decide) wd_257 rfl ?_
            exact v_iret (pc := 67) hX hZ dX8_read_67 (by decide) (by decide) (by rw [X8_read_l1, if_neg c2, if_pos c3, if_pos c4] at hp; exact hp)
        ·
          refine v_iconst (v := (-1)) (pc := 52) hX dX8_read_52 (by decide) ?_
          exact v_iret (pc := 53) hX hZ dX8_read_53 (by decide) (by decide) (by rw [X8_read_l1, if_neg c2, if_neg c3] at hp; exact hp)
      ·
        refine v_aload_n (pc := 26) hX dX8_read_26 rfl ?_
        refine v_get (v := .int (gI (X8_readCommand_m g m p ) 325 p)) (pc := 27) hX dX8_read_27 (by simp only [mm, kK_X8_readCommand]; exact hs.k) (ci := 10) (r := vwC10) rfl 5 (by decide) wd_257 rfl ?_
        exact v_iret (pc := 30) hX hZ dX8_read_30 (by decide) (by decide) (by rw [X8_read_l1, if_pos c2] at hp; exact hp)
theorem kK_X8_read_l1 (g : mG) (p : Nat)  : ∀ (n j : Nat)  (m : mM), gK ((X8_read_l1 g p  n j  m).2) = gK m := by
  intro n
  induction n with
  | zero =>
    intro j  m
    rw [X8_read_l1]
    repeat' split
    all_goals simp only [mm, kK_X8_accept, kK_X8_readCommand]
  | succ n ih =>
    intro j  m
    rw [X8_read_l1]
    repeat' split
    all_goals simp only [mm, ih, kK_X8_accept, kK_X8_readCommand]
theorem kN_X8_read_l1 (g : mG) (p : Nat)  : ∀ (n j : Nat)  (m : mM), gN ((X8_read_l1 g p  n j  m).2) = gN m := by
  intro n
  induction n with
  | zero =>
    intro j  m
    rw [X8_read_l1]
    repeat' split
    all_goals simp only [mm, kN_X8_accept, kN_X8_readCommand]
  | succ n ih =>
    intro j  m
    rw [X8_read_l1]
    repeat' split
    all_goals simp only [mm, ih, kN_X8_accept, kN_X8_readCommand]
theorem kI_X8_read_l1 (g : mG) (p : Nat)  (k a9 : Nat) (h0 : k ≠ 324) (h1 : k ≠ 325) : ∀ (n j : Nat)  (m : mM), gI ((X8_read_l1 g p  n j  m).2) k a9 = gI m k a9 := by
  intro n
  induction n with
  | zero =>
    intro j  m
    rw [X8_read_l1]
    repeat' split
    all_goals simp [mm, kI_X8_accept, kI_X8_readCommand, h0, h1]
  | succ n ih =>
    intro j  m
    rw [X8_read_l1]
    repeat' split
    all_goals simp [mm, ih, kI_X8_accept, kI_X8_readCommand, h0, h1]
theorem kJ_X8_read_l1 (g : mG) (p : Nat)  : ∀ (n j : Nat)  (m : mM), gJ ((X8_read_l1 g p  n j  m).2) = gJ m := by
  intro n
  induction n with
  | zero =>
    intro j  m
    rw [X8_read_l1]
    repeat' split
    all_goals simp only [mm, kJ_X8_accept, kJ_X8_readCommand]
  | succ n ih =>
    intro j  m
    rw [X8_read_l1]
    repeat' split
    all_goals simp only [mm, ih, kJ_X8_accept, kJ_X8_readCommand]
theorem kR_X8_read_l1 (g : mG) (p : Nat)  : ∀ (n j : Nat)  (m : mM), gR ((X8_read_l1 g p  n j  m).2) = gR m := by
  intro n
  induction n with
  | zero =>
    intro j  m
    rw [X8_read_l1]
    repeat' split
    all_goals simp only [mm, kR_X8_accept, kR_X8_readCommand]
  | succ n ih =>
    intro j  m
    rw [X8_read_l1]
    repeat' split
    all_goals simp only [mm, ih, kR_X8_accept, kR_X8_readCommand]
theorem kL_X8_read_l1 (g : mG) (p : Nat)  : ∀ (n j : Nat)  (m : mM), gL ((X8_read_l1 g p  n j  m).2) = gL m := by
  intro n
  induction n with
  | zero =>
    intro j  m
    rw [X8_read_l1]
    repeat' split
    all_goals simp only [mm, kL_X8_accept, kL_X8_readCommand]
  | succ n ih =>
    intro j  m
    rw [X8_read_l1]
    repeat' split
    all_goals simp only [mm, ih, kL_X8_accept, kL_X8_readCommand]
theorem kD_X8_read_l1 (g : mG) (p : Nat)  : ∀ (n j : Nat)  (m : mM), gD ((X8_read_l1 g p  n j  m).2) = gD m := by
  intro n
  induction n with
  | zero =>
    intro j  m
    rw [X8_read_l1]
    repeat' split
    all_goals simp only [mm, kD_X8_accept, kD_X8_readCommand]
  | succ n ih =>
    intro j  m
    rw [X8_read_l1]
    repeat' split
    all_goals simp only [mm, ih, kD_X8_accept, kD_X8_readCommand]
def X8_read_r (g : mG) (m : mM) (p : Nat)  : Int32 := (X8_read_l1 g p  12 0  ((sI (sI m 324 p 0) 325 p 0))).1
def X8_read_m (g : mG) (m : mM) (p : Nat)  : mM := (X8_read_l1 g p  12 0  ((sI (sI m 324 p 0) 325 p 0))).2
theorem kK_X8_read (g : mG) (m : mM) (p : Nat)  : gK (X8_read_m g m p ) = gK m := by
  unfold X8_read_m
  repeat' split
  all_goals simp only [mm, kK_X8_read_l1]
theorem kN_X8_read (g : mG) (m : mM) (p : Nat)  : gN (X8_read_m g m p ) = gN m := by
  unfold X8_read_m
  repeat' split
  all_goals simp only [mm, kN_X8_read_l1]
theorem kI_X8_read (g : mG) (m : mM) (p : Nat)  (k a9 : Nat) (h0 : k ≠ 324) (h1 : k ≠ 325) : gI (X8_read_m g m p ) k a9 = gI m k a9 := by
  unfold X8_read_m
  repeat' split
  all_goals simp [mm, kI_X8_read_l1, h0, h1]
theorem kJ_X8_read (g : mG) (m : mM) (p : Nat)  : gJ (X8_read_m g m p ) = gJ m := by
  unfold X8_read_m
  repeat' split
  all_goals simp only [mm, kJ_X8_read_l1]
theorem kR_X8_read (g : mG) (m : mM) (p : Nat)  : gR (X8_read_m g m p ) = gR m := by
  unfold X8_read_m
  repeat' split
  all_goals simp only [mm, kR_X8_read_l1]
theorem kL_X8_read (g : mG) (m : mM) (p : Nat)  : gL (X8_read_m g m p ) = gL m := by
  unfold X8_read_m
  repeat' split
  all_goals simp only [mm, kL_X8_read_l1]
theorem kD_X8_read (g : mG) (m : mM) (p : Nat)  : gD (X8_read_m g m p ) = gD m := by
  unfold X8_read_m
  repeat' split
  all_goals simp only [mm, kD_X8_read_l1]
set_option maxHeartbeats 4000000 in
set_option maxRecDepth 100000 in
theorem c_X8_read {l : Launch} {g : mG} (hO : mO l g) (m : mM) (p : Nat)  (hs : SP m p) (hL : okI (gI m 323 p) 60) : mT l g yX8_read (.code yX8_read cX8_read 1 (Option.some FieldType.int)) 8 174 0 0 [.ref p] m (fun r m' => r = some (.int (X8_read_r g m p )) ∧ m' = X8_read_m g m p ) nX := by
  refine mT_of hO (by decide) (Nat.le_of_ble_eq_true rfl) (fun x hX hZ => ?_)
  show mV g x m 0 0 0 [(0, .ref p)] []
  refine v_aload_n (pc := 0) hX dX8_read_0 rfl ?_
  refine v_iconst (v := 0) (pc := 1) hX dX8_read_1 (by decide) ?_
  refine v_put (m1 := (sI m 324 p 0)) (pc := 2) hX dX8_read_2 hs.k (ci := 10) (r := vwC10) rfl 4 (by decide) wd_255 rfl rfl rfl rfl ?_
  refine v_aload_n (pc := 5) hX dX8_read_5 rfl ?_
  refine v_iconst (v := 0) (pc := 6) hX dX8_read_6 (by decide) ?_
  refine v_put (m1 := (sI (sI m 324 p 0) 325 p 0)) (pc := 7) hX dX8_read_7 (by simp only [mm]; exact hs.k) (ci := 10) (r := vwC10) rfl 5 (by decide) wd_257 rfl rfl rfl rfl ?_
  refine mV_sub (lv' := [(0, .ref p)]) ⟨rfl, trivial⟩ ?_
  exact lp_X8_read_l1 hO p   hX hZ 12 0  ((sI (sI m 324 p 0) 325 p 0)) (hs.to (by simp only [mm]) (fun k hk a => by simp [mm, hk]) (fun i => by simp only [mm])) (by simp [mm]; exact hL) (by simp [mm]; exact (show okI (0 : Int32) 60 from okI_nI (n := 0) (by decide) (by decide))) (by simp [mm]; rfl) (by omega) ⟨(by rw [X8_read_r]), (by rw [X8_read_m])⟩
