section
variable {g : mG} {m m1 : mM} {r N H : Nat} {a : Int32}
theorem PG.ds (h : PG m m1 r) : PG m (X11_does_m g m1 r a N H) r := h.cg (kI_X11_does g m1 r a N H 401 r (by decide)) (kI_X11_does g m1 r a N H 402 r (by decide))
theorem cd_PG (hHe : okI (gI m 401 r) 60) (hEn : okI (gI m 402 r) 60) : PG m (X11_command_m g m r N H) r := by
  unfold X11_command_m
  repeat' with_reducible refine it_P (P := fun q => PG m q r) (fun _ => ?_) (fun _ => ?_)
  all_goals repeat (with_reducible first | exact PG.wd hHe hEn | refine PG.cB ?_ hEn | refine PG.cD ?_ hEn | refine PG.cL ?_ hEn | refine PG.ds ?_)
/-- the same row v -/
def RW (m m1 : mM) (r : Nat) : Prop := ∀ i, gA m1 (r + 1) i = gA m (r + 1) i
theorem RW.wd : RW m (X11_word_m g m r) r := fun i => kA_X11_word g m r (r + 1) i (by omega)
theorem RW.cL (h : RW m m1 r) : RW m (X11_cL_m g m1 r) r := fun i => (kA_X11_cL g m1 r (r + 1) i (by omega)).trans (h i)
theorem RW.cD {mo : Nat} (h : RW m m1 r) : RW m (X11_cD_m g m1 r mo) r := fun i => (kA_X11_cD g m1 r mo (r + 1) i (by omega)).trans (h i)
theorem RW.cB {mo i : Nat} (h : RW m m1 r) : RW m (X11_cB_m g m1 r mo i) r := fun j => (kA_X11_cB g m1 r mo i (r + 1) j (by omega)).trans (h j)
theorem RI.rw (h : RI m r) (e : RW m m1 r) : RI m1 r := h.cg (e 5) (e 6)
theorem RI.ds (h : RI m r) (hN : gA m (r + 1) 5 = nI N) (hN8 : N ≤ 8) (hH4 : H ≤ 4) (e : RW m m1 r) : RI (X11_does_m g m1 r a N H) r := RI_does (h.rw e) ((e 5).trans hN) hN8 hH4
theorem cd_RI (h : RI m r) (hN : gA m (r + 1) 5 = nI N) (hN8 : N ≤ 8) (hH4 : H ≤ 4) : RI (X11_command_m g m r N H) r := by
  unfold X11_command_m
  repeat' with_reducible refine it_P (P := fun q => RI q r) (fun _ => ?_) (fun _ => ?_)
  all_goals with_reducible first | refine RI.ds h hN hN8 hH4 ?_ | refine RI.rw h ?_
  all_goals repeat (with_reducible first | exact RW.wd | refine RW.cB ?_ | refine RW.cD ?_ | refine RW.cL ?_)
theorem mk_RI (h : RI m r) : RI (X11_mark_m g m r a) r := h.cg (by rw [kA_X11_mark]) (by rw [kA_X11_mark])
end
def X11_commands_l1 (g : mG) (r : Nat)  : Nat → Nat → mM → Int32 × mM
  | 0, j, m => if (gI m 404 r) = 0 then (if (gI m 384 r) = 0 then ((nI j, m)) else ((nI j, m))) else ((nI j, m))
  | n + 1, j, m => if (gI m 404 r) = 0 then (if (gI m 384 r) = 0 then (if (gI m 402 r) ≤ (gI m 401 r) then ((nI j, m)) else (if (gI (X11_mark_m g m r 59 ) 404 r) = 0 then (X11_commands_l1 g r  n (j + 1)  ((X11_command_m g ((X11_mark_m g m r 59 )) r ((gA m (r + 1) 5).toNatClampNeg) ((gA m (r + 1) 6).toNatClampNeg)))) else (X11_commands_l1 g r  n (j + 1)  ((X11_mark_m g m r 59 ))))) else ((nI j, m))) else ((nI j, m))
set_option maxHeartbeats 4000000 in
set_option maxRecDepth 100000 in
theorem lp_X11_commands_l1 {l : Launch} {g : mG} {x : mCx} (hO : mO l g) (r : Nat)   {pst : Option Value → mM → Prop} {XX : String → mM → Prop} (hX : mX l g x cX11_commands yX11_commands { frames := 6, cells := 0, slots := 0, locals := 134 } 2) (hZ : mZ g x (Option.some FieldType.int) [] pst XX 0 0) : ∀ (n j : Nat)  (m : mM) (hs : SR m r) (hEn : okI (gI m 402 r) 60) (hwd : WD m r) (hRI : RI m r) (hHe : okI (gI m 401 r) 60) (hpr : gI m 404 r = 0 → j - 1 ≤ (gI m 401 r).toNatClampNeg) (hj : j + n = 62) (hp : pst (some (.int ((X11_commands_l1 g r  n j  m).1))) ((X11_commands_l1 g r  n j  m).2)), mV g x m 0 0 16 [(0, .ref r), (1, .int (nI j))] [] := by
  intro n
  induction n with
  | zero =>
    intro j  m hs hEn hwd hRI hHe hpr hj hp
    refine v_aload_n (pc := 16) hX dX11_commands_16 rfl ?_
    refine v_get (v := .int (gI m 404 r)) (pc := 17) hX dX11_commands_17 hs.k (ci := 12) (r := vwC12) rfl 20 (by decide) wd_1526 rfl ?_
    refine v_if_ne (tgt := 64) (pc := 20) hX dX11_commands_20 (by decide) (fun c1 => ?_) (fun c1 => ?_)
    ·
      refine v_iload_n (pc := 64) hX dX11_commands_64 rfl ?_
      exact v_iret (pc := 65) hX hZ dX11_commands_65 (by decide) (by decide) (by rw [X11_commands_l1, if_neg c1] at hp; exact hp)
    ·
      refine v_aload_n (pc := 23) hX dX11_commands_23 rfl ?_
      refine v_get (v := .int (gI m 384 r)) (pc := 24) hX dX11_commands_24 hs.k (ci := 12) (r := vwC12) rfl 0 (by decide) wd_1506 rfl ?_
      refine v_if_ne (tgt := 64) (pc := 27) hX dX11_commands_27 (by decide) (fun c2 => ?_) (fun c2 => ?_)
      ·
        refine v_iload_n (pc := 64) hX dX11_commands_64 rfl ?_
        exact v_iret (pc := 65) hX hZ dX11_commands_65 (by decide) (by decide) (by rw [X11_commands_l1, if_pos c1, if_neg c2] at hp; exact hp)
      ·
        refine v_aload_n (pc := 30) hX dX11_commands_30 rfl ?_
        refine v_get (v := .int (gI m 401 r)) (pc := 31) hX dX11_commands_31 hs.k (ci := 12) (r := vwC12) rfl 17 (by decide) wd_1523 rfl ?_
        refine v_aload_n (pc := 34) hX dX11_commands_34 rfl ?_
        refine v_get (v := .int (gI m 402 r)) (pc := 35) hX dX11_commands_35 hs.k (ci := 12) (r := vwC12) rfl 18 (by decide) wd_1524 rfl ?_
        refine v_icmp_ge (tgt := 64) (pc := 38) hX dX11_commands_38 (by decide) (fun c3 => ?_) (fun c3 => ?_)
        ·
          refine v_iload_n (pc := 64) hX dX11_commands_64 rfl ?_
          exact v_iret (pc := 65) hX hZ dX11_commands_65 (by decide) (by decide) (by rw [X11_commands_l1, if_pos c1, if_pos c2] at hp; exact hp)
        · exact absurd ((by have h9_ := hpr (by assumption); have h8_ := hHe.2; omega)) c3
  | succ n ih =>
    intro j  m hs hEn hwd hRI hHe hpr hj hp
    refine v_aload_n (pc := 16) hX dX11_commands_16 rfl ?_
    refine v_get (v := .int (gI m 404 r)) (pc := 17) hX dX11_commands_17 hs.k (ci := 12) (r := vwC12) rfl 20 (by decide) wd_1526 rfl ?_
    refine v_if_ne (tgt := 64) (pc := 20) hX dX11_commands_20 (by decide) (fun c1 => ?_) (fun c1 => ?_)
    ·
      refine v_iload_n (pc := 64) hX dX11_commands_64 rfl ?_
      exact v_iret (pc := 65) hX hZ dX11_commands_65 (by decide) (by decide) (by rw [X11_commands_l1, if_neg c1] at hp; exact hp)
    ·
      refine v_aload_n (pc := 23) hX dX11_commands_23 rfl ?_
      refine v_get (v := .int (gI m 384 r)) (pc := 24) hX dX11_commands_24 hs.k (ci := 12) (r := vwC12) rfl 0 (by decide) wd_1506 rfl ?_
      refine v_if_ne (tgt := 64) (pc := 27) hX dX11_commands_27 (by decide) (fun c2 => ?_) (fun c2 => ?_)
      ·
        refine v_iload_n (pc := 64) hX dX11_commands_64 rfl ?_
        exact v_iret (pc := 65) hX hZ dX11_commands_65 (by decide) (by decide) (by rw [X11_commands_l1, if_pos c1, if_neg c2] at hp; exact hp)
      ·
        refine v_aload_n (pc := 30) hX dX11_commands_30 rfl ?_
        refine v_get (v := .int (gI m 401 r)) (pc := 31) hX dX11_commands_31 hs.k (ci := 12) (r := vwC12) rfl 17 (by decide) wd_1523 rfl ?_
        refine v_aload_n (pc := 34) hX dX11_commands_34 rfl ?_
        refine v_get (v := .int (gI m 402 r)) (pc := 35) hX dX11_commands_35 hs.k (ci := 12) (r := vwC12) rfl 18 (by decide) wd_1524 rfl ?_
        refine v_icmp_ge (tgt := 64) (pc := 38) hX dX11_commands_38 (by decide) (fun c3 => ?_) (fun c3 => ?_)
        ·
          refine v_iload_n (pc := 64) hX dX11_commands_64 rfl ?_
          exact v_iret (pc := 65) hX hZ dX11_commands_65 (by decide) (by decide) (by rw [X11_commands_l1, if_pos c1, if_pos c2, if_pos c3] at hp; exact hp)
        ·
          refine v_aload_n (pc := 41) hX dX11_commands_41 rfl ?_
          refine v_bipush (v := 59) (pc := 42) hX dX11_commands_42 (by decide) ?_
          refine v_callV (z := yX11_mark) (pc := 44) hX dX11_commands_44 (c_X11_mark hO m r 59  hs hHe hEn) hs.k rfl wd_1913 wd_1915 wp_52 wd_16 wd_1916 ⟨by decide, by decide, (by decide +kernel : (parseMethodDescriptor yX11_mark.desc).map (fun d => d.parameters.length) = some 1)⟩ rfl (Nat.le_of_ble_eq_true rfl) ⟨⟨by decide, by decide⟩, by decide, by decide⟩ (fun E m9 h9 => h9.elim) (fun r9 m9 h9 => ?_)
          obtain ⟨rfl, h8⟩ := h9
          replace h8 := h8.symm
          subst h8
          show mV g x _ _ _ _ _ []
          refine v_aload_n (pc := 47) hX dX11_commands_47 rfl ?_
          refine v_get (v := .int (gI (X11_mark_m g m r 59 ) 404 r)) (pc := 48) hX dX11_commands_48 (by simp only [mm, kK_X11_mark]; exact hs.k) (ci := 12) (r := vwC12) rfl 20 (by decide) wd_1526 rfl ?_
          refine v_if_ne (tgt := 58) (pc := 51) hX dX11_commands_51 (by decide) (fun c4 => ?_) (fun c4 => ?_)
          ·
            refine v_iinc (w := nI (j + 1)) (pc := 58) hX dX11_commands_58 rfl (nI_1 _) (by decide) rfl ?_
            refine v_goto (tgt := 16) (pc := 61) hX dX11_commands_61 (by decide) ?_
            refine mV_sub (lv' := [(0, .ref r), (1, .int (nI (j + 1)))]) ⟨rfl, rfl, trivial⟩ ?_
            exact ih (j + 1)  ((X11_mark_m g m r 59 )) (hs.to (by simp only [mm, kK_X11_mark]) (by simp only [mm, kR_X11_mark])) (by simp [mm, kI_X11_mark]; exact hEn) ⟨fun j h => by simp [mm, kA_X11_mark]; exact hwd.1 j h, fun j h => by simp [mm, kA_X11_mark]; exact hwd.2 j h⟩ (mk_RI hRI) (mk_PG (g := g) (a := 59) hHe hEn (by decide)).1 (fun h_ => absurd h_ (by assumption)) (by omega) (by rw [X11_commands_l1, if_pos c1, if_pos c2, if_neg c3, if_neg c4] at hp; exact hp)
          ·
            refine v_aload_n (pc := 54) hX dX11_commands_54 rfl ?_
            refine v_callV (z := yX11_command) (pc := 55) hX dX11_commands_55 (c_X11_command hO ((X11_mark_m g m r 59 )) r ((gA m (r + 1) 5).toNatClampNeg) ((gA m (r + 1) 6).toNatClampNeg) (hs.to (by simp only [mm, kK_X11_mark]) (by simp only [mm, kR_X11_mark])) (by simp only [mm, kA_X11_mark]; exact hRI.1.1) hRI.1.2 (by simp only [mm, kA_X11_mark]; exact hRI.2.1) hRI.2.2 (mk_PG (g := g) (a := 59) hHe hEn (by decide)).1 (by simp [mm, kI_X11_mark]; exact hEn) (by assumption) ⟨fun j h => by simp [mm, kA_X11_mark]; exact hwd.1 j h, fun j h => by simp [mm, kA_X11_mark]; exact hwd.2 j h⟩) (by simp only [mm, kK_X11_mark]; exact hs.k) rfl wd_1889 wd_1891 wp_46 wd_16 wd_1892 ⟨by decide, by decide, (by decide +kernel : (parseMethodDescriptor yX11_command.desc).map (fun d => d.parameters.length) = some 0)⟩ rfl (Nat.le_of_ble_eq_true rfl) ⟨⟨by decide, by decide⟩, by decide, by decide⟩ (fun E m9 h9 => h9.elim) (fun r9 m9 h9 => ?_)
            obtain ⟨rfl, h8⟩ := h9
            replace h8 := h8.symm
            subst h8
            show mV g x _ _ _ _ _ []
            refine v_iinc (w := nI (j + 1)) (pc := 58) hX dX11_commands_58 rfl (nI_1 _) (by decide) rfl ?_
            refine v_goto (tgt := 16) (pc := 61) hX dX11_commands_61 (by decide) ?_
            refine mV_sub (lv' := [(0, .ref r), (1, .int (nI (j + 1)))]) ⟨rfl, rfl, trivial⟩ ?_
            exact ih (j + 1)  ((X11_command_m g ((X11_mark_m g m r 59 )) r ((gA m (r + 1) 5).toNatClampNeg) ((gA m (r + 1) 6).toNatClampNeg))) (hs.to (by simp only [mm, kK_X11_command, kK_X11_mark]) (by simp only [mm, kR_X11_command, kR_X11_mark])) (by simp [mm, kI_X11_command, kI_X11_mark]; exact hEn) ⟨fun j h => by simp [mm, kA_X11_command, kA_X11_mark]; exact hwd.1 j h, fun j h => by simp [mm, kA_X11_command, kA_X11_mark]; exact hwd.2 j h⟩ (cd_RI (g := g) (m := ((X11_mark_m g m r 59))) (mk_RI (g := g) (a := 59) hRI) (by simp only [mm, kA_X11_mark]; exact hRI.1.1) hRI.1.2 hRI.2.2) (cd_PG (g := g) (m := ((X11_mark_m g m r 59))) (r := r) (N := (gA m (r + 1) 5).toNatClampNeg) (H := (gA m (r + 1) 6).toNatClampNeg) (mk_PG (g := g) (a := 59) hHe hEn (by decide)).1 ((mk_PG (g := g) (a := 59) hHe hEn (by decide)).en hEn)).1 (fun _ => by have q1_ := (mk_up (g := g) (a := 59) hHe (by assumption)).2.2; have q2_ := (cd_PG (g := g) (m := ((X11_mark_m g m r 59))) (r := r) (N := (gA m (r + 1) 5).toNatClampNeg) (H := (gA m (r + 1) 6).toNatClampNeg) (mk_PG (g := g) (a := 59) hHe hEn (by decide)).1 ((mk_PG (g := g) (a := 59) hHe hEn (by decide)).en hEn)).2.2; have q3_ := hpr (by assumption); omega) (by omega) (by rw [X11_commands_l1, if_pos c1, if_pos c2, if_neg c3, if_pos c4] at hp; exact hp)
theorem kK_X11_commands_l1 (g : mG) (r : Nat)  : ∀ (n j : Nat)  (m : mM), gK ((X11_commands_l1 g r  n j  m).2) = gK m := by
  intro n
  induction n with
  | zero =>
    intro j  m
    rw [X11_commands_l1]
    repeat' split
    all_goals simp only [mm, kK_X11_command, kK_X11_mark]
  | succ n ih =>
    intro j  m
    rw [X11_commands_l1]
    repeat' split
    all_goals simp only [mm, ih, kK_X11_command, kK_X11_mark]
theorem kN_X11_commands_l1 (g : mG) (r : Nat)  : ∀ (n j : Nat)  (m : mM), gN ((X11_commands_l1 g r  n j  m).2) = gN m := by
  intro n
  induction n with
  | zero =>
    intro j  m
    rw [X11_commands_l1]
    repeat' split
    all_goals simp only [mm, kN_X11_command, kN_X11_mark]
  | succ n ih =>
    intro j  m
    rw [X11_commands_l1]
    repeat' split
    all_goals simp only [mm, ih, kN_X11_command, kN_X11_mark]
theorem kI_X11_commands_l1 (g : mG) (r : Nat)  (k a9 : Nat) (h0 : k ≠ 384) (h1 : k ≠ 401) (h2 : k ≠ 404) : ∀ (n j : Nat)  (m : mM), gI ((X11_commands_l1 g r  n j  m).2) k a9 = gI m k a9 := by
  intro n
  induction n with
  | zero =>
    intro j  m
    rw [X11_commands_l1]
    repeat' split
    all_goals simp [mm, kI_X11_command, kI_X11_mark, h0, h1, h2]
  | succ n ih =>
    intro j  m
    rw [X11_commands_l1]
    repeat' split
    all_goals simp [mm, ih, kI_X11_command, kI_X11_mark, h0, h1, h2]
theorem kJ_X11_commands_l1 (g : mG) (r : Nat)  : ∀ (n j : Nat)  (m : mM), gJ ((X11_commands_l1 g r  n j  m).2) = gJ m := by
  intro n
  induction n with
  | zero =>
    intro j  m
    rw [X11_commands_l1]
    repeat' split
    all_goals simp only [mm, kJ_X11_command, kJ_X11_mark]
  | succ n ih =>
    intro j  m
    rw [X11_commands_l1]
    repeat' split
    all_goals simp only [mm, ih, kJ_X11_command, kJ_X11_mark]
theorem kR_X11_commands_l1 (g : mG) (r : Nat)  : ∀ (n j : Nat)  (m : mM), gR ((X11_commands_l1 g r  n j  m).2) = gR m := by
  intro n
  induction n with
  | zero =>
    intro j  m
    rw [X11_commands_l1]
    repeat' split
    all_goals simp only [mm, kR_X11_command, kR_X11_mark]
  | succ n ih =>
    intro j  m
    rw [X11_commands_l1]
    repeat' split
    all_goals simp only [mm, ih, kR_X11_command, kR_X11_mark]
theorem kQ_X11_commands_l1 (g : mG) (r : Nat)  : ∀ (n j : Nat)  (m : mM), gQ ((X11_commands_l1 g r  n j  m).2) = gQ m := by
  intro n
  induction n with
  | zero =>
    intro j  m
    rw [X11_commands_l1]
    repeat' split
    all_goals simp only [mm, kQ_X11_command, kQ_X11_mark]
  | succ n ih =>
    intro j  m
    rw [X11_commands_l1]
    repeat' split
    all_goals simp only [mm, ih, kQ_X11_command, kQ_X11_mark]
theorem kL_X11_commands_l1 (g : mG) (r : Nat)  : ∀ (n j : Nat)  (m : mM), gL ((X11_commands_l1 g r  n j  m).2) = gL m := by
  intro n
  induction n with
  | zero =>
    intro j  m
    rw [X11_commands_l1]
    repeat' split
    all_goals simp only [mm, kL_X11_command, kL_X11_mark]
  | succ n ih =>
    intro j  m
    rw [X11_commands_l1]
    repeat' split
    all_goals simp only [mm, ih, kL_X11_command, kL_X11_mark]
theorem kD_X11_commands_l1 (g : mG) (r : Nat)  : ∀ (n j : Nat)  (m : mM), gD ((X11_commands_l1 g r  n j  m).2) = gD m := by
  intro n
  induction n with
  | zero =>
    intro j  m
    rw [X11_commands_l1]
    repeat' split
    all_goals simp only [mm, kD_X11_command, kD_X11_mark]
  | succ n ih =>
    intro j  m
    rw [X11_commands_l1]
    repeat' split
    all_goals simp only [mm, ih, kD_X11_command, kD_X11_mark]
theorem kA_X11_commands_l1 (g : mG) (r : Nat)  (c9 i9 : Nat) (h0 : c9 ≠ r + 1) (h1 : c9 ≠ r + 8) (h2 : c9 ≠ r + 9) : ∀ (n j : Nat)  (m : mM), gA ((X11_commands_l1 g r  n j  m).2) c9 i9 = gA m c9 i9 := by
  intro n
  induction n with
  | zero =>
    intro j  m
    rw [X11_commands_l1]
    repeat' split
    all_goals simp [mm, kA_X11_command, kA_X11_mark, h0, h1, h2]
  | succ n ih =>
    intro j  m
    rw [X11_commands_l1]
    repeat' split
    all_goals simp [mm, ih, kA_X11_command, kA_X11_mark, h0, h1, h2]
def X11_commands_r (g : mG) (m : mM) (r : Nat)  : Int32 := (X11_commands_l1 g r  61 1  ((X11_command_m g ((sI (sI m 401 r 0) 404 r 0)) r ((gA m (r + 1) 5).toNatClampNeg) ((gA m (r + 1) 6).toNatClampNeg)))).1
def X11_commands_m (g : mG) (m : mM) (r : Nat)  : mM := (X11_commands_l1 g r  61 1  ((X11_command_m g ((sI (sI m 401 r 0) 404 r 0)) r ((gA m (r + 1) 5).toNatClampNeg) ((gA m (r + 1) 6).toNatClampNeg)))).2
theorem kK_X11_commands (g : mG) (m : mM) (r : Nat)  : gK (X11_commands_m g m r ) = gK m := by
  unfold X11_commands_m
  repeat' split
  all_goals simp only [mm, kK_X11_command, kK_X11_commands_l1]
theorem kN_X11_commands (g : mG) (m : mM) (r : Nat)  : gN (X11_commands_m g m r ) = gN m := by
  unfold X11_commands_m
  repeat' split
  all_goals simp only [mm, kN_X11_command, kN_X11_commands_l1]
theorem kI_X11_commands (g : mG) (m : mM) (r : Nat)  (k a9 : Nat) (h0 : k ≠ 384) (h1 : k ≠ 401) (h2 : k ≠ 404) : gI (X11_commands_m g m r ) k a9 = gI m k a9 := by
  unfold X11_commands_m
  repeat' split
  all_goals simp [mm, kI_X11_command, kI_X11_commands_l1, h0, h1, h2]
theorem kJ_X11_commands (g : mG) (m : mM) (r : Nat)  : gJ (X11_commands_m g m r ) = gJ m := by
  unfold X11_commands_m
  repeat' split
  all_goals simp only [mm, kJ_X11_command, kJ_X11_commands_l1]
theorem kR_X11_commands (g : mG) (m : mM) (r : Nat)  : gR (X11_commands_m g m r ) = gR m := by
  unfold X11_commands_m
  repeat' split
  all_goals simp only [mm, kR_X11_command, kR_X11_commands_l1]
theorem kQ_X11_commands (g : mG) (m : mM) (r : Nat)  : gQ (X11_commands_m g m r ) = gQ m := by
  unfold X11_commands_m
  repeat' split
  all_goals simp only [mm, kQ_X11_command, kQ_X11_commands_l1]
theorem kL_X11_commands (g : mG) (m : mM) (r : Nat)  : gL (X11_commands_m g m r ) = gL m := by
  unfold X11_commands_m
  repeat' split
  all_goals simp only [mm, kL_X11_command, kL_X11_commands_l1]
theorem kD_X11_commands (g : mG) (m : mM) (r : Nat)  : gD (X11_commands_m g m r ) = gD m := by
  unfold X11_commands_m
  repeat' split
  all_goals simp only [mm, kD_X11_command, kD_X11_commands_l1]
theorem kA_X11_commands (g : mG) (m : mM) (r : Nat)  (c9 i9 : Nat) (h0 : c9 ≠ r + 1) (h1 : c9 ≠ r + 8) (h2 : c9 ≠ r + 9) : gA (X11_commands_m g m r ) c9 i9 = gA m c9 i9 := by
  unfold X11_commands_m
  repeat' split
  all_goals simp [mm, kA_X11_command, kA_X11_commands_l1, h0, h1, h2]
set_option maxHeartbeats 4000000 in
set_option maxRecDepth 100000 in
theorem c_X11_commands {l : Launch} {g : mG} (hO : mO l g) (m : mM) (r : Nat)  (hs : SR m r) (hEn : okI (gI m 402 r) 60) (hwd : WD m r) (hRI : RI m r) : mT l g yX11_commands (.code yX11_commands cX11_commands 2 (Option.some FieldType.int)) 6 134 0 0 [.ref r] m (fun u m' => u = some (.int (X11_commands_r g m r )) ∧ m' = X11_commands_m g m r ) nX := by
  refine mT_of hO (by decide) (Nat.le_of_ble_eq_true rfl) (fun x hX hZ => ?_)
  show mV g x m 0 0 0 [(0, .ref r)] []
  refine v_aload_n (pc := 0) hX dX11_commands_0 rfl ?_
  refine v_iconst (v := 0) (pc := 1) hX dX11_commands_1 (by decide) ?_
  refine v_put (m1 := (sI m 401 r 0)) (pc := 2) hX dX11_commands_2 hs.k (ci := 12) (r := vwC12) rfl 17 (by decide) wd_1523 rfl rfl rfl rfl ?_
  refine v_aload_n (pc := 5) hX dX11_commands_5 rfl ?_
  refine v_iconst (v := 0) (pc := 6) hX dX11_commands_6 (by decide) ?_
  refine v_put (m1 := (sI (sI m 401 r 0) 404 r 0)) (pc := 7) hX dX11_commands_7 (by simp only [mm]; exact hs.k) (ci := 12) (r := vwC12) rfl 20 (by decide) wd_1526 rfl (by decide) (by decide) rfl ?_
  refine v_iconst (v := 1) (pc := 10) hX dX11_commands_10 (by decide) ?_
  refine v_istore_n (pc := 11) hX dX11_commands_11 (by decide) rfl ?_
  refine v_aload_n (pc := 12) hX dX11_commands_12 rfl ?_
  refine v_callV (z := yX11_command) (pc := 13) hX dX11_commands_13 (c_X11_command hO ((sI (sI m 401 r 0) 404 r 0)) r ((gA m (r + 1) 5).toNatClampNeg) ((gA m (r + 1) 6).toNatClampNeg) (hs.to (by simp only [mm]) (by simp only [mm])) (by simp only [mm]; exact hRI.1.1) hRI.1.2 (by simp only [mm]; exact hRI.2.1) hRI.2.2 (by simp [mm]; exact okI_nI (n := 0) (Nat.zero_le _) (by decide)) (by simp [mm]; exact hEn) (by simp [mm]) ⟨fun j h => by simp [mm]; exact hwd.1 j h, fun j h => by simp [mm]; exact hwd.2 j h⟩) (by simp only [mm]; exact hs.k) rfl wd_1889 wd_1891 wp_46 wd_16 wd_1892 ⟨by decide, by decide, (by decide +kernel : (parseMethodDescriptor yX11_command.desc).map (fun d => d.parameters.length) = some 0)⟩ rfl (Nat.le_of_ble_eq_true rfl) ⟨⟨by decide, by decide⟩, by decide, by decide⟩ (fun E m9 h9 => h9.elim) (fun r9 m9 h9 => ?_)
  obtain ⟨rfl, h8⟩ := h9
  replace h8 := h8.symm
  subst h8
  show mV g x _ _ _ _ _ []
  refine mV_sub (lv' := [(0, .ref r), (1, .int (nI 1))]) ⟨rfl, rfl, trivial⟩ ?_
  exact lp_X11_commands_l1 hO r   hX hZ 61 1  ((X11_command_m g ((sI (sI m 401 r 0) 404 r 0)) r ((gA m (r + 1) 5).toNatClampNeg) ((gA m (r + 1) 6).toNatClampNeg))) (hs.to (by simp only [mm, kK_X11_command]) (by simp only [mm, kR_X11_command])) (by simp [mm, kI_X11_command]; exact hEn) ⟨fun j h => by simp [mm, kA_X11_command]; exact hwd.1 j h, fun j h => by simp [mm, kA_X11_command]; exact hwd.2 j h⟩ (cd_RI (g := g) (m := ((sI (sI m 401 r 0) 404 r 0))) (show RI ((sI (sI m 401 r 0) 404 r 0)) r from hRI) (by simp only [mm]; exact hRI.1.1) hRI.1.2 hRI.2.2) (cd_PG (g := g) (m := ((sI (sI m 401 r 0) 404 r 0))) (r := r) (N := (gA m (r + 1) 5).toNatClampNeg) (H := (gA m (r + 1) 6).toNatClampNeg) (by simp [mm]; exact okI_nI (n := 0) (Nat.zero_le _) (by decide)) (by simp [mm]; exact hEn)).1 (fun _ => by omega) (by omega) ⟨(by rw [X11_commands_r]), (by rw [X11_commands_m])⟩
