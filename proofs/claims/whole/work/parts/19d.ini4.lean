/-! THE FORECAST'S CONSTRUCTOR -/
section
variable {g : mG} {m M : mM} {c : Nat}
def foA (g : mG) (m : mM) (c : Nat) : mM := sR (X3_init_m g (nw m (.inl 5)) (c + 1)) 128 c (some (c + 1))
def foB (g : mG) (m : mM) (c : Nat) : mM := sR (X4_init_m g (nw (foA g m c) (.inl 6)) (c + 17)) 129 c (some (c + 17))
def foC (g : mG) (m : mM) (c : Nat) : mM := sR (X7_init_m g (nw (foB g m c) (.inl 9)) (c + 18)) 130 c (some (c + 18))
def OA (m0 m : mM) (c : Nat) : Prop := gN m = c + 17 ∧ gK m c = some (.inl 4) ∧ gR m 128 c = some (c + 1) ∧ SF m (c + 1) ∧ ∀ a, a < c → gK m a = gK m0 a ∧ mS m0 m a
def OB (m0 m : mM) (c : Nat) : Prop := gN m = c + 18 ∧ gK m c = some (.inl 4) ∧ gR m 128 c = some (c + 1) ∧ gR m 129 c = some (c + 17) ∧ gK m (c + 17) = some (.inl 6) ∧ SF m (c + 1) ∧ ∀ a, a < c → gK m a = gK m0 a ∧ mS m0 m a
def OC (m0 m : mM) (c : Nat) : Prop := gN m = c + 19 ∧ SC m c ∧ ∀ a, a < c → gK m a = gK m0 a ∧ mS m0 m a
theorem nw5_n (hg : gN m = c + 1) : gN (nw m (.inl 5)) = c + 1 + 1 := by
  simp only [mm]
  rw [hg]
theorem nw5_k (hg : gN m = c + 1) : gK (nw m (.inl 5)) (c + 1) = some (.inl 5) := by
  simp only [mm]
  rw [if_pos hg.symm]
theorem oA0 (hk : gK m c = some (.inl 4)) (hg : gN m = c + 1) (l : ∀ {a}, a < c + 1 → gK M a = gK (nw m (.inl 5)) a ∧ mS (nw m (.inl 5)) M a) (sf : SF M (c + 1)) (sn : gN M = c + 1 + 16) : OA m (sR M 128 c (some (c + 1))) c := by
  have n : ∀ a, a < c + 1 → gK (nw m (.inl 5)) a = gK m a := fun a ha => by
    simp only [mm]
    rw [if_neg (by omega)]
  refine ⟨?_, ?_, by simp [mm], sf.below (fun a h1 h2 => ⟨rfl, mS_R (by omega)⟩), fun a ha => ⟨?_, mS_tr (mS_nw (by omega)) (mS_tr (l (by omega)).2 (mS_R (by omega)))⟩⟩
  · simp only [mm]
    omega
  · simp only [mm]
    exact (l (by omega)).1.trans ((n c (by omega)).trans hk)
  · simp only [mm]
    exact (l (by omega)).1.trans (n a (by omega))
theorem oA (hk : gK m c = some (.inl 4)) (hg : gN m = c + 1) : OA m (foA g m c) c := oA0 hk hg (fun ha => fi_F (g := g) (nw5_k hg) (nw5_n hg) ha) (fi_SF (g := g) (nw5_k hg) (nw5_n hg)) (fi_n (g := g) (nw5_k hg) (nw5_n hg))
theorem oB0 (s : OA m M c) : OB m (sR (X4_init_m g (nw M (.inl 6)) (c + 17)) 129 c (some (c + 17))) c := by
  obtain ⟨s1, s2, s3, s4, s5⟩ := s
  unfold X4_init_m
  have l : ∀ a, a < c + 17 → a ≠ c → mS M (sR (sJ (sI (sI (sI (nw M (.inl 6)) 192 (c + 17) 20) 193 (c + 17) 0) 194 (c + 17) 20) 195 (c + 17) 0) 129 c (some (c + 17))) a := fun a ha hc => mS_tr (mS_nw (by omega)) (mS_tr (mS_I (by omega)) (mS_tr (mS_I (by omega)) (mS_tr (mS_I (by omega)) (mS_tr (mS_J (by omega)) (mS_R (by omega))))))
  have k : ∀ a, a < c + 17 → gK (sR (sJ (sI (sI (sI (nw M (.inl 6)) 192 (c + 17) 20) 193 (c + 17) 0) 194 (c + 17) 20) 195 (c + 17) 0) 129 c (some (c + 17))) a = gK M a := fun a ha => by
    simp only [mm]
    rw [if_neg (by omega)]
  refine ⟨?_, (k c (by omega)).trans s2, ?_, by simp [mm], ?_, s4.below (fun a h1 h2 => ⟨k a (by omega), l a (by omega) (by omega)⟩), fun a ha => ⟨(k a (by omega)).trans (s5 a ha).1, mS_tr (s5 a ha).2 (l a (by omega) (by omega))⟩⟩
  · simp only [mm]
    omega
  · simp only [mm]
    rw [if_neg (by omega), if_neg (by omega)]
    exact s3
  · simp only [mm]
    rw [if_pos s1.symm]
theorem oB (hk : gK m c = some (.inl 4)) (hg : gN m = c + 1) : OB m (foB g m c) c := oB0 (oA hk hg)
theorem oC0 (s : OB m M c) : OC m (sR (X7_init_m g (nw M (.inl 9)) (c + 18)) 130 c (some (c + 18))) c := by
  obtain ⟨s1, s2, s3, s4, s5, s6, s7⟩ := s
  have l : ∀ a, a < c + 18 → a ≠ c → mS M (sR (X7_init_m g (nw M (.inl 9)) (c + 18)) 130 c (some (c + 18))) a := fun a ha hc => by
    unfold X7_init_m
    exact mS_tr (mS_nw (by omega)) (mS_tr (mS_I (by omega)) (mS_tr (mS_I (by omega)) (mS_tr (mS_I (by omega)) (mS_tr (mS_I (by omega)) (mS_tr (mS_I (by omega)) (mS_tr (mS_I (by omega)) (mS_tr (mS_I (by omega)) (mS_tr (mS_R (by omega)) (mS_R (by omega))))))))))
  have k : ∀ a, a < c + 18 → gK (sR (X7_init_m g (nw M (.inl 9)) (c + 18)) 130 c (some (c + 18))) a = gK M a := fun a ha => by
    unfold X7_init_m
    simp only [mm]
    rw [if_neg (by omega)]
  have r : ∀ ky, ky ≠ 130 → gR (sR (X7_init_m g (nw M (.inl 9)) (c + 18)) 130 c (some (c + 18))) ky c = gR M ky c := fun ky hy => by
    unfold X7_init_m
    simp only [mm]
    rw [if_neg (by omega), if_neg (by omega), if_neg (by omega)]
  refine ⟨?_, ⟨(k c (by omega)).trans s2, (r 128 (by decide)).trans s3, (r 129 (by decide)).trans s4, by simp [mm], (k _ (by omega)).trans s5, ?_, s6.below (fun a h1 h2 => ⟨k a (by omega), l a (by omega) (by omega)⟩)⟩, fun a ha => ⟨(k a (by omega)).trans (s7 a ha).1, mS_tr (s7 a ha).2 (l a (by omega) (by omega))⟩⟩
  · unfold X7_init_m
    simp only [mm]
    omega
  · unfold X7_init_m
    simp only [mm]
    rw [if_pos s1.symm]
theorem oC (hk : gK m c = some (.inl 4)) (hg : gN m = c + 1) : OC m (foC g m c) c := oC0 (oB hk hg)
theorem foA_f : sR (X3_init_m g (nw m (.inl 5)) (c + 1)) 128 c (some (c + 1)) = foA g m c := rfl
theorem foB_f : sR (X4_init_m g (nw (foA g m c) (.inl 6)) (c + 17)) 129 c (some (c + 17)) = foB g m c := rfl
theorem foC_f : sR (X7_init_m g (nw (foB g m c) (.inl 9)) (c + 18)) 130 c (some (c + 18)) = foC g m c := rfl
theorem fo_k3 (hk : gK m c = some (.inl 4)) (hg : gN m = c + 1) : gK (X3_init_m g (nw m (.inl 5)) (c + 1)) c = some (.inl 4) := by
  refine (fi_F (g := g) (nw5_k hg) (nw5_n hg) (by omega)).1.trans ?_
  simp only [mm]
  rw [if_neg (by omega)]
  exact hk
end
def X2_init_m (g : mG) (m : mM) (c : Nat)  : mM := (foC g m c)

set_option maxHeartbeats 4000000 in
set_option maxRecDepth 100000 in
theorem c_X2_init {l : Launch} {g : mG} (hO : mO l g) (m : mM) (c : Nat)  (hk : gK m c = some (.inl 4)) (hg : gN m = c + 1) : mT l g yX2_init (.code yX2_init cX2_init 1 (Option.none : Option FieldType)) 3 61 18 112 [.ref c] m (fun u m' => u = none ∧ m' = X2_init_m g m c ) nX := by
  refine mT_of hO (by decide) (Nat.le_of_ble_eq_true rfl) (fun x hX hZ => ?_)
  show mV g x m 0 0 0 [(0, .ref c)] []
  refine v_aload_n (pc := 0) hX dX2_init_0 rfl ?_
  refine v_objInit (pc := 1) hX dX2_init_1 wd_222 wd_43 wd_44 (by decide) (by decide) ?_
  refine v_aload_n (pc := 4) hX dX2_init_4 rfl ?_
  refine v_new (ci := 5) (r := vwC5) (pc := 5) hX dX2_init_5 rfl wd_223 wd_46 wd_2 (by decide) (by decide) ?_
  rw [hg]
  refine v_dup (pc := 8) hX dX2_init_8 rfl ?_
  refine v_callI (z := yX3_init) (pc := 9) hX dX2_init_9 (c_X3_init hO ((nw m (.inl 5))) (c + 1) (nw5_k hg) (nw5_n hg)) wd_224 wd_48 wd_2 wd_49 rfl ⟨by decide, by decide, (by decide +kernel : (parseMethodDescriptor yX3_init.desc).map (fun d => d.parameters.length) = some 0)⟩ rfl (Nat.le_of_ble_eq_true rfl) ⟨⟨by decide, by decide⟩, by decide, by decide⟩ (fun E m9 h9 => h9.elim) (fun r9 m9 h9 => ?_)
  obtain ⟨rfl, h8⟩ := h9
  replace h8 := h8.symm
  subst h8
  show mV g x _ _ _ _ _ [.ref (c + 1), .ref c]
  refine v_putF (m1 := (sR (X3_init_m g ((nw m (.inl 5))) (c + 1) ) 128 c (some (c + 1)))) (pc := 12) hX dX2_init_12 (fo_k3 hk hg) (ci := 4) (r := vwC4) rfl 0 (by decide) wd_229 rfl rfl rfl rfl rfl rfl ?_
  refine mV_eqM (m1 := (foA g m c)) (foA_f) ?_
  refine v_aload_n (pc := 15) hX dX2_init_15 rfl ?_
  refine v_new (ci := 6) (r := vwC6) (pc := 16) hX dX2_init_16 rfl wd_225 wd_52 wd_3 (by decide) (by decide) ?_
  rw [(oA (g := g) hk hg).1]
  refine v_dup (pc := 19) hX dX2_init_19 rfl ?_
  refine v_callIN (z := yX4_init) (pc := 20) hX dX2_init_20 (c_X4_init hO ((nw ((foA g m c)) (.inl 6))) (c + 17) (by simp only [mm, kK_X4_init]; rw [if_pos (oA (g := g) hk hg).1.symm])) wd_226 wd_54 wd_3 wd_55 rfl ⟨by decide, by decide, (by decide +kernel : (parseMethodDescriptor yX4_init.desc).map (fun d => d.parameters.length) = some 0)⟩ rfl (Nat.le_of_ble_eq_true rfl) ⟨⟨by decide, by decide⟩, by decide, by decide⟩ (fun E m9 h9 => h9.elim) (fun r9 m9 h9 => ?_)
  obtain ⟨rfl, h8⟩ := h9
  replace h8 := h8.symm
  subst h8
  show mV g x _ _ _ _ _ [.ref (c + 17), .ref c]
  refine v_putF (m1 := (sR (X4_init_m g ((nw ((foA g m c)) (.inl 6))) (c + 17)) 129 c (some (c + 17)))) (pc := 23) hX dX2_init_23 (by simp only [mm, kK_X4_init]; rw [if_neg (by have := (oA (g := g) hk hg).1; omega)]; exact (oA (g := g) hk hg).2.1) (ci := 4) (r := vwC4) rfl 1 (by decide) wd_230 rfl rfl rfl rfl rfl rfl ?_
  refine mV_eqM (m1 := (foB g m c)) (foB_f) ?_
  refine v_aload_n (pc := 26) hX dX2_init_26 rfl ?_
  refine v_new (ci := 9) (r := vwC9) (pc := 27) hX dX2_init_27 rfl wd_227 wd_83 wd_4 (by decide) (by decide) ?_
  rw [(oB (g := g) hk hg).1]
  refine v_dup (pc := 30) hX dX2_init_30 rfl ?_
  refine v_callIN (z := yX7_init) (pc := 31) hX dX2_init_31 (c_X7_init hO ((nw ((foB g m c)) (.inl 9))) (c + 18) (by simp only [mm, kK_X7_init]; rw [if_pos (oB (g := g) hk hg).1.symm])) wd_228 wd_85 wd_4 wd_86 rfl ⟨by decide, by decide, (by decide +kernel : (parseMethodDescriptor yX7_init.desc).map (fun d => d.parameters.length) = some 0)⟩ rfl (Nat.le_of_ble_eq_true rfl) ⟨⟨by decide, by decide⟩, by decide, by decide⟩ (fun E m9 h9 => h9.elim) (fun r9 m9 h9 => ?_)
  obtain ⟨rfl, h8⟩ := h9
  replace h8 := h8.symm
  subst h8
  show mV g x _ _ _ _ _ [.ref (c + 18), .ref c]
  refine v_putF (m1 := (sR (X7_init_m g ((nw ((foB g m c)) (.inl 9))) (c + 18)) 130 c (some (c + 18)))) (pc := 34) hX dX2_init_34 (by simp only [mm, kK_X7_init]; rw [if_neg (by have := (oB (g := g) hk hg).1; omega)]; exact (oB (g := g) hk hg).2.1) (ci := 4) (r := vwC4) rfl 2 (by decide) wd_231 rfl rfl rfl rfl rfl rfl ?_
  refine mV_eqM (m1 := (foC g m c)) (foC_f) ?_
  exact v_vret (pc := 37) hX hZ dX2_init_37 (by decide) (by decide) ⟨rfl, (by rw [X2_init_m])⟩
