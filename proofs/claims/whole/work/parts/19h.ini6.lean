/-! THE PROGRAM'S CONSTRUCTOR -/
section
variable {m : mM} {n k : Nat}
theorem mn_rows : ∀ j, (∀ i, i < j → gK (mnM m n k j) (gN m + 1 + i) = some (.inr (0, k))) ∧ (∀ i, i < j → gQ (mnM m n k j) (gN m) i = some (gN m + 1 + i)) ∧ (∀ a, a < gN m → gK (mnM m n k j) a = gK m a ∧ mS m (mnM m n k j) a)
  | 0 => by
    rw [mnM]
    refine ⟨fun i hi => by omega, fun i hi => by omega, fun a ha => ⟨?_, mS_nw (by omega)⟩⟩
    simp only [mm]
    rw [if_neg (by omega)]
  | j + 1 => by
    obtain ⟨h1, h2, h3⟩ := mn_rows j
    have hn := mn_N (m := m) (n := n) (k := k) j
    rw [mnM]
    refine ⟨fun i hi => ?_, fun i hi => ?_, fun a ha => ⟨?_, mS_tr (h3 a ha).2 (mS_tr (mS_nw (by omega)) (mS_Q (by omega)))⟩⟩
    · simp only [mm]
      by_cases c : i = j
      · rw [if_pos (by omega)]
      · rw [if_neg (by omega)]
        exact h1 i (by omega)
    · simp only [mm, true_and]
      by_cases c : i = j
      · rw [if_pos c, c]
      · rw [if_neg c, if_neg (by omega)]
        exact h2 i (by omega)
    · simp only [mm]
      rw [if_neg (by omega)]
      exact (h3 a ha).1
end
def pgT (m : mM) (p : Nat) : mM := sR (nw m (.inr (1, 60))) 320 p (some (p + 1))
def pgC (m : mM) (p : Nat) : mM := sR (nw (pgT m p) (.inr (9, 12))) 321 p (some (p + 2))
def pgN (m : mM) (p : Nat) : mM := mnM (pgC m p) 12 4 12
def pgR (m : mM) (p : Nat) : mM := sR (pgN m p) 322 p (some (p + 3))
def pgL (g : mG) (m : mM) (p : Nat) : Nat → mM
  | 0 => sI (sI (sI (pgR m p) 323 p 0) 324 p 0) 325 p 0
  | j + 1 => sQ (pgL g m p j) (p + 2) j (some (cmA g 11))
section
variable {g : mG} {m : mM} {p : Nat}
theorem pgT_f (hk : gK m p = some (.inl 10)) (hg : gN m = p + 1) : gN (pgT m p) = p + 2 ∧ gK (pgT m p) p = some (.inl 10) ∧ gK (pgT m p) (p + 1) = some (.inr (1, 60)) ∧ gR (pgT m p) 320 p = some (p + 1) ∧ ∀ a, a < p → gK (pgT m p) a = gK m a ∧ mS m (pgT m p) a := by
  unfold pgT
  refine ⟨?_, ?_, ?_, by simp [mm], fun a ha => ⟨?_, mS_tr (mS_nw (by omega)) (mS_R (by omega))⟩⟩
  · simp only [mm]
    omega
  · simp only [mm]
    rw [if_neg (by omega)]
    exact hk
  · simp only [mm]
    rw [if_pos (by omega)]
  · simp only [mm]
    rw [if_neg (by omega)]
theorem pgC_f (hk : gK m p = some (.inl 10)) (hg : gN m = p + 1) : gN (pgC m p) = p + 3 ∧ gK (pgC m p) p = some (.inl 10) ∧ gK (pgC m p) (p + 1) = some (.inr (1, 60)) ∧ gK (pgC m p) (p + 2) = some (.inr (9, 12)) ∧ gR (pgC m p) 320 p = some (p + 1) ∧ gR (pgC m p) 321 p = some (p + 2) ∧ ∀ a, a < p → gK (pgC m p) a = gK m a ∧ mS m (pgC m p) a := by
  obtain ⟨h1, h2, h3, h4, h5⟩ := pgT_f hk hg
  unfold pgC
  refine ⟨?_, ?_, ?_, ?_, ?_, by simp [mm], fun a ha => ⟨?_, mS_tr (h5 a ha).2 (mS_tr (mS_nw (by omega)) (mS_R (by omega)))⟩⟩
  · simp only [mm]
    omega
  · simp only [mm]
    rw [if_neg (by omega)]
    exact h2
  · simp only [mm]
    rw [if_neg (by omega)]
    exact h3
  · simp only [mm]
    rw [if_pos (by omega)]
  · have e : p ≠ gN (pgT m p) := by omega
    simp [mm, e, h4]
  · simp only [mm]
    rw [if_neg (by omega)]
    exact (h5 a ha).1
def NZ (m M : mM) (p : Nat) : Prop := gN M = p + 16 ∧ gK M p = some (.inl 10) ∧ gK M (p + 1) = some (.inr (1, 60)) ∧ gK M (p + 2) = some (.inr (9, 12)) ∧ gK M (p + 3) = some (.inr (10, 12)) ∧ (∀ i, i < 12 → gK M (p + 4 + i) = some (.inr (0, 4))) ∧ (∀ i, i < 12 → gQ M (p + 3) i = some (p + 4 + i)) ∧ gR M 320 p = some (p + 1) ∧ gR M 321 p = some (p + 2) ∧ ∀ a, a < p → gK M a = gK m a ∧ mS m M a
theorem pgN_g {C : mM} {n k : Nat} (hN : n = 12) (hk4 : k = 4) (hC : gN C = p + 3 ∧ gK C p = some (.inl 10) ∧ gK C (p + 1) = some (.inr (1, 60)) ∧ gK C (p + 2) = some (.inr (9, 12)) ∧ gR C 320 p = some (p + 1) ∧ gR C 321 p = some (p + 2) ∧ ∀ a, a < p → gK C a = gK m a ∧ mS m C a) : NZ m (mnM C n k n) p := by
  obtain ⟨h1, h2, h3, h4, h5, h6, h7⟩ := hC
  obtain ⟨r1, r2, r3⟩ := mn_rows (m := C) (n := n) (k := k) n
  have rK := mn_K (m := C) (n := n) (k := k) n
  have rN := mn_N (m := C) (n := n) (k := k) n
  rw [h1] at r1 r2 r3 rK rN
  refine ⟨by omega, (r3 p (by omega)).1.trans h2, (r3 _ (by omega)).1.trans h3, (r3 _ (by omega)).1.trans h4, ?_, fun i hi => ?_, fun i hi => ?_, ((r3 p (by omega)).2.2.2.1 320).trans h5, ((r3 p (by omega)).2.2.2.1 321).trans h6, fun a ha => ⟨(r3 a (by omega)).1.trans (h7 a ha).1, mS_tr (h7 a ha).2 (r3 a (by omega)).2⟩⟩
  · rw [hN] at rK
    rw [← hN] at rK
    have e := rK
    subst hN
    exact e
  · have e := r1 i (by omega)
    rw [hk4] at e
    rw [hk4]
    exact e
  · exact r2 i (by omega)
theorem pgN_f (hk : gK m p = some (.inl 10)) (hg : gN m = p + 1) : NZ m (pgN m p) p := pgN_g rfl rfl (pgC_f hk hg)
theorem pgR_g {M : mM} (h : NZ m M p) : NZ m (sR M 322 p (some (p + 3))) p ∧ gR (sR M 322 p (some (p + 3))) 322 p = some (p + 3) := by
  obtain ⟨h1, h2, h3, h4, h5, h6, h7, h8, h9, h10⟩ := h
  refine ⟨⟨h1, h2, h3, h4, h5, h6, h7, ?_, ?_, fun a ha => ⟨(h10 a ha).1, mS_tr (h10 a ha).2 (mS_R (by omega))⟩⟩, by simp [mm]⟩
  · simp [mm, h8]
  · simp [mm, h9]
theorem pgR_f (hk : gK m p = some (.inl 10)) (hg : gN m = p + 1) : NZ m (pgR m p) p ∧ gR (pgR m p) 322 p = some (p + 3) := pgR_g (pgN_f hk hg)
def PZ (g : mG) (m0 m : mM) (p j : Nat) : Prop := gN m = p + 16 ∧ SP m p ∧ gI m 323 p = 0 ∧ gI m 324 p = 0 ∧ gI m 325 p = 0 ∧ (∀ i, i < j → gQ m (p + 2) i = some (cmA g 11)) ∧ ∀ a, a < p → gK m a = gK m0 a ∧ mS m0 m a
theorem PZ.G (hk : gK m p = some (.inl 10)) (hg : gN m = p + 1) : ∀ j, PZ g m (pgL g m p j) p j
  | 0 => by
    obtain ⟨⟨h1, h2, h3, h4, h5, h6, h7, h8, h9, h11⟩, h10⟩ := pgR_f hk hg
    rw [pgL]
    generalize pgR m p = M at *
    refine ⟨h1, ⟨h2, h8, h9, h10, h3, h4, h5, h6, h7⟩, by simp [mm], by simp [mm], by simp [mm], fun i hi => by omega, fun a ha => ⟨(h11 a ha).1, mS_tr (h11 a ha).2 (mS_tr (mS_I (by omega)) (mS_tr (mS_I (by omega)) (mS_I (by omega))))⟩⟩
  | j + 1 => by
    obtain ⟨h1, ⟨s1, s2, s3, s4, s5, s6, s7, s8, s9⟩, h3, h4, h5, h6, h7⟩ := PZ.G hk hg j
    rw [pgL]
    refine ⟨h1, ⟨s1, s2, s3, s4, s5, s6, s7, s8, fun i hi => ?_⟩, h3, h4, h5, fun i hi => ?_, fun a ha => ⟨(h7 a ha).1, mS_tr (h7 a ha).2 (mS_Q (by omega))⟩⟩
    · have e : p + 3 ≠ p + 2 := by omega
      simp [mm, e, s9 i hi]
    · by_cases c : i = j
      · subst c
        simp [mm]
      · simp [mm, c, h6 i (by omega)]
theorem pgT_e : sR (nw m (.inr (1, 60))) 320 p (some (p + 1)) = pgT m p := rfl
theorem pgC_e : sR (nw (pgT m p) (.inr (9, 12))) 321 p (some (p + 2)) = pgC m p := rfl
theorem pgN_e : mnM (pgC m p) 12 4 12 = pgN m p := rfl
theorem pgR_e : sR (pgN m p) 322 p (some (p + 3)) = pgR m p := rfl
theorem pgL_e : sI (sI (sI (pgR m p) 323 p 0) 324 p 0) 325 p 0 = pgL g m p 0 := rfl
theorem pgL_s {j j1 : Nat} (e : j + 1 = j1) : sQ (pgL g m p j) (p + 2) j (some (cmA g 11)) = pgL g m p j1 := by
  subst e
  rfl
theorem wt_Z {l : Launch} (hO : mO l g) : va_Z "BirdForge$Command" "WAIT" "LBirdForge$Command;" (.ref (cmA g 11)) (fun a => (gH g).size ≤ a) g.2.2 (gH g) := (st_ref hO wd_250 wd_11 fl_6).1
end
def X8_init_m (g : mG) (m : mM) (p : Nat)  : mM := (pgL g m p 12)

set_option maxHeartbeats 4000000 in
set_option maxRecDepth 100000 in
theorem c_X8_init {l : Launch} {g : mG} (hO : mO l g) (m : mM) (p : Nat)  (hk : gK m p = some (.inl 10)) (hg : gN m = p + 1) : mT l g yX8_init (.code yX8_init cX8_init 2 (Option.none : Option FieldType)) 1 20 15 132 [.ref p] m (fun u m' => u = none ∧ m' = X8_init_m g m p ) nX := by
  refine mT_of hO (by decide) (Nat.le_of_ble_eq_true rfl) (fun x hX hZ => ?_)
  show mV g x m 0 0 0 [(0, .ref p)] []
  refine v_aload_n (pc := 0) hX dX8_init_0 rfl ?_
  refine v_objInit (pc := 1) hX dX8_init_1 wd_244 wd_43 wd_44 (by decide) (by decide) ?_
  refine v_aload_n (pc := 4) hX dX8_init_4 rfl ?_
  refine v_bipush (v := 60) (pc := 5) hX dX8_init_5 (by decide) ?_
  refine v_newarr (t := 1) (n := 60) (pc := 7) hX dX8_init_7 rfl (by decide) wd_271 rfl (by decide) (by show 0 + 1 ≤ 15; omega) (by show 0 + 60 ≤ 132; omega) ?_
  rw [hg]
  refine v_putF (m1 := (sR (nw m (.inr (1, 60))) 320 p (some (p + 1)))) (pc := 9) hX dX8_init_9 (by simp only [mm]; rw [if_neg (by omega)]; exact hk) (ci := 10) (r := vwC10) rfl 0 (by decide) wd_251 rfl rfl rfl rfl rfl rfl ?_
  refine mV_eqM (m1 := (pgT m p)) (pgT_e) ?_
  refine v_aload_n (pc := 12) hX dX8_init_12 rfl ?_
  refine v_bipush (v := 12) (pc := 13) hX dX8_init_13 (by decide) ?_
  refine v_anew (t := 9) (n := 12) (pc := 15) hX dX8_init_15 (by decide) (by decide) rfl wd_245 wd_246 rfl (by decide) (by decide) (by decide) ?_
  rw [(pgT_f hk hg).1]
  refine v_putF (m1 := (sR (nw ((pgT m p)) (.inr (9, 12))) 321 p (some (p + 2)))) (pc := 18) hX dX8_init_18 (by simp only [mm]; rw [if_neg (by have := (pgT_f hk hg).1; omega)]; exact (pgT_f hk hg).2.1) (ci := 10) (r := vwC10) rfl 1 (by decide) wd_252 rfl rfl rfl rfl rfl rfl ?_
  refine mV_eqM (m1 := (pgC m p)) (pgC_e) ?_
  refine v_aload_n (pc := 21) hX dX8_init_21 rfl ?_
  refine v_bipush (v := 12) (pc := 22) hX dX8_init_22 (by decide) ?_
  refine v_iconst (v := 4) (pc := 24) hX dX8_init_24 (by decide) ?_
  refine v_mnew (n := 12) (k := 4) (pc := 25) hX dX8_init_25 wd_247 wd_248 wd_272 (by decide) (by decide) (by decide) (by decide) (by decide) (by decide) ?_
  rw [(pgC_f hk hg).1]
  refine mV_eqM (m1 := (pgN m p)) (pgN_e) ?_
  refine v_putF (m1 := (sR (pgN m p) 322 p (some (p + 3)))) (pc := 29) hX dX8_init_29 (pgN_f hk hg).2.1 (ci := 10) (r := vwC10) rfl 2 (by decide) wd_253 rfl rfl rfl rfl rfl rfl ?_
  refine mV_eqM (m1 := (pgR m p)) (pgR_e) ?_
  refine v_aload_n (pc := 32) hX dX8_init_32 rfl ?_
  refine v_iconst (v := 0) (pc := 33) hX dX8_init_33 (by decide) ?_
  refine v_put (m1 := (sI (pgR m p) 323 p 0)) (pc := 34) hX dX8_init_34 (pgR_f hk hg).1.2.1 (ci := 10) (r := vwC10) rfl 3 (by decide) wd_254 rfl rfl rfl rfl ?_
  refine v_aload_n (pc := 37) hX dX8_init_37 rfl ?_
  refine v_iconst (v := 0) (pc := 38) hX dX8_init_38 (by decide) ?_
  refine v_put (m1 := (sI (sI (pgR m p) 323 p 0) 324 p 0)) (pc := 39) hX dX8_init_39 (by simp only [mm]; exact (pgR_f hk hg).1.2.1) (ci := 10) (r := vwC10) rfl 4 (by decide) wd_255 rfl rfl rfl rfl ?_
  refine v_aload_n (pc := 42) hX dX8_init_42 rfl ?_
  refine v_iconst (v := 0) (pc := 43) hX dX8_init_43 (by decide) ?_
  refine v_put (m1 := (sI (sI (sI (pgR m p) 323 p 0) 324 p 0) 325 p 0)) (pc := 44) hX dX8_init_44 (by simp only [mm]; exact (pgR_f hk hg).1.2.1) (ci := 10) (r := vwC10) rfl 5 (by decide) wd_257 rfl rfl rfl rfl ?_
  refine mV_eqM (m1 := (pgL g m p 0)) (pgL_e) ?_
  refine v_iconst (v := 0) (pc := 47) hX dX8_init_47 (by decide) ?_
  refine v_istore_n (pc := 48) hX dX8_init_48 (by decide) rfl ?_
  refine v_iload_n (pc := 49) hX dX8_init_49 rfl ?_
  refine v_aload_n (pc := 50) hX dX8_init_50 rfl ?_
  refine v_get (v := .ref (p + 2)) (pc := 51) hX dX8_init_51 (PZ.G (g := g) hk hg 0).2.1.1 (ci := 10) (r := vwC10) rfl 1 (by decide) wd_252 (fvA rfl ((PZ.G (g := g) hk hg 0).2.1.2.2.1)) ?_
  refine v_alen (t := 9) (n := 12) (pc := 54) hX dX8_init_54 (PZ.G (g := g) hk hg 0).2.1.2.2.2.2.2.1 (by decide) ?_
  refine v_icmp_ge (tgt := 73) (pc := 55) hX dX8_init_55 (by decide) (fun c1 => ?_) (fun c1 => ?_)
  · exact absurd c1 (by decide)
  ·
    refine v_aload_n (pc := 58) hX dX8_init_58 rfl ?_
    refine v_get (v := .ref (p + 2)) (pc := 59) hX dX8_init_59 (PZ.G (g := g) hk hg 0).2.1.1 (ci := 10) (r := vwC10) rfl 1 (by decide) wd_252 (fvA rfl ((PZ.G (g := g) hk hg 0).2.1.2.2.1)) ?_
    refine v_iload_n (pc := 62) hX dX8_init_62 rfl ?_
    refine v_gets (v := .ref (cmA g 11)) (pc := 63) hX dX8_init_63 (wt_Z hO) wd_249 ?_
    refine v_aastO (j := 0) (pc := 66) hX dX8_init_66 (PZ.G (g := g) hk hg 0).2.1.2.2.2.2.2.1 (by decide) (by decide) rfl (cm_O hO 11 (by decide)) (by decide) (by decide) (by decide) ?_
    refine mV_eqM (m1 := (pgL g m p 1)) (pgL_s (j := 0) (by decide)) ?_
    refine v_iinc (w := 0 + 1) (pc := 67) hX dX8_init_67 rfl rfl (by decide) rfl ?_
    refine v_goto (tgt := 49) (pc := 70) hX dX8_init_70 (by decide) ?_
    refine v_iload_n (pc := 49) hX dX8_init_49 rfl ?_
    refine v_aload_n (pc := 50) hX dX8_init_50 rfl ?_
    refine v_get (v := .ref (p + 2)) (pc := 51) hX dX8_init_51 (PZ.G (g := g) hk hg 1).2.1.1 (ci := 10) (r := vwC10) rfl 1 (by decide) wd_252 (fvA rfl ((PZ.G (g := g) hk hg 1).2.1.2.2.1)) ?_
    refine v_alen (t := 9) (n := 12) (pc := 54) hX dX8_init_54 (PZ.G (g := g) hk hg 1).2.1.2.2.2.2.2.1 (by decide) ?_
    refine v_icmp_ge (tgt := 73) (pc := 55) hX dX8_init_55 (by decide) (fun c2 => ?_) (fun c2 => ?_)
    · exact absurd c2 (by decide)
    ·
      refine v_aload_n (pc := 58) hX dX8_init_58 rfl ?_
      refine v_get (v := .ref (p + 2)) (pc := 59) hX dX8_init_59 (PZ.G (g := g) hk hg 1).2.1.1 (ci := 10) (r := vwC10) rfl 1 (by decide) wd_252 (fvA rfl ((PZ.G (g := g) hk hg 1).2.1.2.2.1)) ?_
      refine v_iload_n (pc := 62) hX dX8_init_62 rfl ?_
      refine v_gets (v := .ref (cmA g 11)) (pc := 63) hX dX8_init_63 (wt_Z hO) wd_249 ?_
      refine v_aastO (j := 1) (pc := 66) hX dX8_init_66 (PZ.G (g := g) hk hg 1).2.1.2.2.2.2.2.1 (by decide) (by decide) rfl (cm_O hO 11 (by decide)) (by decide) (by decide) (by decide) ?_
      refine mV_eqM (m1 := (pgL g m p 2)) (pgL_s (j := 1) (by decide)) ?_
      refine v_iinc (w := (0 + 1) + 1) (pc := 67) hX dX8_init_67 rfl rfl (by decide) rfl ?_
      refine v_goto (tgt := 49) (pc := 70) hX dX8_init_70 (by decide) ?_
      refine v_iload_n (pc := 49) hX dX8_init_49 rfl ?_
      refine v_aload_n (pc := 50) hX dX8_init_50 rfl ?_
      refine v_get (v := .ref (p + 2)) (pc := 51) hX dX8_init_51 (PZ.G (g := g) hk hg 2).2.1.1 (ci := 10) (r := vwC10) rfl 1 (by decide) wd_252 (fvA rfl ((PZ.G (g := g) hk hg 2).2.1.2.2.1)) ?_
      refine v_alen (t := 9) (n := 12) (pc := 54) hX dX8_init_54 (PZ.G (g := g) hk hg 2).2.1.2.2.2.2.2.1 (by decide) ?_
      refine v_icmp_ge (tgt := 73) (pc := 55) hX dX8_init_55 (by decide) (fun c3 => ?_) (fun c3 => ?_)
      · exact absurd c3 (by decide)
      ·
        refine v_aload_n (pc := 58) hX dX8_init_58 rfl ?_
        refine v_get (v := .ref (p + 2)) (pc := 59) hX dX8_init_59 (PZ.G (g := g) hk hg 2).2.1.1 (ci := 10) (r := vwC10) rfl 1 (by decide) wd_252 (fvA rfl ((PZ.G (g := g) hk hg 2).2.1.2.2.1)) ?_
        refine v_iload_n (pc := 62) hX dX8_init_62 rfl ?_
        refine v_gets (v := .ref (cmA g 11)) (pc := 63) hX dX8_init_63 (wt_Z hO) wd_249 ?_
        refine v_aastO (j := 2) (pc := 66) hX dX8_init_66 (PZ.G (g := g) hk hg 2).2.1.2.2.2.2.2.1 (by decide) (by decide) rfl (cm_O hO 11 (by decide)) (by decide) (by decide) (by decide) ?_
        refine mV_eqM (m1 := (pgL g m p 3)) (pgL_s (j := 2) (by decide)) ?_
        refine v_iinc (w := ((0 + 1) + 1) + 1) (pc := 67) hX dX8_init_67 rfl rfl (by decide) rfl ?_
        refine v_goto (tgt := 49) (pc := 70) hX dX8_init_70 (by decide) ?_
        refine v_iload_n (pc := 49) hX dX8_init_49 rfl ?_
        refine v_aload_n (pc := 50) hX dX8_init_50 rfl ?_
        refine v_get (v := .ref (p + 2)) (pc := 51) hX dX8_init_51 (PZ.G (g := g) hk hg 3).2.1.1 (ci := 10) (r := vwC10) rfl 1 (by decide) wd_252 (fvA rfl ((PZ.G (g := g) hk hg 3).2.1.2.2.1)) ?_
        refine v_alen (t := 9) (n := 12) (pc := 54) hX dX8_init_54 (PZ.G (g := g) hk hg 3).2.1.2.2.2.2.2.1 (by decide) ?_
        refine v_icmp_ge (tgt := 73) (pc := 55) hX dX8_init_55 (by decide) (fun c4 => ?_) (fun c4 => ?_)
        · exact absurd c4 (by decide)
        ·
          refine v_aload_n (pc := 58) hX dX8_init_58 rfl ?_
          refine v_get (v := .ref (p + 2)) (pc := 59) hX dX8_init_59 (PZ.G (g := g) hk hg 3).2.1.1 (ci := 10) (r := vwC10) rfl 1 (by decide) wd_252 (fvA rfl ((PZ.G (g := g) hk hg 3).2.1.2.2.1)) ?_
          refine v_iload_n (pc := 62) hX dX8_init_62 rfl ?_
          refine v_gets (v := .ref (cmA g 11)) (pc := 63) hX dX8_init_63 (wt_Z hO) wd_249 ?_
          refine v_aastO (j := 3) (pc := 66) hX dX8_init_66 (PZ.G (g := g) hk hg 3).2.1.2.2.2.2.2.1 (by decide) (by decide) rfl (cm_O hO 11 (by decide)) (by decide) (by decide) (by decide) ?_
          refine mV_eqM (m1 := (pgL g m p 4)) (pgL_s (j := 3) (by decide)) ?_
          refine v_iinc (w := (((0 + 1) + 1) + 1) + 1) (pc := 67) hX dX8_init_67 rfl rfl (by decide) rfl ?_
          refine v_goto (tgt := 49) (pc := 70) hX dX8_init_70 (by decide) ?_
          refine v_iload_n (pc := 49) hX dX8_init_49 rfl ?_
          refine v_aload_n (pc := 50) hX dX8_init_50 rfl ?_
          refine v_get (v := .ref (p + 2)) (pc := 51) hX dX8_init_51 (PZ.G (g := g) hk hg 4).2.1.1 (ci := 10) (r := vwC10) rfl 1 (by decide) wd_252 (fvA rfl ((PZ.G (g := g) hk hg 4).2.1.2.2.1)) ?_
          refine v_alen (t := 9) (n := 12) (pc := 54) hX dX8_init_54 (PZ.G (g := g) hk hg 4).2.1.2.2.2.2.2.1 (by decide) ?_
          refine v_icmp_ge (tgt := 73) (pc := 55) hX dX8_init_55 (by decide) (fun c5 => ?_) (fun c5 => ?_)
          · exact absurd c5 (by decide)
          ·
            refine v_aload_n (pc := 58) hX dX8_init_58 rfl ?_
            refine v_get (v := .ref (p + 2)) (pc := 59) hX dX8_init_59 (PZ.G (g := g) hk hg 4).2.1.1 (ci := 10) (r := vwC10) rfl 1 (by decide) wd_252 (fvA rfl ((PZ.G (g := g) hk hg 4).2.1.2.2.1)) ?_
            refine v_iload_n (pc := 62) hX dX8_init_62 rfl ?_
            refine v_gets (v := .ref (cmA g 11)) (pc := 63) hX dX8_init_63 (wt_Z hO) wd_249 ?_
            refine v_aastO (j := 4) (pc := 66) hX dX8_init_66 (PZ.G (g := g) hk hg 4).2.1.2.2.2.2.2.1 (by decide) (by decide) rfl (cm_O hO 11 (by decide)) (by decide) (by decide) (by decide) ?_
            refine mV_eqM (m1 := (pgL g m p 5)) (pgL_s (j := 4) (by decide)) ?_
            refine v_iinc (w := ((((0 + 1) + 1) + 1) + 1) + 1) (pc := 67) hX dX8_init_67 rfl rfl (by decide) rfl ?_
            refine v_goto (tgt := 49) (pc := 70) hX dX8_init_70 (by decide) ?_
            refine v_iload_n (pc := 49) hX dX8_init_49 rfl ?_
            refine v_aload_n (pc := 50) hX dX8_init_50 rfl ?_
            refine v_get (v := .ref (p + 2)) (pc := 51) hX dX8_init_51 (PZ.G (g := g) hk hg 5).2.1.1 (ci := 10) (r := vwC10) rfl 1 (by decide) wd_252 (fvA rfl ((PZ.G (g := g) hk hg 5).2.1.2.2.1)) ?_
            refine v_alen (t := 9) (n := 12) (pc := 54) hX dX8_init_54 (PZ.G (g := g) hk hg 5).2.1.2.2.2.2.2.1 (by decide) ?_
            refine v_icmp_ge (tgt := 73) (pc := 55) hX dX8_init_55 (by decide) (fun c6 => ?_) (fun c6 => ?_)
            · exact absurd c6 (by decide)
            ·
              refine v_aload_n (pc := 58) hX dX8_init_58 rfl ?_
              refine v_get (v := .ref (p + 2)) (pc := 59) hX dX8_init_59 (PZ.G (g := g) hk hg 5).2.1.1 (ci := 10) (r := vwC10) rfl 1 (by decide) wd_252 (fvA rfl ((PZ.G (g := g) hk hg 5).2.1.2.2.1)) ?_
              refine v_iload_n (pc := 62) hX dX8_init_62 rfl ?_
              refine v_gets (v := .ref (cmA g 11)) (pc := 63) hX dX8_init_63 (wt_Z hO) wd_249 ?_
              refine v_aastO (j := 5) (pc := 66) hX dX8_init_66 (PZ.G (g := g) hk hg 5).2.1.2.2.2.2.2.1 (by decide) (by decide) rfl (cm_O hO 11 (by decide)) (by decide) (by decide) (by decide) ?_
              refine mV_eqM (m1 := (pgL g m p 6)) (pgL_s (j := 5) (by decide)) ?_
              refine v_iinc (w := (((((0 + 1) + 1) + 1) + 1) + 1) + 1) (pc := 67) hX dX8_init_67 rfl rfl (by decide) rfl ?_
              refine v_goto (tgt := 49) (pc := 70) hX dX8_init_70 (by decide) ?_
              refine v_iload_n (pc := 49) hX dX8_init_49 rfl ?_
              refine v_aload_n (pc := 50) hX dX8_init_50 rfl ?_
              refine v_get (v := .ref (p + 2)) (pc := 51) hX dX8_init_51 (PZ.G (g := g) hk hg 6).2.1.1 (ci := 10) (r := vwC10) rfl 1 (by decide) wd_252 (fvA rfl ((PZ.G (g := g) hk hg 6).2.1.2.2.1)) ?_
              refine v_alen (t := 9) (n := 12) (pc := 54) hX dX8_init_54 (PZ.G (g := g) hk hg 6).2.1.2.2.2.2.2.1 (by decide) ?_
              refine v_icmp_ge (tgt := 73) (pc := 55) hX dX8_init_55 (by decide) (fun c7 => ?_) (fun c7 => ?_)
              · exact absurd c7 (by decide)
              ·
                refine v_aload_n (pc := 58) hX dX8_init_58 rfl ?_
                refine v_get (v := .ref (p + 2)) (pc := 59) hX dX8_init_59 (PZ.G (g := g) hk hg 6).2.1.1 (ci := 10) (r := vwC10) rfl 1 (by decide) wd_252 (fvA rfl ((PZ.G (g := g) hk hg 6).2.1.2.2.1)) ?_
                refine v_iload_n (pc := 62) hX dX8_init_62 rfl ?_
                refine v_gets (v := .ref (cmA g 11)) (pc := 63) hX dX8_init_63 (wt_Z hO) wd_249 ?_
                refine v_aastO (j := 6) (pc := 66) hX dX8_init_66 (PZ.G (g := g) hk hg 6).2.1.2.2.2.2.2.1 (by decide) (by decide) rfl (cm_O hO 11 (by decide)) (by decide) (by decide) (by decide) ?_
                refine mV_eqM (m1 := (pgL g m p 7)) (pgL_s (j := 6) (by decide)) ?_
                refine v_iinc (w := ((((((0 + 1) + 1) + 1) + 1) + 1) + 1) + 1) (pc := 67) hX dX8_init_67 rfl rfl (by decide) rfl ?_
                refine v_goto (tgt := 49) (pc := 70) hX dX8_init_70 (by decide) ?_
                refine v_iload_n (pc := 49) hX dX8_init_49 rfl ?_
                refine v_aload_n (pc := 50) hX dX8_init_50 rfl ?_
                refine v_get (v := .ref (p + 2)) (pc := 51) hX dX8_init_51 (PZ.G (g := g) hk hg 7).2.1.1 (ci := 10) (r := vwC10) rfl 1 (by decide) wd_252 (fvA rfl ((PZ.G (g := g) hk hg 7).2.1.2.2.1)) ?_
                refine v_alen (t := 9) (n := 12) (pc := 54) hX dX8_init_54 (PZ.G (g := g) hk hg 7).2.1.2.2.2.2.2.1 (by decide) ?_
                refine v_icmp_ge (tgt := 73) (pc := 55) hX dX8_init_55 (by decide) (fun c8 => ?_) (fun c8 => ?_)
                · exact absurd c8 (by decide)
                ·
                  refine v_aload_n (pc := 58) hX dX8_init_58 rfl ?_
                  refine v_get (v := .ref (p + 2)) (pc := 59) hX dX8_init_59 (PZ.G (g := g) hk hg 7).2.1.1 (ci := 10) (r := vwC10) rfl 1 (by decide) wd_252 (fvA rfl ((PZ.G (g := g) hk hg 7).2.1.2.2.1)) ?_
                  refine v_iload_n (pc := 62) hX dX8_init_62 rfl ?_
                  refine v_gets (v := .ref (cmA g 11)) (pc := 63) hX dX8_init_63 (wt_Z hO) wd_249 ?_
                  refine v_aastO (j := 7) (pc := 66) hX dX8_init_66 (PZ.G (g := g) hk hg 7).2.1.2.2.2.2.2.1 (by decide) (by decide) rfl (cm_O hO 11 (by decide)) (by decide) (by decide) (by decide) ?_
                  refine mV_eqM (m1 := (pgL g m p 8)) (pgL_s (j := 7) (by decide)) ?_
                  refine v_iinc (w := (((((((0 + 1) + 1) + 1) + 1) + 1) + 1) + 1) + 1) (pc := 67) hX dX8_init_67 rfl rfl (by decide) rfl ?_
                  refine v_goto (tgt := 49) (pc := 70) hX dX8_init_70 (by decide) ?_
                  refine v_iload_n (pc := 49) hX dX8_init_49 rfl ?_
                  refine v_aload_n (pc := 50) hX dX8_init_50 rfl ?_
                  refine v_get (v := .ref (p + 2)) (pc := 51) hX dX8_init_51 (PZ.G (g := g) hk hg 8).2.1.1 (ci := 10) (r := vwC10) rfl 1 (by decide) wd_252 (fvA rfl ((PZ.G (g := g) hk hg 8).2.1.2.2.1)) ?_
                  refine v_alen (t := 9) (n := 12) (pc := 54) hX dX8_init_54 (PZ.G (g := g) hk hg 8).2.1.2.2.2.2.2.1 (by decide) ?_
                  refine v_icmp_ge (tgt := 73) (pc := 55) hX dX8_init_55 (by decide) (fun c9 => ?_) (fun c9 => ?_)
                  · exact absurd c9 (by decide)
                  ·
                    refine v_aload_n (pc := 58) hX dX8_init_58 rfl ?_
                    refine v_get (v := .ref (p + 2)) (pc := 59) hX dX8_init_59 (PZ.G (g := g) hk hg 8).2.1.1 (ci := 10) (r := vwC10) rfl 1 (by decide) wd_252 (fvA rfl ((PZ.G (g := g) hk hg 8).2.1.2.2.1)) ?_
                    refine v_iload_n (pc := 62) hX dX8_init_62 rfl ?_
                    refine v_gets (v := .ref (cmA g 11)) (pc := 63) hX dX8_init_63 (wt_Z hO) wd_249 ?_
                    refine v_aastO (j := 8) (pc := 66) hX dX8_init_66 (PZ.G (g := g) hk hg 8).2.1.2.2.2.2.2.1 (by decide) (by decide) rfl (cm_O hO 11 (by decide)) (by decide) (by decide) (by decide) ?_
                    refine mV_eqM (m1 := (pgL g m p 9)) (pgL_s (j := 8) (by decide)) ?_
                    refine v_iinc (w := ((((((((0 + 1) + 1) + 1) + 1) + 1) + 1) + 1) + 1) + 1) (pc := 67) hX dX8_init_67 rfl rfl (by decide) rfl ?_
                    refine v_goto (tgt := 49) (pc := 70) hX dX8_init_70 (by decide) ?_
                    refine v_iload_n (pc := 49) hX dX8_init_49 rfl ?_
                    refine v_aload_n (pc := 50) hX dX8_init_50 rfl ?_
                    refine v_get (v := .ref (p + 2)) (pc := 51) hX dX8_init_51 (PZ.G (g := g) hk hg 9).2.1.1 (ci := 10) (r := vwC10) rfl 1 (by decide) wd_252 (fvA rfl ((PZ.G (g := g) hk hg 9).2.1.2.2.1)) ?_
                    refine v_alen (t := 9) (n := 12) (pc := 54) hX dX8_init_54 (PZ.G (g := g) hk hg 9).2.1.2.2.2.2.2.1 (by decide) ?_
                    refine v_icmp_ge (tgt := 73) (pc := 55) hX dX8_init_55 (by decide) (fun c10 => ?_) (fun c10 => ?_)
                    · exact absurd c10 (by decide)
                    ·
                      refine v_aload_n (pc := 58) hX dX8_init_58 rfl ?_
                      refine v_get (v := .ref (p + 2)) (pc := 59) hX dX8_init_59 (PZ.G (g := g) hk hg 9).2.1.1 (ci := 10) (r := vwC10) rfl 1 (by decide) wd_252 (fvA rfl ((PZ.G (g := g) hk hg 9).2.1.2.2.1)) ?_
                      refine v_iload_n (pc := 62) hX dX8_init_62 rfl ?_
                      refine v_gets (v := .ref (cmA g 11)) (pc := 63) hX dX8_init_63 (wt_Z hO) wd_249 ?_
                      refine v_aastO (j := 9) (pc := 66) hX dX8_init_66 (PZ.G (g := g) hk hg 9).2.1.2.2.2.2.2.1 (by decide) (by decide) rfl (cm_O hO 11 (by decide)) (by decide) (by decide) (by decide) ?_
                      refine mV_eqM (m1 := (pgL g m p 10)) (pgL_s (j := 9) (by decide)) ?_
                      refine v_iinc (w := (((((((((0 + 1) + 1) + 1) + 1) + 1) + 1) + 1) + 1) + 1) + 1) (pc := 67) hX dX8_init_67 rfl rfl (by decide) rfl ?_
                      refine v_goto (tgt := 49) (pc := 70) hX dX8_init_70 (by decide) ?_
                      refine v_iload_n (pc := 49) hX dX8_init_49 rfl ?_
                      refine v_aload_n (pc := 50) hX dX8_init_50 rfl ?_
                      refine v_get (v := .ref (p + 2)) (pc := 51) hX dX8_init_51 (PZ.G (g := g) hk hg 10).2.1.1 (ci := 10) (r := vwC10) rfl 1 (by decide) wd_252 (fvA rfl ((PZ.G (g := g) hk hg 10).2.1.2.2.1)) ?_
                      refine v_alen (t := 9) (n := 12) (pc := 54) hX dX8_init_54 (PZ.G (g := g) hk hg 10).2.1.2.2.2.2.2.1 (by decide) ?_
                      refine v_icmp_ge (tgt := 73) (pc := 55) hX dX8_init_55 (by decide) (fun c11 => ?_) (fun c11 => ?_)
                      · exact absurd c11 (by decide)
                      ·
                        refine v_aload_n (pc := 58) hX dX8_init_58 rfl ?_
                        refine v_get (v := .ref (p + 2)) (pc := 59) hX dX8_init_59 (PZ.G (g := g) hk hg 10).2.1.1 (ci := 10) (r := vwC10) rfl 1 (by decide) wd_252 (fvA rfl ((PZ.G (g := g) hk hg 10).2.1.2.2.1)) ?_
                        refine v_iload_n (pc := 62) hX dX8_init_62 rfl ?_
                        refine v_gets (v := .ref (cmA g 11)) (pc := 63) hX dX8_init_63 (wt_Z hO) wd_249 ?_
                        refine v_aastO (j := 10) (pc := 66) hX dX8_init_66 (PZ.G (g := g) hk hg 10).2.1.2.2.2.2.2.1 (by decide) (by decide) rfl (cm_O hO 11 (by decide)) (by decide) (by decide) (by decide) ?_
                        refine mV_eqM (m1 := (pgL g m p 11)) (pgL_s (j := 10) (by decide)) ?_
                        refine v_iinc (w := ((((((((((0 + 1) + 1) + 1) + 1) + 1) + 1) + 1) + 1) + 1) + 1) + 1) (pc := 67) hX dX8_init_67 rfl rfl (by decide) rfl ?_
                        refine v_goto (tgt := 49) (pc := 70) hX dX8_init_70 (by decide) ?_
                        refine v_iload_n (pc := 49) hX dX8_init_49 rfl ?_
                        refine v_aload_n (pc := 50) hX dX8_init_50 rfl ?_
                        refine v_get (v := .ref (p + 2)) (pc := 51) hX dX8_init_51 (PZ.G (g := g) hk hg 11).2.1.1 (ci := 10) (r := vwC10) rfl 1 (by decide) wd_252 (fvA rfl ((PZ.G (g := g) hk hg 11).2.1.2.2.1)) ?_
                        refine v_alen (t := 9) (n := 12) (pc := 54) hX dX8_init_54 (PZ.G (g := g) hk hg 11).2.1.2.2.2.2.2.1 (by decide) ?_
                        refine v_icmp_ge (tgt := 73) (pc := 55) hX dX8_init_55 (by decide) (fun c12 => ?_) (fun c12 => ?_)
                        · exact absurd c12 (by decide)
                        ·
                          refine v_aload_n (pc := 58) hX dX8_init_58 rfl ?_
                          refine v_get (v := .ref (p + 2)) (pc := 59) hX dX8_init_59 (PZ.G (g := g) hk hg 11).2.1.1 (ci := 10) (r := vwC10) rfl 1 (by decide) wd_252 (fvA rfl ((PZ.G (g := g) hk hg 11).2.1.2.2.1)) ?_
                          refine v_iload_n (pc := 62) hX dX8_init_62 rfl ?_
                          refine v_gets (v := .ref (cmA g 11)) (pc := 63) hX dX8_init_63 (wt_Z hO) wd_249 ?_
                          refine v_aastO (j := 11) (pc := 66) hX dX8_init_66 (PZ.G (g := g) hk hg 11).2.1.2.2.2.2.2.1 (by decide) (by decide) rfl (cm_O hO 11 (by decide)) (by decide) (by decide) (by decide) ?_
                          refine mV_eqM (m1 := (pgL g m p 12)) (pgL_s (j := 11) (by decide)) ?_
                          refine v_iinc (w := (((((((((((0 + 1) + 1) + 1) + 1) + 1) + 1) + 1) + 1) + 1) + 1) + 1) + 1) (pc := 67) hX dX8_init_67 rfl rfl (by decide) rfl ?_
                          refine v_goto (tgt := 49) (pc := 70) hX dX8_init_70 (by decide) ?_
                          refine v_iload_n (pc := 49) hX dX8_init_49 rfl ?_
                          refine v_aload_n (pc := 50) hX dX8_init_50 rfl ?_
                          refine v_get (v := .ref (p + 2)) (pc := 51) hX dX8_init_51 (PZ.G (g := g) hk hg 12).2.1.1 (ci := 10) (r := vwC10) rfl 1 (by decide) wd_252 (fvA rfl ((PZ.G (g := g) hk hg 12).2.1.2.2.1)) ?_
                          refine v_alen (t := 9) (n := 12) (pc := 54) hX dX8_init_54 (PZ.G (g := g) hk hg 12).2.1.2.2.2.2.2.1 (by decide) ?_
                          refine v_icmp_ge (tgt := 73) (pc := 55) hX dX8_init_55 (by decide) (fun c13 => ?_) (fun c13 => ?_)
                          ·
                            exact v_vret (pc := 73) hX hZ dX8_init_73 (by decide) (by decide) ⟨rfl, (by rw [X8_init_m])⟩
                          · exact absurd (by decide) c13
section
variable {g : mG} {m : mM} {p : Nat}
theorem pi_Z (hk : gK m p = some (.inl 10)) (hg : gN m = p + 1) : PZ g m (X8_init_m g m p) p 12 := PZ.G hk hg 12
end
