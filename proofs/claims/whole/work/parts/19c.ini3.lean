/-! THE HISTORY'S CONSTRUCTOR -/
section
variable {g : mG} {m m1 : mM} {f h j : Nat}
theorem SF.below (s : SF m f) (e : ∀ a, f ≤ a → a < f + 16 → gK m1 a = gK m a ∧ mS m m1 a) : SF m1 f := by
  have K : ∀ a, f ≤ a → a < f + 16 → gK m1 a = gK m a := fun a h1 h2 => (e a h1 h2).1
  have R : ∀ ky, gR m1 ky f = gR m ky f := fun ky => (e f (Nat.le_refl _) (by omega)).2.2.2.1 ky
  have Q : ∀ a, f ≤ a → a < f + 16 → gQ m1 a = gQ m a := fun a h1 h2 => (e a h1 h2).2.2.2.2.2.1
  have P : ∀ i, pa m1 f i = pa m f i := fun i => by unfold pa; rw [Q _ (by omega) (by omega)]
  obtain ⟨s1, s2, s3, s4, s5, s6, s7, s8, s9, s10, s11, s12⟩ := s
  refine ⟨(K _ (by omega) (by omega)).trans s1, (R _).trans s2, (R _).trans s3, (R _).trans s4, (K _ (by omega) (by omega)).trans s5, (K _ (by omega) (by omega)).trans s6, (K _ (by omega) (by omega)).trans s7, fun i hi => (K _ (by omega) (by omega)).trans (s8 i hi), fun i hi => (K _ (by omega) (by omega)).trans (s9 i hi), fun i hi => ?_, fun i hi => ?_, fun i j hi hj q => ?_⟩
  · rw [Q _ (by omega) (by omega)]
    exact s10 i hi
  · rw [P, Q _ (by omega) (by omega)]
    exact s11 i hi
  · rw [P, P] at q
    exact s12 i j hi hj q
def hcA (m : mM) (h : Nat) : mM := sR (nw m (.inr (6, 9))) 256 h (some (h + 1))
def hcG (g : mG) (m : mM) (h : Nat) : Nat → mM
  | 0 => sI (sI (hcA m h) 257 h 0) 258 h 0
  | j + 1 => sQ (X3_init_m g (nw (hcG g m h j) (.inl 5)) (h + 2 + 16 * j)) (h + 1) j (some (h + 2 + 16 * j))
def HZ (m0 m : mM) (h j : Nat) : Prop := gN m = h + 2 + 16 * j ∧ gK m h = some (.inl 8) ∧ gK m (h + 1) = some (.inr (6, 9)) ∧ gR m 256 h = some (h + 1) ∧ (gI m 257 h = 0 ∧ gI m 258 h = 0) ∧ (∀ i, i < j → gQ m (h + 1) i = some (h + 2 + 16 * i)) ∧ (∀ i, i < j → SF m (h + 2 + 16 * i)) ∧ ∀ a, a < h → gK m a = gK m0 a ∧ mS m0 m a
theorem HZ.z (hk : gK m h = some (.inl 8)) (hg : gN m = h + 1) : HZ m (hcG g m h 0) h 0 := by
  rw [hcG]
  unfold hcA
  refine ⟨?_, ?_, ?_, ?_, ⟨?_, ?_⟩, fun i hi => by omega, fun i hi => by omega, fun a ha => ⟨?_, mS_tr (mS_nw (by omega)) (mS_tr (mS_R (by omega)) (mS_tr (mS_I (by omega)) (mS_I (by omega))))⟩⟩
  · simp only [mm]
    omega
  · simp only [mm]
    rw [if_neg (by omega)]
    exact hk
  · simp only [mm]
    rw [if_pos (by omega)]
  · simp [mm]
  · simp [mm]
  · simp [mm]
  · simp only [mm]
    rw [if_neg (by omega)]
theorem HZ.nk (s : HZ m m1 h j) : gN (nw m1 (.inl 5)) = h + 2 + 16 * j + 1 ∧ gK (nw m1 (.inl 5)) (h + 2 + 16 * j) = some (.inl 5) := by
  refine ⟨?_, ?_⟩
  · simp only [mm]
    rw [s.1]
  · simp only [mm]
    rw [if_pos s.1.symm]
theorem HZ.lo (s : HZ m m1 h j) {a : Nat} (ha : a < h + 2 + 16 * j) : gK (X3_init_m g (nw m1 (.inl 5)) (h + 2 + 16 * j)) a = gK m1 a ∧ mS m1 (X3_init_m g (nw m1 (.inl 5)) (h + 2 + 16 * j)) a := by
  have e := fi_F (g := g) s.nk.2 s.nk.1 ha
  have n := s.1
  refine ⟨e.1.trans ?_, mS_tr (mS_nw (by omega)) e.2⟩
  simp only [mm]
  rw [if_neg (by omega)]
theorem HZ.st0 {M : mM} (s : HZ m m1 h j) (l : ∀ {a}, a < h + 2 + 16 * j → gK M a = gK m1 a ∧ mS m1 M a) (sf : SF M (h + 2 + 16 * j)) (sn : gN M = h + 2 + 16 * j + 16) : HZ m (sQ M (h + 1) j (some (h + 2 + 16 * j))) h (j + 1) := by
  obtain ⟨s1, s2, s3, s4, s5, s6, s7, s8⟩ := s
  have lS : ∀ a, a < h → mS m (sQ M (h + 1) j (some (h + 2 + 16 * j))) a := fun a ha => mS_tr (s8 a ha).2 (mS_tr (l (by omega)).2 (mS_Q (by omega)))
  refine ⟨?_, (l (by omega)).1.trans s2, (l (by omega)).1.trans s3, ((l (by omega)).2.2.2.1 256).trans s4, ⟨((l (by omega)).2.1 257).trans s5.1, ((l (by omega)).2.1 258).trans s5.2⟩, fun i hi => ?_, fun i hi => ?_, fun a ha => ⟨(l (by omega)).1.trans (s8 a ha).1, lS a ha⟩⟩
  · simp only [mm]
    omega
  · simp only [mm, true_and]
    by_cases e : i = j
    · subst e
      rw [if_pos rfl]
    · rw [if_neg e]
      exact (congrFun (l (by omega)).2.2.2.2.2.1 i).trans (s6 i (by omega))
  · by_cases e : i = j
    · subst e
      exact sf.below (fun a h1 h2 => ⟨rfl, mS_Q (by omega)⟩)
    · exact (s7 i (by omega)).below (fun a h1 h2 => ⟨(l (by omega)).1, mS_tr (l (by omega)).2 (mS_Q (by omega))⟩)
theorem HZ.st (s : HZ m m1 h j) : HZ m (sQ (X3_init_m g (nw m1 (.inl 5)) (h + 2 + 16 * j)) (h + 1) j (some (h + 2 + 16 * j))) h (j + 1) := HZ.st0 s (fun ha => s.lo (g := g) ha) (fi_SF (g := g) s.nk.2 s.nk.1) (fi_n (g := g) s.nk.2 s.nk.1)
theorem HZ.G (hk : gK m h = some (.inl 8)) (hg : gN m = h + 1) : ∀ j, HZ m (hcG g m h j) h j
  | 0 => HZ.z hk hg
  | j + 1 => (HZ.G hk hg j).st
theorem hcG_0 : sI (sI (sR (nw m (.inr (6, 9))) 256 h (some (h + 1))) 257 h 0) 258 h 0 = hcG g m h 0 := rfl
theorem hcG_f {j1 q : Nat} (e : j + 1 = j1) (hq : q = h + 2 + 16 * j) : sQ (X3_init_m g (nw (hcG g m h j) (.inl 5)) q) (h + 1) j (some q) = hcG g m h j1 := by
  subst e hq
  rfl
theorem HZ.kn (s : HZ m m1 h j) {kd : mK} {a : Nat} (ha : a < h + 2) : (if a = gN m1 then some kd else gK m1 a) = gK m1 a := by
  rw [if_neg (by have := s.1; omega)]
theorem HZ.k (s : HZ m m1 h j) : gK m1 h = some (.inl 8) := s.2.1
theorem HZ.ka (s : HZ m m1 h j) : gK m1 (h + 1) = some (.inr (6, 9)) := s.2.2.1
theorem HZ.r (s : HZ m m1 h j) : gR m1 256 h = some (h + 1) := s.2.2.2.1
theorem HZ.n (s : HZ m m1 h j) {q : Nat} (hq : q = h + 2 + 16 * j) : gN m1 = q := s.1.trans hq.symm
theorem HZ.iK (s : HZ m m1 h j) {q a : Nat} (hq : q = h + 2 + 16 * j) (ha : a < h + 2) : gK (X3_init_m g (nw m1 (.inl 5)) q) a = gK m1 a := by
  subst hq
  exact (s.lo (g := g) (by omega)).1
theorem HZ.iF (s : HZ m m1 h j) {q : Nat} (hq : q = h + 2 + 16 * j) : gK (X3_init_m g (nw m1 (.inl 5)) q) q = some (.inl 5) := by
  subst hq
  exact (fi_SF (g := g) s.nk.2 s.nk.1).k
end
def X6_init_m (g : mG) (m : mM) (h : Nat)  : mM := (hcG g m h 9)

set_option maxHeartbeats 4000000 in
set_option maxRecDepth 100000 in
theorem c_X6_init {l : Launch} {g : mG} (hO : mO l g) (m : mM) (h : Nat)  (hk : gK m h = some (.inl 8)) (hg : gN m = h + 1) : mT l g yX6_init (.code yX6_init cX6_init 2 (Option.none : Option FieldType)) 3 61 145 909 [.ref h] m (fun u m' => u = none ∧ m' = X6_init_m g m h ) nX := by
  refine mT_of hO (by decide) (Nat.le_of_ble_eq_true rfl) (fun x hX hZ => ?_)
  show mV g x m 0 0 0 [(0, .ref h)] []
  refine v_aload_n (pc := 0) hX dX6_init_0 rfl ?_
  refine v_objInit (pc := 1) hX dX6_init_1 wd_202 wd_43 wd_44 (by decide) (by decide) ?_
  refine v_aload_n (pc := 4) hX dX6_init_4 rfl ?_
  refine v_bipush (v := 9) (pc := 5) hX dX6_init_5 (by decide) ?_
  refine v_anew (t := 6) (n := 9) (pc := 7) hX dX6_init_7 (by decide) (by decide) rfl wd_203 wd_204 rfl (by decide) (by decide) (by decide) ?_
  rw [hg]
  refine v_putF (m1 := (sR (nw m (.inr (6, 9))) 256 h (some (h + 1)))) (pc := 10) hX dX6_init_10 (by simp only [mm]; rw [if_neg (by omega)]; exact hk) (ci := 8) (r := vwC8) rfl 0 (by decide) wd_206 rfl rfl rfl rfl rfl rfl ?_
  refine v_aload_n (pc := 13) hX dX6_init_13 rfl ?_
  refine v_iconst (v := 0) (pc := 14) hX dX6_init_14 (by decide) ?_
  refine v_put (m1 := (sI (sR (nw m (.inr (6, 9))) 256 h (some (h + 1))) 257 h 0)) (pc := 15) hX dX6_init_15 (by simp only [mm]; rw [if_neg (by omega)]; exact hk) (ci := 8) (r := vwC8) rfl 1 (by decide) wd_207 rfl rfl rfl rfl ?_
  refine v_aload_n (pc := 18) hX dX6_init_18 rfl ?_
  refine v_iconst (v := 0) (pc := 19) hX dX6_init_19 (by decide) ?_
  refine v_put (m1 := (sI (sI (sR (nw m (.inr (6, 9))) 256 h (some (h + 1))) 257 h 0) 258 h 0)) (pc := 20) hX dX6_init_20 (by simp only [mm]; rw [if_neg (by omega)]; exact hk) (ci := 8) (r := vwC8) rfl 2 (by decide) wd_208 rfl rfl rfl rfl ?_
  refine mV_eqM (m1 := (hcG g m h 0)) (hcG_0) ?_
  refine v_iconst (v := 0) (pc := 23) hX dX6_init_23 (by decide) ?_
  refine v_istore_n (pc := 24) hX dX6_init_24 (by decide) rfl ?_
  refine v_iload_n (pc := 25) hX dX6_init_25 rfl ?_
  refine v_aload_n (pc := 26) hX dX6_init_26 rfl ?_
  refine v_get (v := .ref (h + 1)) (pc := 27) hX dX6_init_27 (HZ.G (g := g) hk hg 0).k (ci := 8) (r := vwC8) rfl 0 (by decide) wd_206 (fvA rfl ((HZ.G (g := g) hk hg 0).r)) ?_
  refine v_alen (t := 6) (n := 9) (pc := 30) hX dX6_init_30 (HZ.G (g := g) hk hg 0).ka (by decide) ?_
  refine v_icmp_ge (tgt := 53) (pc := 31) hX dX6_init_31 (by decide) (fun c1 => ?_) (fun c1 => ?_)
  · exact absurd c1 (by decide)
  ·
    refine v_aload_n (pc := 34) hX dX6_init_34 rfl ?_
    refine v_get (v := .ref (h + 1)) (pc := 35) hX dX6_init_35 (HZ.G (g := g) hk hg 0).k (ci := 8) (r := vwC8) rfl 0 (by decide) wd_206 (fvA rfl ((HZ.G (g := g) hk hg 0).r)) ?_
    refine v_iload_n (pc := 38) hX dX6_init_38 rfl ?_
    refine v_new (ci := 5) (r := vwC5) (pc := 39) hX dX6_init_39 rfl wd_203 wd_46 wd_2 (by decide) (by decide) ?_
    rw [(HZ.G (g := g) hk hg 0).n (q := h + 2) (by omega)]
    refine v_dup (pc := 42) hX dX6_init_42 rfl ?_
    refine v_callI (z := yX3_init) (pc := 43) hX dX6_init_43 (c_X3_init hO ((nw ((hcG g m h 0)) (.inl 5))) (h + 2) (by simp only [mm]; rw [if_pos ((HZ.G (g := g) hk hg 0).n (by omega)).symm]) (by simp only [mm]; rw [(HZ.G (g := g) hk hg 0).n (q := h + 2) (by omega)])) wd_205 wd_48 wd_2 wd_49 rfl ⟨by decide, by decide, (by decide +kernel : (parseMethodDescriptor yX3_init.desc).map (fun d => d.parameters.length) = some 0)⟩ rfl (Nat.le_of_ble_eq_true rfl) ⟨⟨by decide, by decide⟩, by decide, by decide⟩ (fun E m9 h9 => h9.elim) (fun r9 m9 h9 => ?_)
    obtain ⟨rfl, h8⟩ := h9
    replace h8 := h8.symm
    subst h8
    show mV g x _ _ _ _ _ [.ref (h + 2), .int 0, .ref (h + 1)]
    refine v_aast (ci := 5) (pc := 46) hX dX6_init_46 (t := 6) (n := 9) (((HZ.G (g := g) hk hg 0).iK (by omega) (by omega)).trans (HZ.G (g := g) hk hg 0).ka) (by decide) (by decide) rfl ((HZ.G (g := g) hk hg 0).iF (by omega)) (r := vwC5) rfl (j := 0) (by decide) (by decide) (by decide) ?_
    refine mV_eqM (m1 := (hcG g m h 1)) (hcG_f (j := 0) (by decide) (by omega)) ?_
    refine v_iinc (w := 0 + 1) (pc := 47) hX dX6_init_47 rfl rfl (by decide) rfl ?_
    refine v_goto (tgt := 25) (pc := 50) hX dX6_init_50 (by decide) ?_
    refine v_iload_n (pc := 25) hX dX6_init_25 rfl ?_
    refine v_aload_n (pc := 26) hX dX6_init_26 rfl ?_
    refine v_get (v := .ref (h + 1)) (pc := 27) hX dX6_init_27 (HZ.G (g := g) hk hg 1).k (ci := 8) (r := vwC8) rfl 0 (by decide) wd_206 (fvA rfl ((HZ.G (g := g) hk hg 1).r)) ?_
    refine v_alen (t := 6) (n := 9) (pc := 30) hX dX6_init_30 (HZ.G (g := g) hk hg 1).ka (by decide) ?_
    refine v_icmp_ge (tgt := 53) (pc := 31) hX dX6_init_31 (by decide) (fun c2 => ?_) (fun c2 => ?_)
    · exact absurd c2 (by decide)
    ·
      refine v_aload_n (pc := 34) hX dX6_init_34 rfl ?_
      refine v_get (v := .ref (h + 1)) (pc := 35) hX dX6_init_35 (HZ.G (g := g) hk hg 1).k (ci := 8) (r := vwC8) rfl 0 (by decide) wd_206 (fvA rfl ((HZ.G (g := g) hk hg 1).r)) ?_
      refine v_iload_n (pc := 38) hX dX6_init_38 rfl ?_
      refine v_new (ci := 5) (r := vwC5) (pc := 39) hX dX6_init_39 rfl wd_203 wd_46 wd_2 (by decide) (by decide) ?_
      rw [(HZ.G (g := g) hk hg 1).n (q := h + 18) (by omega)]
      refine v_dup (pc := 42) hX dX6_init_42 rfl ?_
      refine v_callI (z := yX3_init) (pc := 43) hX dX6_init_43 (c_X3_init hO ((nw ((hcG g m h 1)) (.inl 5))) (h + 18) (by simp only [mm]; rw [if_pos ((HZ.G (g := g) hk hg 1).n (by omega)).symm]) (by simp only [mm]; rw [(HZ.G (g := g) hk hg 1).n (q := h + 18) (by omega)])) wd_205 wd_48 wd_2 wd_49 rfl ⟨by decide, by decide, (by decide +kernel : (parseMethodDescriptor yX3_init.desc).map (fun d => d.parameters.length) = some 0)⟩ rfl (Nat.le_of_ble_eq_true rfl) ⟨⟨by decide, by decide⟩, by decide, by decide⟩ (fun E m9 h9 => h9.elim) (fun r9 m9 h9 => ?_)
      obtain ⟨rfl, h8⟩ := h9
      replace h8 := h8.symm
      subst h8
      show mV g x _ _ _ _ _ [.ref (h + 18), .int (0 + 1), .ref (h + 1)]
      refine v_aast (ci := 5) (pc := 46) hX dX6_init_46 (t := 6) (n := 9) (((HZ.G (g := g) hk hg 1).iK (by omega) (by omega)).trans (HZ.G (g := g) hk hg 1).ka) (by decide) (by decide) rfl ((HZ.G (g := g) hk hg 1).iF (by omega)) (r := vwC5) rfl (j := 1) (by decide) (by decide) (by decide) ?_
      refine mV_eqM (m1 := (hcG g m h 2)) (hcG_f (j := 1) (by decide) (by omega)) ?_
      refine v_iinc (w := (0 + 1) + 1) (pc := 47) hX dX6_init_47 rfl rfl (by decide) rfl ?_
      refine v_goto (tgt := 25) (pc := 50) hX dX6_init_50 (by decide) ?_
      refine v_iload_n (pc := 25) hX dX6_init_25 rfl ?_
      refine v_aload_n (pc := 26) hX dX6_init_26 rfl ?_
      refine v_get (v := .ref (h + 1)) (pc := 27) hX dX6_init_27 (HZ.G (g := g) hk hg 2).k (ci := 8) (r := vwC8) rfl 0 (by decide) wd_206 (fvA rfl ((HZ.G (g := g) hk hg 2).r)) ?_
      refine v_alen (t := 6) (n := 9) (pc := 30) hX dX6_init_30 (HZ.G (g := g) hk hg 2).ka (by decide) ?_
      refine v_icmp_ge (tgt := 53) (pc := 31) hX dX6_init_31 (by decide) (fun c3 => ?_) (fun c3 => ?_)
      · exact absurd c3 (by decide)
      ·
        refine v_aload_n (pc := 34) hX dX6_init_34 rfl ?_
        refine v_get (v := .ref (h + 1)) (pc := 35) hX dX6_init_35 (HZ.G (g := g) hk hg 2).k (ci := 8) (r := vwC8) rfl 0 (by decide) wd_206 (fvA rfl ((HZ.G (g := g) hk hg 2).r)) ?_
        refine v_iload_n (pc := 38) hX dX6_init_38 rfl ?_
        refine v_new (ci := 5) (r := vwC5) (pc := 39) hX dX6_init_39 rfl wd_203 wd_46 wd_2 (by decide) (by decide) ?_
        rw [(HZ.G (g := g) hk hg 2).n (q := h + 34) (by omega)]
        refine v_dup (pc := 42) hX dX6_init_42 rfl ?_
        refine v_callI (z := yX3_init) (pc := 43) hX dX6_init_43 (c_X3_init hO ((nw ((hcG g m h 2)) (.inl 5))) (h + 34) (by simp only [mm]; rw [if_pos ((HZ.G (g := g) hk hg 2).n (by omega)).symm]) (by simp only [mm]; rw [(HZ.G (g := g) hk hg 2).n (q := h + 34) (by omega)])) wd_205 wd_48 wd_2 wd_49 rfl ⟨by decide, by decide, (by decide +kernel : (parseMethodDescriptor yX3_init.desc).map (fun d => d.parameters.length) = some 0)⟩ rfl (Nat.le_of_ble_eq_true rfl) ⟨⟨by decide, by decide⟩, by decide, by decide⟩ (fun E m9 h9 => h9.elim) (fun r9 m9 h9 => ?_)
        obtain ⟨rfl, h8⟩ := h9
        replace h8 := h8.symm
        subst h8
        show mV g x _ _ _ _ _ [.ref (h + 34), .int ((0 + 1) + 1), .ref (h + 1)]
        refine v_aast (ci := 5) (pc := 46) hX dX6_init_46 (t := 6) (n := 9) (((HZ.G (g := g) hk hg 2).iK (by omega) (by omega)).trans (HZ.G (g := g) hk hg 2).ka) (by decide) (by decide) rfl ((HZ.G (g := g) hk hg 2).iF (by omega)) (r := vwC5) rfl (j := 2) (by decide) (by decide) (by decide) ?_
        refine mV_eqM (m1 := (hcG g m h 3)) (hcG_f (j := 2) (by decide) (by omega)) ?_
        refine v_iinc (w := ((0 + 1) + 1) + 1) (pc := 47) hX dX6_init_47 rfl rfl (by decide) rfl ?_
        refine v_goto (tgt := 25) (pc := 50) hX dX6_init_50 (by decide) ?_
        refine v_iload_n (pc := 25) hX dX6_init_25 rfl ?_
        refine v_aload_n (pc := 26) hX dX6_init_26 rfl ?_
        refine v_get (v := .ref (h + 1)) (pc := 27) hX dX6_init_27 (HZ.G (g := g) hk hg 3).k (ci := 8) (r := vwC8) rfl 0 (by decide) wd_206 (fvA rfl ((HZ.G (g := g) hk hg 3).r)) ?_
        refine v_alen (t := 6) (n := 9) (pc := 30) hX dX6_init_30 (HZ.G (g := g) hk hg 3).ka (by decide) ?_
        refine v_icmp_ge (tgt := 53) (pc := 31) hX dX6_init_31 (by decide) (fun c4 => ?_) (fun c4 => ?_)
        · exact absurd c4 (by decide)
        ·
          refine v_aload_n (pc := 34) hX dX6_init_34 rfl ?_
          refine v_get (v := .ref (h + 1)) (pc := 35) hX dX6_init_35 (HZ.G (g := g) hk hg 3).k (ci := 8) (r := vwC8) rfl 0 (by decide) wd_206 (fvA rfl ((HZ.G (g := g) hk hg 3).r)) ?_
          refine v_iload_n (pc := 38) hX dX6_init_38 rfl ?_
          refine v_new (ci := 5) (r := vwC5) (pc := 39) hX dX6_init_39 rfl wd_203 wd_46 wd_2 (by decide) (by decide) ?_
          rw [(HZ.G (g := g) hk hg 3).n (q := h + 50) (by omega)]
          refine v_dup (pc := 42) hX dX6_init_42 rfl ?_
          refine v_callI (z := yX3_init) (pc := 43) hX dX6_init_43 (c_X3_init hO ((nw ((hcG g m h 3)) (.inl 5))) (h + 50) (by simp only [mm]; rw [if_pos ((HZ.G (g := g) hk hg 3).n (by omega)).symm]) (by simp only [mm]; rw [(HZ.G (g := g) hk hg 3).n (q := h + 50) (by omega)])) wd_205 wd_48 wd_2 wd_49 rfl ⟨by decide, by decide, (by decide +kernel : (parseMethodDescriptor yX3_init.desc).map (fun d => d.parameters.length) = some 0)⟩ rfl (Nat.le_of_ble_eq_true rfl) ⟨⟨by decide, by decide⟩, by decide, by decide⟩ (fun E m9 h9 => h9.elim) (fun r9 m9 h9 => ?_)
          obtain ⟨rfl, h8⟩ := h9
          replace h8 := h8.symm
          subst h8
          show mV g x _ _ _ _ _ [.ref (h + 50), .int (((0 + 1) + 1) + 1), .ref (h + 1)]
          refine v_aast (ci := 5) (pc := 46) hX dX6_init_46 (t := 6) (n := 9) (((HZ.G (g := g) hk hg 3).iK (by omega) (by omega)).trans (HZ.G (g := g) hk hg 3).ka) (by decide) (by decide) rfl ((HZ.G (g := g) hk hg 3).iF (by omega)) (r := vwC5) rfl (j := 3) (by decide) (by decide) (by decide) ?_
          refine mV_eqM (m1 := (hcG g m h 4)) (hcG_f (j := 3) (by decide) (by omega)) ?_
          refine v_iinc (w := (((0 + 1) + 1) + 1) + 1) (pc := 47) hX dX6_init_47 rfl rfl (by decide) rfl ?_
          refine v_goto (tgt := 25) (pc := 50) hX dX6_init_50 (by decide) ?_
          refine v_iload_n (pc := 25) hX dX6_init_25 rfl ?_
          refine v_aload_n (pc := 26) hX dX6_init_26 rfl ?_
          refine v_get (v := .ref (h + 1)) (pc := 27) hX dX6_init_27 (HZ.G (g := g) hk hg 4).k (ci := 8) (r := vwC8) rfl 0 (by decide) wd_206 (fvA rfl ((HZ.G (g := g) hk hg 4).r)) ?_
          refine v_alen (t := 6) (n := 9) (pc := 30) hX dX6_init_30 (HZ.G (g := g) hk hg 4).ka (by decide) ?_
          refine v_icmp_ge (tgt := 53) (pc := 31) hX dX6_init_31 (by decide) (fun c5 => ?_) (fun c5 => ?_)
          · exact absurd c5 (by decide)
          ·
            refine v_aload_n (pc := 34) hX dX6_init_34 rfl ?_
            refine v_get (v := .ref (h + 1)) (pc := 35) hX dX6_init_35 (HZ.G (g := g) hk hg 4).k (ci := 8) (r := vwC8) rfl 0 (by decide) wd_206 (fvA rfl ((HZ.G (g := g) hk hg 4).r)) ?_
            refine v_iload_n (pc := 38) hX dX6_init_38 rfl ?_
            refine v_new (ci := 5) (r := vwC5) (pc := 39) hX dX6_init_39 rfl wd_203 wd_46 wd_2 (by decide) (by decide) ?_
            rw [(HZ.G (g := g) hk hg 4).n (q := h + 66) (by omega)]
            refine v_dup (pc := 42) hX dX6_init_42 rfl ?_
            refine v_callI (z := yX3_init) (pc := 43) hX dX6_init_43 (c_X3_init hO ((nw ((hcG g m h 4)) (.inl 5))) (h + 66) (by simp only [mm]; rw [if_pos ((HZ.G (g := g) hk hg 4).n (by omega)).symm]) (by simp only [mm]; rw [(HZ.G (g := g) hk hg 4).n (q := h + 66) (by omega)])) wd_205 wd_48 wd_2 wd_49 rfl ⟨by decide, by decide, (by decide +kernel : (parseMethodDescriptor yX3_init.desc).map (fun d => d.parameters.length) = some 0)⟩ rfl (Nat.le_of_ble_eq_true rfl) ⟨⟨by decide, by decide⟩, by decide, by decide⟩ (fun E m9 h9 => h9.elim) (fun r9 m9 h9 => ?_)
            obtain ⟨rfl, h8⟩ := h9
            replace h8 := h8.symm
            subst h8
            show mV g x _ _ _ _ _ [.ref (h + 66), .int ((((0 + 1) + 1) + 1) + 1), .ref (h + 1)]
            refine v_aast (ci := 5) (pc := 46) hX dX6_init_46 (t := 6) (n := 9) (((HZ.G (g := g) hk hg 4).iK (by omega) (by omega)).trans (HZ.G (g := g) hk hg 4).ka) (by decide) (by decide) rfl ((HZ.G (g := g) hk hg 4).iF (by omega)) (r := vwC5) rfl (j := 4) (by decide) (by decide) (by decide) ?_
            refine mV_eqM (m1 := (hcG g m h 5)) (hcG_f (j := 4) (by decide) (by omega)) ?_
            refine v_iinc (w := ((((0 + 1) + 1) + 1) + 1) + 1) (pc := 47) hX dX6_init_47 rfl rfl (by decide) rfl ?_
            refine v_goto (tgt := 25) (pc := 50) hX dX6_init_50 (by decide) ?_
            refine v_iload_n (pc := 25) hX dX6_init_25 rfl ?_
            refine v_aload_n (pc := 26) hX dX6_init_26 rfl ?_
            refine v_get (v := .ref (h + 1)) (pc := 27) hX dX6_init_27 (HZ.G (g := g) hk hg 5).k (ci := 8) (r := vwC8) rfl 0 (by decide) wd_206 (fvA rfl ((HZ.G (g := g) hk hg 5).r)) ?_
            refine v_alen (t := 6) (n := 9) (pc := 30) hX dX6_init_30 (HZ.G (g := g) hk hg 5).ka (by decide) ?_
            refine v_icmp_ge (tgt := 53) (pc := 31) hX dX6_init_31 (by decide) (fun c6 => ?_) (fun c6 => ?_)
            · exact absurd c6 (by decide)
            ·
              refine v_aload_n (pc := 34) hX dX6_init_34 rfl ?_
              refine v_get (v := .ref (h + 1)) (pc := 35) hX dX6_init_35 (HZ.G (g := g) hk hg 5).k (ci := 8) (r := vwC8) rfl 0 (by decide) wd_206 (fvA rfl ((HZ.G (g := g) hk hg 5).r)) ?_
              refine v_iload_n (pc := 38) hX dX6_init_38 rfl ?_
              refine v_new (ci := 5) (r := vwC5) (pc := 39) hX dX6_init_39 rfl wd_203 wd_46 wd_2 (by decide) (by decide) ?_
              rw [(HZ.G (g := g) hk hg 5).n (q := h + 82) (by omega)]
              refine v_dup (pc := 42) hX dX6_init_42 rfl ?_
              refine v_callI (z := yX3_init) (pc := 43) hX dX6_init_43 (c_X3_init hO ((nw ((hcG g m h 5)) (.inl 5))) (h + 82) (by simp only [mm]; rw [if_pos ((HZ.G (g := g) hk hg 5).n (by omega)).symm]) (by simp only [mm]; rw [(HZ.G (g := g) hk hg 5).n (q := h + 82) (by omega)])) wd_205 wd_48 wd_2 wd_49 rfl ⟨by decide, by decide, (by decide +kernel : (parseMethodDescriptor yX3_init.desc).map (fun d => d.parameters.length) = some 0)⟩ rfl (Nat.le_of_ble_eq_true rfl) ⟨⟨by decide, by decide⟩, by decide, by decide⟩ (fun E m9 h9 => h9.elim) (fun r9 m9 h9 => ?_)
              obtain ⟨rfl, h8⟩ := h9
              replace h8 := h8.symm
              subst h8
              show mV g x _ _ _ _ _ [.ref (h + 82), .int (((((0 + 1) + 1) + 1) + 1) + 1), .ref (h + 1)]
              refine v_aast (ci := 5) (pc := 46) hX dX6_init_46 (t := 6) (n := 9) (((HZ.G (g := g) hk hg 5).iK (by omega) (by omega)).trans (HZ.G (g := g) hk hg 5).ka) (by decide) (by decide) rfl ((HZ.G (g := g) hk hg 5).iF (by omega)) (r := vwC5) rfl (j := 5) (by decide) (by decide) (by decide) ?_
              refine mV_eqM (m1 := (hcG g m h 6)) (hcG_f (j := 5) (by decide) (by omega)) ?_
              refine v_iinc (w := (((((0 + 1) + 1) + 1) + 1) + 1) + 1) (pc := 47) hX dX6_init_47 rfl rfl (by decide) rfl ?_
              refine v_goto (tgt := 25) (pc := 50) hX dX6_init_50 (by decide) ?_
              refine v_iload_n (pc := 25) hX dX6_init_25 rfl ?_
              refine v_aload_n (pc := 26) hX dX6_init_26 rfl ?_
              refine v_get (v := .ref (h + 1)) (pc := 27) hX dX6_init_27 (HZ.G (g := g) hk hg 6).k (ci := 8) (r := vwC8) rfl 0 (by decide) wd_206 (fvA rfl ((HZ.G (g := g) hk hg 6).r)) ?_
              refine v_alen (t := 6) (n := 9) (pc := 30) hX dX6_init_30 (HZ.G (g := g) hk hg 6).ka (by decide) ?_
              refine v_icmp_ge (tgt := 53) (pc := 31) hX dX6_init_31 (by decide) (fun c7 => ?_) (fun c7 => ?_)
              · exact absurd c7 (by decide)
              ·
                refine v_aload_n (pc := 34) hX dX6_init_34 rfl ?_
                refine v_get (v := .ref (h + 1)) (pc := 35) hX dX6_init_35 (HZ.G (g := g) hk hg 6).k (ci := 8) (r := vwC8) rfl 0 (by decide) wd_206 (fvA rfl ((HZ.G (g := g) hk hg 6).r)) ?_
                refine v_iload_n (pc := 38) hX dX6_init_38 rfl ?_
                refine v_new (ci := 5) (r := vwC5) (pc := 39) hX dX6_init_39 rfl wd_203 wd_46 wd_2 (by decide) (by decide) ?_
                rw [(HZ.G (g := g) hk hg 6).n (q := h + 98) (by omega)]
                refine v_dup (pc := 42) hX dX6_init_42 rfl ?_
                refine v_callI (z := yX3_init) (pc := 43) hX dX6_init_43 (c_X3_init hO ((nw ((hcG g m h 6)) (.inl 5))) (h + 98) (by simp only [mm]; rw [if_pos ((HZ.G (g := g) hk hg 6).n (by omega)).symm]) (by simp only [mm]; rw [(HZ.G (g := g) hk hg 6).n (q := h + 98) (by omega)])) wd_205 wd_48 wd_2 wd_49 rfl ⟨by decide, by decide, (by decide +kernel : (parseMethodDescriptor yX3_init.desc).map (fun d => d.parameters.length) = some 0)⟩ rfl (Nat.le_of_ble_eq_true rfl) ⟨⟨by decide, by decide⟩, by decide, by decide⟩ (fun E m9 h9 => h9.elim) (fun r9 m9 h9 => ?_)
                obtain ⟨rfl, h8⟩ := h9
                replace h8 := h8.symm
                subst h8
                show mV g x _ _ _ _ _ [.ref (h + 98), .int ((((((0 + 1) + 1) + 1) + 1) + 1) + 1), .ref (h + 1)]
                refine v_aast (ci := 5) (pc := 46) hX dX6_init_46 (t := 6) (n := 9) (((HZ.G (g := g) hk hg 6).iK (by omega) (by omega)).trans (HZ.G (g := g) hk hg 6).ka) (by decide) (by decide) rfl ((HZ.G (g := g) hk hg 6).iF (by omega)) (r := vwC5) rfl (j := 6) (by decide) (by decide) (by decide) ?_
                refine mV_eqM (m1 := (hcG g m h 7)) (hcG_f (j := 6) (by decide) (by omega)) ?_
                refine v_iinc (w := ((((((0 + 1) + 1) + 1) + 1) + 1) + 1) + 1) (pc := 47) hX dX6_init_47 rfl rfl (by decide) rfl ?_
                refine v_goto (tgt := 25) (pc := 50) hX dX6_init_50 (by decide) ?_
                refine v_iload_n (pc := 25) hX dX6_init_25 rfl ?_
                refine v_aload_n (pc := 26) hX dX6_init_26 rfl ?_
                refine v_get (v := .ref (h + 1)) (pc := 27) hX dX6_init_27 (HZ.G (g := g) hk hg 7).k (ci := 8) (r := vwC8) rfl 0 (by decide) wd_206 (fvA rfl ((HZ.G (g := g) hk hg 7).r)) ?_
                refine v_alen (t := 6) (n := 9) (pc := 30) hX dX6_init_30 (HZ.G (g := g) hk hg 7).ka (by decide) ?_
                refine v_icmp_ge (tgt := 53) (pc := 31) hX dX6_init_31 (by decide) (fun c8 => ?_) (fun c8 => ?_)
                · exact absurd c8 (by decide)
                ·
                  refine v_aload_n (pc := 34) hX dX6_init_34 rfl ?_
                  refine v_get (v := .ref (h + 1)) (pc := 35) hX dX6_init_35 (HZ.G (g := g) hk hg 7).k (ci := 8) (r := vwC8) rfl 0 (by decide) wd_206 (fvA rfl ((HZ.G (g := g) hk hg 7).r)) ?_
                  refine v_iload_n (pc := 38) hX dX6_init_38 rfl ?_
                  refine v_new (ci := 5) (r := vwC5) (pc := 39) hX dX6_init_39 rfl wd_203 wd_46 wd_2 (by decide) (by decide) ?_
                  rw [(HZ.G (g := g) hk hg 7).n (q := h + 114) (by omega)]
                  refine v_dup (pc := 42) hX dX6_init_42 rfl ?_
                  refine v_callI (z := yX3_init) (pc := 43) hX dX6_init_43 (c_X3_init hO ((nw ((hcG g m h 7)) (.inl 5))) (h + 114) (by simp only [mm]; rw [if_pos ((HZ.G (g := g) hk hg 7).n (by omega)).symm]) (by simp only [mm]; rw [(HZ.G (g := g) hk hg 7).n (q := h + 114) (by omega)])) wd_205 wd_48 wd_2 wd_49 rfl ⟨by decide, by decide, (by decide +kernel : (parseMethodDescriptor yX3_init.desc).map (fun d => d.parameters.length) = some 0)⟩ rfl (Nat.le_of_ble_eq_true rfl) ⟨⟨by decide, by decide⟩, by decide, by decide⟩ (fun E m9 h9 => h9.elim) (fun r9 m9 h9 => ?_)
                  obtain ⟨rfl, h8⟩ := h9
                  replace h8 := h8.symm
                  subst h8
                  show mV g x _ _ _ _ _ [.ref (h + 114), .int (((((((0 + 1) + 1) + 1) + 1) + 1) + 1) + 1), .ref (h + 1)]
                  refine v_aast (ci := 5) (pc := 46) hX dX6_init_46 (t := 6) (n := 9) (((HZ.G (g := g) hk hg 7).iK (by omega) (by omega)).trans (HZ.G (g := g) hk hg 7).ka) (by decide) (by decide) rfl ((HZ.G (g := g) hk hg 7).iF (by omega)) (r := vwC5) rfl (j := 7) (by decide) (by decide) (by decide) ?_
                  refine mV_eqM (m1 := (hcG g m h 8)) (hcG_f (j := 7) (by decide) (by omega)) ?_
                  refine v_iinc (w := (((((((0 + 1) + 1) + 1) + 1) + 1) + 1) + 1) + 1) (pc := 47) hX dX6_init_47 rfl rfl (by decide) rfl ?_
                  refine v_goto (tgt := 25) (pc := 50) hX dX6_init_50 (by decide) ?_
                  refine v_iload_n (pc := 25) hX dX6_init_25 rfl ?_
                  refine v_aload_n (pc := 26) hX dX6_init_26 rfl ?_
                  refine v_get (v := .ref (h + 1)) (pc := 27) hX dX6_init_27 (HZ.G (g := g) hk hg 8).k (ci := 8) (r := vwC8) rfl 0 (by decide) wd_206 (fvA rfl ((HZ.G (g := g) hk hg 8).r)) ?_
                  refine v_alen (t := 6) (n := 9) (pc := 30) hX dX6_init_30 (HZ.G (g := g) hk hg 8).ka (by decide) ?_
                  refine v_icmp_ge (tgt := 53) (pc := 31) hX dX6_init_31 (by decide) (fun c9 => ?_) (fun c9 => ?_)
                  · exact absurd c9 (by decide)
                  ·
                    refine v_aload_n (pc := 34) hX dX6_init_34 rfl ?_
                    refine v_get (v := .ref (h + 1)) (pc := 35) hX dX6_init_35 (HZ.G (g := g) hk hg 8).k (ci := 8) (r := vwC8) rfl 0 (by decide) wd_206 (fvA rfl ((HZ.G (g := g) hk hg 8).r)) ?_
                    refine v_iload_n (pc := 38) hX dX6_init_38 rfl ?_
                    refine v_new (ci := 5) (r := vwC5) (pc := 39) hX dX6_init_39 rfl wd_203 wd_46 wd_2 (by decide) (by decide) ?_
                    rw [(HZ.G (g := g) hk hg 8).n (q := h + 130) (by omega)]
                    refine v_dup (pc := 42) hX dX6_init_42 rfl ?_
                    refine v_callI (z := yX3_init) (pc := 43) hX dX6_init_43 (c_X3_init hO ((nw ((hcG g m h 8)) (.inl 5))) (h + 130) (by simp only [mm]; rw [if_pos ((HZ.G (g := g) hk hg 8).n (by omega)).symm]) (by simp only [mm]; rw [(HZ.G (g := g) hk hg 8).n (q := h + 130) (by omega)])) wd_205 wd_48 wd_2 wd_49 rfl ⟨by decide, by decide, (by decide +kernel : (parseMethodDescriptor yX3_init.desc).map (fun d => d.parameters.length) = some 0)⟩ rfl (Nat.le_of_ble_eq_true rfl) ⟨⟨by decide, by decide⟩, by decide, by decide⟩ (fun E m9 h9 => h9.elim) (fun r9 m9 h9 => ?_)
                    obtain ⟨rfl, h8⟩ := h9
                    replace h8 := h8.symm
                    subst h8
                    show mV g x _ _ _ _ _ [.ref (h + 130), .int ((((((((0 + 1) + 1) + 1) + 1) + 1) + 1) + 1) + 1), .ref (h + 1)]
                    refine v_aast (ci := 5) (pc := 46) hX dX6_init_46 (t := 6) (n := 9) (((HZ.G (g := g) hk hg 8).iK (by omega) (by omega)).trans (HZ.G (g := g) hk hg 8).ka) (by decide) (by decide) rfl ((HZ.G (g := g) hk hg 8).iF (by omega)) (r := vwC5) rfl (j := 8) (by decide) (by decide) (by decide) ?_
                    refine mV_eqM (m1 := (hcG g m h 9)) (hcG_f (j := 8) (by decide) (by omega)) ?_
                    refine v_iinc (w := ((((((((0 + 1) + 1) + 1) + 1) + 1) + 1) + 1) + 1) + 1) (pc := 47) hX dX6_init_47 rfl rfl (by decide) rfl ?_
                    refine v_goto (tgt := 25) (pc := 50) hX dX6_init_50 (by decide) ?_
                    refine v_iload_n (pc := 25) hX dX6_init_25 rfl ?_
                    refine v_aload_n (pc := 26) hX dX6_init_26 rfl ?_
                    refine v_get (v := .ref (h + 1)) (pc := 27) hX dX6_init_27 (HZ.G (g := g) hk hg 9).k (ci := 8) (r := vwC8) rfl 0 (by decide) wd_206 (fvA rfl ((HZ.G (g := g) hk hg 9).r)) ?_
                    refine v_alen (t := 6) (n := 9) (pc := 30) hX dX6_init_30 (HZ.G (g := g) hk hg 9).ka (by decide) ?_
                    refine v_icmp_ge (tgt := 53) (pc := 31) hX dX6_init_31 (by decide) (fun c10 => ?_) (fun c10 => ?_)
                    ·
                      exact v_vret (pc := 53) hX hZ dX6_init_53 (by decide) (by decide) ⟨rfl, (by rw [X6_init_m])⟩
                    · exact absurd (by decide) c10
section
variable {g : mG} {m : mM} {h : Nat}
theorem hi_Z (hk : gK m h = some (.inl 8)) (hg : gN m = h + 1) : HZ m (X6_init_m g m h) h 9 := HZ.G hk hg 9
theorem hi_SH (hk : gK m h = some (.inl 8)) (hg : gN m = h + 1) : SH (X6_init_m g m h) h := by
  obtain ⟨s1, s2, s3, s4, s5, s6, s7, s8⟩ := hi_Z (g := g) hk hg
  exact ⟨s2, s4, s3, s6, s7⟩
end
