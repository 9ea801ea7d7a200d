/-! THE CLASS'S CONSTRUCTOR -/
def Sm (m m1 : mM) (a : Nat) : Prop := gK m1 a = gK m a ∧ mS m m1 a
theorem Sm.rf {m : mM} {a : Nat} : Sm m m a := ⟨rfl, mS_rf⟩
theorem Sm.tr {m m1 m2 : mM} {a : Nat} (h : Sm m m1 a) (q : Sm m1 m2 a) : Sm m m2 a := ⟨q.1.trans h.1, mS_tr h.2 q.2⟩
theorem Sm.R {m m1 : mM} {a b k : Nat} {o : Option Nat} (h : Sm m m1 a) (d : a ≠ b) : Sm m (sR m1 k b o) a := ⟨h.1, mS_tr h.2 (mS_R d)⟩
theorem nwk {M : mM} {q : Nat} {kd : mK} (hq : gN M = q) : gK (nw M kd) q = some kd ∧ gN (nw M kd) = q + 1 := by
  refine ⟨?_, ?_⟩
  · simp only [mm]
    rw [if_pos hq.symm]
  · simp only [mm]
    rw [hq]
theorem nwS {M : mM} {q a : Nat} {kd : mK} (hq : gN M = q) (ha : a < q) : Sm M (nw M kd) a := by
  refine ⟨?_, mS_nw (by omega)⟩
  simp only [mm]
  rw [if_neg (by omega)]
theorem zS {M : mM} {a b : Nat} (d : a ≠ b) : Sm M (sI (sI (sI M 359 b 0) 360 b (-1)) 361 b (-1)) a := ⟨rfl, mS_tr (mS_I d) (mS_tr (mS_I d) (mS_I d))⟩
/-- one part more: the object I that was made at q, its address stored at b -/
theorem bstep {M I : mM} {q b k : Nat} {kd : mK} (hb : b < q) (hq : gN M = q) (fr : ∀ a, a < q → gK I a = gK (nw M kd) a ∧ mS (nw M kd) I a) : (∀ a, a < q → a ≠ b → Sm M (sR I k b (some q)) a) ∧ gK (sR I k b (some q)) b = gK M b ∧ (∀ k', k' ≠ k → gR (sR I k b (some q)) k' b = gR M k' b) ∧ gR (sR I k b (some q)) k b = some q := by
  refine ⟨fun a ha d => ((nwS hq ha).tr (fr a ha)).R d, ?_, fun k' hk => ?_, by simp [mm]⟩
  · have h := (nwS (kd := kd) hq hb).tr (fr b hb)
    exact h.1
  · have h := (nwS (kd := kd) hq hb).tr (fr b hb)
    have e := h.2.2.2.1 k'
    simp [mm, hk, e]
def biA (g : mG) (m : mM) (b : Nat) : mM := sR (X3_init_m g (nw m (.inl 5)) (b + 1)) 352 b (some (b + 1))
def biB (g : mG) (m : mM) (b : Nat) : mM := sR (X3_init_m g (nw (biA g m b) (.inl 5)) (b + 17)) 353 b (some (b + 17))
def biC (g : mG) (m : mM) (b : Nat) : mM := sR (X3_init_m g (nw (biB g m b) (.inl 5)) (b + 33)) 354 b (some (b + 33))
def biD (g : mG) (m : mM) (b : Nat) : mM := sR (X6_init_m g (nw (biC g m b) (.inl 8)) (b + 49)) 355 b (some (b + 49))
def biE (g : mG) (m : mM) (b : Nat) : mM := sR (X2_init_m g (nw (biD g m b) (.inl 4)) (b + 195)) 356 b (some (b + 195))
def biF (g : mG) (m : mM) (b : Nat) : mM := sR (X8_init_m g (nw (biE g m b) (.inl 10)) (b + 214)) 357 b (some (b + 214))
def biG (g : mG) (m : mM) (b : Nat) : mM := sR (J4_init_da8c8_m g (nw (biF g m b) (.inl 1)) (b + 230)) 358 b (some (b + 230))
def biZ (g : mG) (m : mM) (b : Nat) : mM := sI (sI (sI (biG g m b) 359 b 0) 360 b (-1)) 361 b (-1)
section
variable {g : mG} {m : mM} {b : Nat}
theorem biA_n (hg : gN m = b + 1) : gN (biA g m b) = b + 17 := by
  have h : gN (X3_init_m g (nw m (.inl 5)) (b + 1)) = b + 17 := fi_n (g := g) (nwk hg).1 (nwk hg).2
  unfold biA
  simp only [mm]
  omega
theorem biA_s (hg : gN m = b + 1) : (∀ a, a < b + 1 → a ≠ b → Sm m (biA g m b) a) ∧ gK (biA g m b) b = gK m b ∧ (∀ k', k' ≠ 352 → gR (biA g m b) k' b = gR m k' b) ∧ gR (biA g m b) 352 b = some (b + 1) := bstep (by omega) hg (fun a ha => fi_F (g := g) (nwk hg).1 (nwk hg).2 ha)
theorem biA_e : sR (X3_init_m g (nw m (.inl 5)) (b + 1)) 352 b (some (b + 1)) = biA g m b := rfl
theorem biA_k (hk : gK m b = some (.inl 11)) (hg : gN m = b + 1) : gK (biA g m b) b = some (.inl 11) := (biA_s hg).2.1.trans hk
theorem biA_i (hk : gK m b = some (.inl 11)) (hg : gN m = b + 1) : gK (X3_init_m g (nw m (.inl 5)) (b + 1)) b = some (.inl 11) := by
  have e := biA_k (g := g) hk hg
  unfold biA at e
  simpa only [mm] using e
theorem biB_n (hg : gN m = b + 1) : gN (biB g m b) = b + 33 := by
  have h : gN (X3_init_m g (nw (biA g m b) (.inl 5)) (b + 17)) = b + 33 := fi_n (g := g) (nwk (biA_n (g := g) hg)).1 (nwk (biA_n (g := g) hg)).2
  unfold biB
  simp only [mm]
  omega
theorem biB_s (hg : gN m = b + 1) : (∀ a, a < b + 17 → a ≠ b → Sm (biA g m b) (biB g m b) a) ∧ gK (biB g m b) b = gK (biA g m b) b ∧ (∀ k', k' ≠ 353 → gR (biB g m b) k' b = gR (biA g m b) k' b) ∧ gR (biB g m b) 353 b = some (b + 17) := bstep (by omega) (biA_n (g := g) hg) (fun a ha => fi_F (g := g) (nwk (biA_n (g := g) hg)).1 (nwk (biA_n (g := g) hg)).2 ha)
theorem biB_e : sR (X3_init_m g (nw (biA g m b) (.inl 5)) (b + 17)) 353 b (some (b + 17)) = biB g m b := rfl
theorem biB_k (hk : gK m b = some (.inl 11)) (hg : gN m = b + 1) : gK (biB g m b) b = some (.inl 11) := (biB_s hg).2.1.trans (biA_k hk hg)
theorem biB_i (hk : gK m b = some (.inl 11)) (hg : gN m = b + 1) : gK (X3_init_m g (nw (biA g m b) (.inl 5)) (b + 17)) b = some (.inl 11) := by
  have e := biB_k (g := g) hk hg
  unfold biB at e
  simpa only [mm] using e
theorem biC_n (hg : gN m = b + 1) : gN (biC g m b) = b + 49 := by
  have h : gN (X3_init_m g (nw (biB g m b) (.inl 5)) (b + 33)) = b + 49 := fi_n (g := g) (nwk (biB_n (g := g) hg)).1 (nwk (biB_n (g := g) hg)).2
  unfold biC
  simp only [mm]
  omega
theorem biC_s (hg : gN m = b + 1) : (∀ a, a < b + 33 → a ≠ b → Sm (biB g m b) (biC g m b) a) ∧ gK (biC g m b) b = gK (biB g m b) b ∧ (∀ k', k' ≠ 354 → gR (biC g m b) k' b = gR (biB g m b) k' b) ∧ gR (biC g m b) 354 b = some (b + 33) := bstep (by omega) (biB_n (g := g) hg) (fun a ha => fi_F (g := g) (nwk (biB_n (g := g) hg)).1 (nwk (biB_n (g := g) hg)).2 ha)
theorem biC_e : sR (X3_init_m g (nw (biB g m b) (.inl 5)) (b + 33)) 354 b (some (b + 33)) = biC g m b := rfl
theorem biC_k (hk : gK m b = some (.inl 11)) (hg : gN m = b + 1) : gK (biC g m b) b = some (.inl 11) := (biC_s hg).2.1.trans (biB_k hk hg)
theorem biC_i (hk : gK m b = some (.inl 11)) (hg : gN m = b + 1) : gK (X3_init_m g (nw (biB g m b) (.inl 5)) (b + 33)) b = some (.inl 11) := by
  have e := biC_k (g := g) hk hg
  unfold biC at e
  simpa only [mm] using e
theorem biD_n (hg : gN m = b + 1) : gN (biD g m b) = b + 195 := by
  have h : gN (X6_init_m g (nw (biC g m b) (.inl 8)) (b + 49)) = b + 195 := (hi_Z (g := g) (nwk (biC_n (g := g) hg)).1 (nwk (biC_n (g := g) hg)).2).1
  unfold biD
  simp only [mm]
  omega
theorem biD_s (hg : gN m = b + 1) : (∀ a, a < b + 49 → a ≠ b → Sm (biC g m b) (biD g m b) a) ∧ gK (biD g m b) b = gK (biC g m b) b ∧ (∀ k', k' ≠ 355 → gR (biD g m b) k' b = gR (biC g m b) k' b) ∧ gR (biD g m b) 355 b = some (b + 49) := bstep (by omega) (biC_n (g := g) hg) (fun a ha => (hi_Z (g := g) (nwk (biC_n (g := g) hg)).1 (nwk (biC_n (g := g) hg)).2).2.2.2.2.2.2.2 a ha)
theorem biD_e : sR (X6_init_m g (nw (biC g m b) (.inl 8)) (b + 49)) 355 b (some (b + 49)) = biD g m b := rfl
theorem biD_k (hk : gK m b = some (.inl 11)) (hg : gN m = b + 1) : gK (biD g m b) b = some (.inl 11) := (biD_s hg).2.1.trans (biC_k hk hg)
theorem biD_i (hk : gK m b = some (.inl 11)) (hg : gN m = b + 1) : gK (X6_init_m g (nw (biC g m b) (.inl 8)) (b + 49)) b = some (.inl 11) := by
  have e := biD_k (g := g) hk hg
  unfold biD at e
  simpa only [mm] using e
theorem biE_n (hg : gN m = b + 1) : gN (biE g m b) = b + 214 := by
  have h : gN (X2_init_m g (nw (biD g m b) (.inl 4)) (b + 195)) = b + 214 := (oC (g := g) (nwk (biD_n (g := g) hg)).1 (nwk (biD_n (g := g) hg)).2).1
  unfold biE
  simp only [mm]
  omega
theorem biE_s (hg : gN m = b + 1) : (∀ a, a < b + 195 → a ≠ b → Sm (biD g m b) (biE g m b) a) ∧ gK (biE g m b) b = gK (biD g m b) b ∧ (∀ k', k' ≠ 356 → gR (biE g m b) k' b = gR (biD g m b) k' b) ∧ gR (biE g m b) 356 b = some (b + 195) := bstep (by omega) (biD_n (g := g) hg) (fun a ha => (oC (g := g) (nwk (biD_n (g := g) hg)).1 (nwk (biD_n (g := g) hg)).2).2.2 a ha)
theorem biE_e : sR (X2_init_m g (nw (biD g m b) (.inl 4)) (b + 195)) 356 b (some (b + 195)) = biE g m b := rfl
theorem biE_k (hk : gK m b = some (.inl 11)) (hg : gN m = b + 1) : gK (biE g m b) b = some (.inl 11) := (biE_s hg).2.1.trans (biD_k hk hg)
theorem biE_i (hk : gK m b = some (.inl 11)) (hg : gN m = b + 1) : gK (X2_init_m g (nw (biD g m b) (.inl 4)) (b + 195)) b = some (.inl 11) := by
  have e := biE_k (g := g) hk hg
  unfold biE at e
  simpa only [mm] using e
theorem biF_n (hg : gN m = b + 1) : gN (biF g m b) = b + 230 := by
  have h : gN (X8_init_m g (nw (biE g m b) (.inl 10)) (b + 214)) = b + 230 := (pi_Z (g := g) (nwk (biE_n (g := g) hg)).1 (nwk (biE_n (g := g) hg)).2).1
  unfold biF
  simp only [mm]
  omega
theorem biF_s (hg : gN m = b + 1) : (∀ a, a < b + 214 → a ≠ b → Sm (biE g m b) (biF g m b) a) ∧ gK (biF g m b) b = gK (biE g m b) b ∧ (∀ k', k' ≠ 357 → gR (biF g m b) k' b = gR (biE g m b) k' b) ∧ gR (biF g m b) 357 b = some (b + 214) := bstep (by omega) (biE_n (g := g) hg) (fun a ha => (pi_Z (g := g) (nwk (biE_n (g := g) hg)).1 (nwk (biE_n (g := g) hg)).2).2.2.2.2.2.2 a ha)
theorem biF_e : sR (X8_init_m g (nw (biE g m b) (.inl 10)) (b + 214)) 357 b (some (b + 214)) = biF g m b := rfl
theorem biF_k (hk : gK m b = some (.inl 11)) (hg : gN m = b + 1) : gK (biF g m b) b = some (.inl 11) := (biF_s hg).2.1.trans (biE_k hk hg)
theorem biF_i (hk : gK m b = some (.inl 11)) (hg : gN m = b + 1) : gK (X8_init_m g (nw (biE g m b) (.inl 10)) (b + 214)) b = some (.inl 11) := by
  have e := biF_k (g := g) hk hg
  unfold biF at e
  simpa only [mm] using e
theorem biG_n (hg : gN m = b + 1) : gN (biG g m b) = b + 232 := by
  have h : gN (J4_init_da8c8_m g (nw (biF g m b) (.inl 1)) (b + 230)) = b + 232 := si_n (g := g) (nwk (biF_n (g := g) hg)).2
  unfold biG
  simp only [mm]
  omega
theorem biG_s (hg : gN m = b + 1) : (∀ a, a < b + 230 → a ≠ b → Sm (biF g m b) (biG g m b) a) ∧ gK (biG g m b) b = gK (biF g m b) b ∧ (∀ k', k' ≠ 358 → gR (biG g m b) k' b = gR (biF g m b) k' b) ∧ gR (biG g m b) 358 b = some (b + 230) := bstep (by omega) (biF_n (g := g) hg) (fun a ha => si_F (g := g) (nwk (biF_n (g := g) hg)).2 ha)
theorem biG_e : sR (J4_init_da8c8_m g (nw (biF g m b) (.inl 1)) (b + 230)) 358 b (some (b + 230)) = biG g m b := rfl
theorem biG_k (hk : gK m b = some (.inl 11)) (hg : gN m = b + 1) : gK (biG g m b) b = some (.inl 11) := (biG_s hg).2.1.trans (biF_k hk hg)
theorem biG_i (hk : gK m b = some (.inl 11)) (hg : gN m = b + 1) : gK (J4_init_da8c8_m g (nw (biF g m b) (.inl 1)) (b + 230)) b = some (.inl 11) := by
  have e := biG_k (g := g) hk hg
  unfold biG at e
  simpa only [mm] using e
theorem biZ_e : sI (sI (sI (biG g m b) 359 b 0) 360 b (-1)) 361 b (-1) = biZ g m b := rfl
theorem biZ_s {a : Nat} (d : a ≠ b) : Sm (biG g m b) (biZ g m b) a := zS d
theorem biA_z (hg : gN m = b + 1) {a : Nat} (d : a ≠ b) (ha : a < b + 17) : Sm (X3_init_m g (nw m (.inl 5)) (b + 1)) (biZ g m b) a := by
  have h0 : Sm (X3_init_m g (nw m (.inl 5)) (b + 1)) (biA g m b) a := Sm.R Sm.rf d
  have h1 := h0.tr ((biB_s (g := g) hg).1 a (by omega) d)
  have h2 := h1.tr ((biC_s (g := g) hg).1 a (by omega) d)
  have h3 := h2.tr ((biD_s (g := g) hg).1 a (by omega) d)
  have h4 := h3.tr ((biE_s (g := g) hg).1 a (by omega) d)
  have h5 := h4.tr ((biF_s (g := g) hg).1 a (by omega) d)
  have h6 := h5.tr ((biG_s (g := g) hg).1 a (by omega) d)
  exact h6.tr (biZ_s d)
theorem biB_z (hg : gN m = b + 1) {a : Nat} (d : a ≠ b) (ha : a < b + 33) : Sm (X3_init_m g (nw (biA g m b) (.inl 5)) (b + 17)) (biZ g m b) a := by
  have h0 : Sm (X3_init_m g (nw (biA g m b) (.inl 5)) (b + 17)) (biB g m b) a := Sm.R Sm.rf d
  have h2 := h0.tr ((biC_s (g := g) hg).1 a (by omega) d)
  have h3 := h2.tr ((biD_s (g := g) hg).1 a (by omega) d)
  have h4 := h3.tr ((biE_s (g := g) hg).1 a (by omega) d)
  have h5 := h4.tr ((biF_s (g := g) hg).1 a (by omega) d)
  have h6 := h5.tr ((biG_s (g := g) hg).1 a (by omega) d)
  exact h6.tr (biZ_s d)
theorem biC_z (hg : gN m = b + 1) {a : Nat} (d : a ≠ b) (ha : a < b + 49) : Sm (X3_init_m g (nw (biB g m b) (.inl 5)) (b + 33)) (biZ g m b) a := by
  have h0 : Sm (X3_init_m g (nw (biB g m b) (.inl 5)) (b + 33)) (biC g m b) a := Sm.R Sm.rf d
  have h3 := h0.tr ((biD_s (g := g) hg).1 a (by omega) d)
  have h4 := h3.tr ((biE_s (g := g) hg).1 a (by omega) d)
  have h5 := h4.tr ((biF_s (g := g) hg).1 a (by omega) d)
  have h6 := h5.tr ((biG_s (g := g) hg).1 a (by omega) d)
  exact h6.tr (biZ_s d)
theorem biD_z (hg : gN m = b + 1) {a : Nat} (d : a ≠ b) (ha : a < b + 195) : Sm (X6_init_m g (nw (biC g m b) (.inl 8)) (b + 49)) (biZ g m b) a := by
  have h0 : Sm (X6_init_m g (nw (biC g m b) (.inl 8)) (b + 49)) (biD g m b) a := Sm.R Sm.rf d
  have h4 := h0.tr ((biE_s (g := g) hg).1 a (by omega) d)
  have h5 := h4.tr ((biF_s (g := g) hg).1 a (by omega) d)
  have h6 := h5.tr ((biG_s (g := g) hg).1 a (by omega) d)
  exact h6.tr (biZ_s d)
theorem biE_z (hg : gN m = b + 1) {a : Nat} (d : a ≠ b) (ha : a < b + 214) : Sm (X2_init_m g (nw (biD g m b) (.inl 4)) (b + 195)) (biZ g m b) a := by
  have h0 : Sm (X2_init_m g (nw (biD g m b) (.inl 4)) (b + 195)) (biE g m b) a := Sm.R Sm.rf d
  have h5 := h0.tr ((biF_s (g := g) hg).1 a (by omega) d)
  have h6 := h5.tr ((biG_s (g := g) hg).1 a (by omega) d)
  exact h6.tr (biZ_s d)
theorem biF_z (hg : gN m = b + 1) {a : Nat} (d : a ≠ b) (ha : a < b + 230) : Sm (X8_init_m g (nw (biE g m b) (.inl 10)) (b + 214)) (biZ g m b) a := by
  have h0 : Sm (X8_init_m g (nw (biE g m b) (.inl 10)) (b + 214)) (biF g m b) a := Sm.R Sm.rf d
  have h6 := h0.tr ((biG_s (g := g) hg).1 a (by omega) d)
  exact h6.tr (biZ_s d)
theorem biG_z (hg : gN m = b + 1) {a : Nat} (d : a ≠ b) (ha : a < b + 232) : Sm (J4_init_da8c8_m g (nw (biF g m b) (.inl 1)) (b + 230)) (biZ g m b) a := by
  have h0 : Sm (J4_init_da8c8_m g (nw (biF g m b) (.inl 1)) (b + 230)) (biG g m b) a := Sm.R Sm.rf d
  exact h0.tr (biZ_s d)
end
def X10_init_m (g : mG) (m : mM) (b : Nat)  : mM := (biZ g m b)

set_option maxHeartbeats 4000000 in
set_option maxRecDepth 100000 in
theorem c_X10_init {l : Launch} {g : mG} (hO : mO l g) (m : mM) (b : Nat)  (hk : gK m b = some (.inl 11)) (hg : gN m = b + 1) : mT l g yX10_init (.code yX10_init cX10_init 1 (Option.none : Option FieldType)) 4 82 231 2469 [.ref b] m (fun u m' => u = none ∧ m' = X10_init_m g m b ) nX := by
  refine mT_of hO (by decide) (Nat.le_of_ble_eq_true rfl) (fun x hX hZ => ?_)
  show mV g x m 0 0 0 [(0, .ref b)] []
  refine v_aload_n (pc := 0) hX dX10_init_0 rfl ?_
  refine v_objInit (pc := 1) hX dX10_init_1 wd_42 wd_43 wd_44 (by decide) (by decide) ?_
  refine v_aload_n (pc := 4) hX dX10_init_4 rfl ?_
  refine v_new (ci := 5) (r := vwC5) (pc := 5) hX dX10_init_5 rfl wd_45 wd_46 wd_2 (by decide) (by decide) ?_
  rw [hg]
  refine v_dup (pc := 8) hX dX10_init_8 rfl ?_
  refine v_callI (z := yX3_init) (pc := 9) hX dX10_init_9 (c_X3_init hO ((nw m (.inl 5))) (b + 1) (nwk hg).1 (nwk hg).2) wd_47 wd_48 wd_2 wd_49 rfl ⟨by decide, by decide, (by decide +kernel : (parseMethodDescriptor yX3_init.desc).map (fun d => d.parameters.length) = some 0)⟩ rfl (Nat.le_of_ble_eq_true rfl) ⟨⟨by decide, by decide⟩, by decide, by decide⟩ (fun E m9 h9 => h9.elim) (fun r9 m9 h9 => ?_)
  obtain ⟨rfl, h8⟩ := h9
  replace h8 := h8.symm
  subst h8
  show mV g x _ _ _ _ _ [.ref (b + 1), .ref b]
  refine v_putF (m1 := (sR (X3_init_m g ((nw m (.inl 5))) (b + 1) ) 352 b (some (b + 1)))) (pc := 12) hX dX10_init_12 (biA_i hk hg) (ci := 11) (r := vwC11) rfl 0 (by decide) wd_306 rfl rfl rfl rfl rfl rfl ?_
  refine mV_eqM (m1 := (biA g m b)) (biA_e) ?_
  refine v_aload_n (pc := 15) hX dX10_init_15 rfl ?_
  refine v_new (ci := 5) (r := vwC5) (pc := 16) hX dX10_init_16 rfl wd_45 wd_46 wd_2 (by decide) (by decide) ?_
  rw [biA_n (g := g) hg]
  refine v_dup (pc := 19) hX dX10_init_19 rfl ?_
  refine v_callI (z := yX3_init) (pc := 20) hX dX10_init_20 (c_X3_init hO ((nw ((biA g m b)) (.inl 5))) (b + 17) (nwk (biA_n (g := g) hg)).1 (nwk (biA_n (g := g) hg)).2) wd_47 wd_48 wd_2 wd_49 rfl ⟨by decide, by decide, (by decide +kernel : (parseMethodDescriptor yX3_init.desc).map (fun d => d.parameters.length) = some 0)⟩ rfl (Nat.le_of_ble_eq_true rfl) ⟨⟨by decide, by decide⟩, by decide, by decide⟩ (fun E m9 h9 => h9.elim) (fun r9 m9 h9 => ?_)
  obtain ⟨rfl, h8⟩ := h9
  replace h8 := h8.symm
  subst h8
  show mV g x _ _ _ _ _ [.ref (b + 17), .ref b]
  refine v_putF (m1 := (sR (X3_init_m g ((nw ((biA g m b)) (.inl 5))) (b + 17) ) 353 b (some (b + 17)))) (pc := 23) hX dX10_init_23 (biB_i hk hg) (ci := 11) (r := vwC11) rfl 1 (by decide) wd_307 rfl rfl rfl rfl rfl rfl ?_
  refine mV_eqM (m1 := (biB g m b)) (biB_e) ?_
  refine v_aload_n (pc := 26) hX dX10_init_26 rfl ?_
  refine v_new (ci := 5) (r := vwC5) (pc := 27) hX dX10_init_27 rfl wd_45 wd_46 wd_2 (by decide) (by decide) ?_
  rw [biB_n (g := g) hg]
  refine v_dup (pc := 30) hX dX10_init_30 rfl ?_
  refine v_callI (z := yX3_init) (pc := 31) hX dX10_init_31 (c_X3_init hO ((nw ((biB g m b)) (.inl 5))) (b + 33) (nwk (biB_n (g := g) hg)).1 (nwk (biB_n (g := g) hg)).2) wd_47 wd_48 wd_2 wd_49 rfl ⟨by decide, by decide, (by decide +kernel : (parseMethodDescriptor yX3_init.desc).map (fun d => d.parameters.length) = some 0)⟩ rfl (Nat.le_of_ble_eq_true rfl) ⟨⟨by decide, by decide⟩, by decide, by decide⟩ (fun E m9 h9 => h9.elim) (fun r9 m9 h9 => ?_)
  obtain ⟨rfl, h8⟩ := h9
  replace h8 := h8.symm
  subst h8
  show mV g x _ _ _ _ _ [.ref (b + 33), .ref b]
  refine v_putF (m1 := (sR (X3_init_m g ((nw ((biB g m b)) (.inl 5))) (b + 33) ) 354 b (some (b + 33)))) (pc := 34) hX dX10_init_34 (biC_i hk hg) (ci := 11) (r := vwC11) rfl 2 (by decide) wd_308 rfl rfl rfl rfl rfl rfl ?_
  refine mV_eqM (m1 := (biC g m b)) (biC_e) ?_
  refine v_aload_n (pc := 37) hX dX10_init_37 rfl ?_
  refine v_new (ci := 8) (r := vwC8) (pc := 38) hX dX10_init_38 rfl wd_197 wd_198 wd_8 (by decide) (by decide) ?_
  rw [biC_n (g := g) hg]
  refine v_dup (pc := 41) hX dX10_init_41 rfl ?_
  refine v_callI (z := yX6_init) (pc := 42) hX dX10_init_42 (c_X6_init hO ((nw ((biC g m b)) (.inl 8))) (b + 49) (nwk (biC_n (g := g) hg)).1 (nwk (biC_n (g := g) hg)).2) wd_199 wd_200 wd_8 wd_201 rfl ⟨by decide, by decide, (by decide +kernel : (parseMethodDescriptor yX6_init.desc).map (fun d => d.parameters.length) = some 0)⟩ rfl (Nat.le_of_ble_eq_true rfl) ⟨⟨by decide, by decide⟩, by decide, by decide⟩ (fun E m9 h9 => h9.elim) (fun r9 m9 h9 => ?_)
  obtain ⟨rfl, h8⟩ := h9
  replace h8 := h8.symm
  subst h8
  show mV g x _ _ _ _ _ [.ref (b + 49), .ref b]
  refine v_putF (m1 := (sR (X6_init_m g ((nw ((biC g m b)) (.inl 8))) (b + 49) ) 355 b (some (b + 49)))) (pc := 45) hX dX10_init_45 (biD_i hk hg) (ci := 11) (r := vwC11) rfl 3 (by decide) wd_309 rfl rfl rfl rfl rfl rfl ?_
  refine mV_eqM (m1 := (biD g m b)) (biD_e) ?_
  refine v_aload_n (pc := 48) hX dX10_init_48 rfl ?_
  refine v_new (ci := 4) (r := vwC4) (pc := 49) hX dX10_init_49 rfl wd_217 wd_218 wd_9 (by decide) (by decide) ?_
  rw [biD_n (g := g) hg]
  refine v_dup (pc := 52) hX dX10_init_52 rfl ?_
  refine v_callIN (z := yX2_init) (pc := 53) hX dX10_init_53 (c_X2_init hO ((nw ((biD g m b)) (.inl 4))) (b + 195) (nwk (biD_n (g := g) hg)).1 (nwk (biD_n (g := g) hg)).2) wd_219 wd_220 wd_9 wd_221 rfl ⟨by decide, by decide, (by decide +kernel : (parseMethodDescriptor yX2_init.desc).map (fun d => d.parameters.length) = some 0)⟩ rfl (Nat.le_of_ble_eq_true rfl) ⟨⟨by decide, by decide⟩, by decide, by decide⟩ (fun E m9 h9 => h9.elim) (fun r9 m9 h9 => ?_)
  obtain ⟨rfl, h8⟩ := h9
  replace h8 := h8.symm
  subst h8
  show mV g x _ _ _ _ _ [.ref (b + 195), .ref b]
  refine v_putF (m1 := (sR (X2_init_m g ((nw ((biD g m b)) (.inl 4))) (b + 195) ) 356 b (some (b + 195)))) (pc := 56) hX dX10_init_56 (biE_i hk hg) (ci := 11) (r := vwC11) rfl 4 (by decide) wd_310 rfl rfl rfl rfl rfl rfl ?_
  refine mV_eqM (m1 := (biE g m b)) (biE_e) ?_
  refine v_aload_n (pc := 59) hX dX10_init_59 rfl ?_
  refine v_new (ci := 10) (r := vwC10) (pc := 60) hX dX10_init_60 rfl wd_239 wd_240 wd_10 (by decide) (by decide) ?_
  rw [biE_n (g := g) hg]
  refine v_dup (pc := 63) hX dX10_init_63 rfl ?_
  refine v_callI (z := yX8_init) (pc := 64) hX dX10_init_64 (c_X8_init hO ((nw ((biE g m b)) (.inl 10))) (b + 214) (nwk (biE_n (g := g) hg)).1 (nwk (biE_n (g := g) hg)).2) wd_241 wd_242 wd_10 wd_243 rfl ⟨by decide, by decide, (by decide +kernel : (parseMethodDescriptor yX8_init.desc).map (fun d => d.parameters.length) = some 0)⟩ rfl (Nat.le_of_ble_eq_true rfl) ⟨⟨by decide, by decide⟩, by decide, by decide⟩ (fun E m9 h9 => h9.elim) (fun r9 m9 h9 => ?_)
  obtain ⟨rfl, h8⟩ := h9
  replace h8 := h8.symm
  subst h8
  show mV g x _ _ _ _ _ [.ref (b + 214), .ref b]
  refine v_putF (m1 := (sR (X8_init_m g ((nw ((biE g m b)) (.inl 10))) (b + 214) ) 357 b (some (b + 214)))) (pc := 67) hX dX10_init_67 (biF_i hk hg) (ci := 11) (r := vwC11) rfl 5 (by decide) wd_311 rfl rfl rfl rfl rfl rfl ?_
  refine mV_eqM (m1 := (biF g m b)) (biF_e) ?_
  refine v_aload_n (pc := 70) hX dX10_init_70 rfl ?_
  refine v_new (ci := 1) (r := vwC1) (pc := 71) hX dX10_init_71 rfl wd_273 wd_274 wd_13 (by decide) (by decide) ?_
  rw [biF_n (g := g) hg]
  refine v_dup (pc := 74) hX dX10_init_74 rfl ?_
  refine v_callI (z := yJ4_init_da8c8) (pc := 75) hX dX10_init_75 (c_J4_init_da8c8 hO ((nw ((biF g m b)) (.inl 1))) (b + 230) (nwk (biF_n (g := g) hg)).1 (nwk (biF_n (g := g) hg)).2) wd_275 wd_276 wd_13 wd_277 rfl ⟨by decide, by decide, (by decide +kernel : (parseMethodDescriptor yJ4_init_da8c8.desc).map (fun d => d.parameters.length) = some 0)⟩ rfl (Nat.le_of_ble_eq_true rfl) ⟨⟨by decide, by decide⟩, by decide, by decide⟩ (fun E m9 h9 => h9.elim) (fun r9 m9 h9 => ?_)
  obtain ⟨rfl, h8⟩ := h9
  replace h8 := h8.symm
  subst h8
  show mV g x _ _ _ _ _ [.ref (b + 230), .ref b]
  refine v_putF (m1 := (sR (J4_init_da8c8_m g ((nw ((biF g m b)) (.inl 1))) (b + 230) ) 358 b (some (b + 230)))) (pc := 78) hX dX10_init_78 (biG_i hk hg) (ci := 11) (r := vwC11) rfl 6 (by decide) wd_312 rfl rfl rfl rfl rfl rfl ?_
  refine mV_eqM (m1 := (biG g m b)) (biG_e) ?_
  refine v_aload_n (pc := 81) hX dX10_init_81 rfl ?_
  refine v_iconst (v := 0) (pc := 82) hX dX10_init_82 (by decide) ?_
  refine v_put (m1 := (sI (biG g m b) 359 b 0)) (pc := 83) hX dX10_init_83 (biG_k hk hg) (ci := 11) (r := vwC11) rfl 7 (by decide) wd_313 rfl (by decide) (by decide) rfl ?_
  refine v_aload_n (pc := 86) hX dX10_init_86 rfl ?_
  refine v_iconst (v := (-1)) (pc := 87) hX dX10_init_87 (by decide) ?_
  refine v_put (m1 := (sI (sI (biG g m b) 359 b 0) 360 b ((-1)))) (pc := 88) hX dX10_init_88 (by simp only [mm]; exact biG_k hk hg) (ci := 11) (r := vwC11) rfl 8 (by decide) wd_314 rfl rfl rfl rfl ?_
  refine v_aload_n (pc := 91) hX dX10_init_91 rfl ?_
  refine v_iconst (v := (-1)) (pc := 92) hX dX10_init_92 (by decide) ?_
  refine v_put (m1 := (sI (sI (sI (biG g m b) 359 b 0) 360 b ((-1))) 361 b ((-1)))) (pc := 93) hX dX10_init_93 (by simp only [mm]; exact biG_k hk hg) (ci := 11) (r := vwC11) rfl 9 (by decide) wd_315 rfl rfl rfl rfl ?_
  refine mV_eqM (m1 := (biZ g m b)) (biZ_e) ?_
  exact v_vret (pc := 96) hX hZ dX10_init_96 (by decide) (by decide) ⟨rfl, (by rw [X10_init_m])⟩
