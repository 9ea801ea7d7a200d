/-! A RUN -/
section
variable {g : mG} {mc mr mc1 mr1 m m1 M R : mM} {b r T N H nx C c : Nat}
theorem mS_sy {a : Nat} (h : mS m m1 a) : mS m1 m a := by
  obtain ⟨h1, h2, h3, h4, h5, h6, h7⟩ := h
  exact ⟨fun k => (h1 k).symm, fun k => (h2 k).symm, fun k => (h3 k).symm, h4.symm, h5.symm, h6.symm, h7.symm⟩
theorem rn2_S {a : Nat} (hs : SP mc (b + 214)) (hL : okI (gI mc 323 (b + 214)) 60) (hq : CQ g mc (b + 214)) (h : a < b + 214 ∨ b + 230 ≤ a) : Sm mc (rn2_m g mc b) a := by
  unfold rn2_m X8_empty_m
  exact (Sm.of (rd_out hs hL hq).1 (by omega)).tr (Sm_I (by omega))
theorem rn2_3 : gI (rn2_m g mc b) 323 (b + 214) = 0 := by
  unfold rn2_m X8_empty_m
  simp [mm]
theorem rn2_4 : gI (rn2_m g mc b) 324 (b + 214) = gI (X8_read_m g mc (b + 214)) 324 (b + 214) := by
  unfold rn2_m X8_empty_m
  simp [mm]
theorem rn2_T {cs : List (Nat × List Int32)} {j : Nat} (h : STO g (X8_read_m g mc (b + 214)) (b + 214) j cs) : STO g (rn2_m g mc b) (b + 214) j cs := h.to (fun c _ _ => by
  unfold rn2_m X8_empty_m
  exact ⟨by simp only [mm], by simp only [mm]⟩)
theorem OBJ.mono {T1 : Nat} (h : OBJ g mc mr b r T) (ht : T ≤ T1) (h9 : T1 ≤ 9000) : OBJ g mc mr b r T1 := by
  obtain ⟨h1, h2, h3, h4, h5, ⟨N, H, F0, V0⟩, h7, ⟨nx, C, k0, k1, k2, k3, k4, k5⟩, h9', h10, h11⟩ := h
  refine ⟨h1, h2, h3, h4, h5, ⟨N, H, F0, V0.mono ht h9⟩, h7.mono ht h9, ⟨nx, C, k0, k1, k2, k3, k4, fun c hc => ?_⟩, h9', h10, h11⟩
  obtain ⟨N, H, y1, y2⟩ := k5 c hc
  exact ⟨N, H, y1, y2.mono ht h9⟩
set_option maxHeartbeats 2000000 in
theorem call_run (hd : VD g) (hcm : ∀ j, j < 12 → cmI g (cmA g j) = j) (h : OBJ g mc mr b r T) (hH : HIS g mc mr b r T nx C) (F0 : FR g mc (b + 1) (gA mr (r + 1)) N H) (V0 : RV T (gA mr (r + 1)) N H) (hT : T + 12 ≤ 9000) : CALL g b r (T + 12) mc mr (X10_run_m g mc b nx) (X11_run_m g mr r C) [("java/lang/IllegalArgumentException", 1), ("java/lang/UnsupportedOperationException", 2)] (X10_run_x g mc b nx) (X10_run_r g mc b nx = X11_run_r g mr r C) := by
  have hh := h
  obtain ⟨h1, h2, h3, h4, h5, h6, h7, -, h8, h10, h11⟩ := h
  obtain ⟨L, hL, c323, r400, htx⟩ := h8
  have hN8 := F0.2.2.2.2.1
  have hH4 := F0.2.2.2.2.2
  have okL : okI (gI mc 323 (b + 214)) 60 := by
    rw [c323]
    unfold okI
    rw [nI_clamp (by omega)]
    exact ⟨rfl, hL⟩
  have okN : okI (gI mc 163 (b + 1)) 8 := by
    rw [F0.2.1.2.2.2.2.2.1, V0.1.1]
    unfold okI
    rw [nI_clamp (by omega)]
    exact ⟨rfl, hN8⟩
  have okH : okI (gI mc 164 (b + 1)) 4 := by
    rw [F0.2.1.2.2.2.2.2.2.1, V0.1.2.1]
    unfold okI
    rw [nI_clamp (by omega)]
    exact ⟨rfl, hH4⟩
  -- the class reads
  obtain ⟨z1, z2, z3, z4⟩ := rn2_ok h1 h2 okL h3
  have zS := fun a ha => rn2_S (a := a) h2 okL h3 ha
  have z5 := rn2_3 (g := g) (mc := mc) (b := b)
  obtain ⟨y1, y2, y3⟩ := rn3_ok h1 h2 okL h3 okN okH hH.2.2.1
  have hrd := rd_c (g := g) (m := mc) (p := b + 214) (t := gA mc (b + 214 + 1)) hcm hL c323 (fun i _ => rfl)
  -- the reference begins
  obtain ⟨bg1, bg2, bg3, bg4, bg5, bg6, bg7⟩ := beg_f (g := g) mr r
  unfold X11_run_m X11_run_r
  generalize X11_begins_m g mr r = B at *
  have s1 : gI (sI (sI (sI B 402 r (gI B 400 r)) 400 r 0) 405 r 0) 402 r = nI L := by
    rw [bg3 400 (by decide), r400]
    simp [mm]
  have s2 : gI (sI (sI (sI B 402 r (gI B 400 r)) 400 r 0) 405 r 0) 400 r = 0 := by simp [mm]
  have s3 : gI (sI (sI (sI B 402 r (gI B 400 r)) 400 r 0) 405 r 0) 405 r = 0 := by simp [mm]
  have s4 : ∀ k, k ≠ 400 → k ≠ 402 → k ≠ 405 → gI (sI (sI (sI B 402 r (gI B 400 r)) 400 r 0) 405 r 0) k r = gI B k r := fun k q1 q2 q3 => by simp [mm, q1, q2, q3]
  have s5 : ∀ a, a ≠ r → Sm B (sI (sI (sI B 402 r (gI B 400 r)) 400 r 0) 405 r 0) a := fun a q => (Sm_I q).tr ((Sm_I q).tr (Sm_I q))
  have s6 : gK (sI (sI (sI B 402 r (gI B 400 r)) 400 r 0) 405 r 0) = gK B := by simp only [mm]
  have s7 : gR (sI (sI (sI B 402 r (gI B 400 r)) 400 r 0) 405 r 0) = gR B := by simp only [mm]
  generalize sI (sI (sI B 402 r (gI B 400 r)) 400 r 0) 405 r 0 = S1 at *
  have tS : ∀ {S : mM}, gI S 402 r = nI L → (∀ i, i < L → gA S (r + 6) i = gA mr (r + 6) i) → QS (sI (sI S 401 r 0) 404 r 0) r (gA mc (b + 214 + 1)) L 0 := fun {S} q1 q2 => ⟨hL, Nat.zero_le _, by simp [mm, q1], by simp [mm]; rfl, fun i hi => by simp only [mm]; rw [q2 i hi]; exact (htx i hi).symm⟩
  have gz : ∀ (S : mM) k, k ≠ 401 → k ≠ 404 → gI (sI (sI S 401 r 0) 404 r 0) k r = gI S k r := fun S k q1 q2 => by simp [mm, q1, q2]
  have g4 : ∀ S : mM, gI (sI (sI S 401 r 0) 404 r 0) 404 r = 0 := fun S => by simp [mm]
  have gS : ∀ (S : mM) a, a ≠ r → Sm S (sI (sI S 401 r 0) 404 r 0) a := fun S a q => (Sm_I q).tr (Sm_I q)
  have gk : ∀ S : mM, gK (sI (sI S 401 r 0) 404 r 0) = gK S ∧ gR (sI (sI S 401 r 0) 404 r 0) = gR S := fun S => ⟨by simp only [mm], by simp only [mm]⟩
  have hQ1 := tS s1 (fun i _ => by rw [(s5 (r + 6) (by omega)).gA, (bg1 (r + 6) (by omega) (by omega)).gA])
  rcases hrd with ⟨cs, d1, d2, d3, d4, d5⟩ | ⟨e, e1, e2, e3⟩
  · -- it is read, and done once more
    have p1 := p1_ok (g := g) cs 0 (sI (sI S1 401 r 0) 404 r 0) 61 1 (gA S1 (r + 1) 5).toNatClampNeg (gA S1 (r + 1) 6).toNatClampNeg d2 hQ1 (g4 _) ((gz S1 405 (by decide) (by decide)).trans s3) ((gz S1 384 (by decide) (by decide)).trans ((s4 384 (by decide) (by decide) (by decide)).trans bg2)) (by omega)
    have q : X11_commands_m g S1 r = (X11_commands_l1 g r 61 1 (X11_command_m g (sI (sI S1 401 r 0) 404 r 0) r (gA S1 (r + 1) 5).toNatClampNeg (gA S1 (r + 1) 6).toNatClampNeg)).2 := by
      unfold X11_commands_m
      rfl
    rw [← q] at p1
    obtain ⟨a1, a2⟩ := p1
    rw [if_pos a2, if_pos a2]
    generalize X11_commands_m g S1 r = Q1 at *
    have x1 := a1.p2
    have A1 : gA Q1 (r + 1) = gA mr (r + 1) := by
      rw [funext (a1.2.2.2.1 (r + 1) (by omega) (by omega)), (gS S1 (r + 1) (by omega)).gA, (s5 (r + 1) (by omega)).gA, bg4]
    have B1 : ∀ a, a ≠ r → a ≠ r + 1 → a ≠ r + 8 → a ≠ r + 9 → Sm B Q1 a := fun a q1 q2 q3 q4 => (s5 a q1).tr ((gS S1 a q1).tr (x1.2.2.1 a q1 q2 q3 q4))
    have I1 : ∀ k, k ≠ 384 → k ≠ 401 → k ≠ 404 → gI Q1 k r = gI S1 k r := fun k q1 q2 q3 => (x1.2.2.2 k q1 q2 q3).trans (gz S1 k q2 q3)
    have T1 : gI Q1 384 r = 0 := ((a1.2.2.2.2.1 384 r (by decide) (by decide)).trans (gz S1 384 (by decide) (by decide))).trans ((s4 384 (by decide) (by decide) (by decide)).trans bg2)
    have K1 : gK Q1 = gK mr := by rw [x1.1, (gk S1).1, s6, bg6]
    have R1 : gR Q1 = gR mr := by rw [x1.2.1, (gk S1).2, s7, bg7]
    -- 405: now they are done
    have v1 : gI (sI Q1 405 r 1) 405 r = 1 := by simp [mm]
    have v2 : ∀ k, k ≠ 405 → gI (sI Q1 405 r 1) k r = gI Q1 k r := fun k q => by simp [mm, q]
    have v3 : ∀ a, a ≠ r → Sm Q1 (sI Q1 405 r 1) a := fun a q => Sm_I q
    have v4 : gA (sI Q1 405 r 1) = gA Q1 := by simp only [mm]
    have v5 : gK (sI Q1 405 r 1) = gK Q1 := by simp only [mm]
    have v6 : gR (sI Q1 405 r 1) = gR Q1 := by simp only [mm]
    generalize sI Q1 405 r 1 = S2 at *
    have hQ2 := tS (S := S2) ((v2 402 (by decide)).trans ((I1 402 (by decide) (by decide) (by decide)).trans s1)) (fun i _ => by rw [v4, (B1 (r + 6) (by omega) (by omega) (by omega) (by omega)).gA, (bg1 (r + 6) (by omega) (by omega)).gA])
    have A2 : gA (sI (sI S2 401 r 0) 404 r 0) (r + 1) = gA mr (r + 1) := by rw [(gS S2 (r + 1) (by omega)).gA, v4, A1]
    -- the class tries them on a copy
    have E4 : gI (rn2_m g mc b) 324 (b + 214) = nI cs.length := rn2_4.trans d4
    have st2 : STO g (rn2_m g mc b) (b + 214) 0 cs := rn2_T d5
    have F2 : FR g (rn2_m g mc b) (b + 1) (gA mr (r + 1)) N H := F0.sm (fun a q1 q2 => zS a (by omega))
    have e3m : rn3_m g mc b = (X10_firstFailure_l1 g b cs.length cs.length 0 (X3_copyFrom_m g (rn2_m g mc b) (b + 33) (b + 1))).2 := by
      unfold rn3_m X10_firstFailure_m
      rw [E4, nI_clamp (by omega)]
    have e3r : X10_firstFailure_r g (rn2_m g mc b) b (gI (rn2_m g mc b) 324 (b + 214)).toNatClampNeg = (X10_firstFailure_l1 g b cs.length cs.length 0 (X3_copyFrom_m g (rn2_m g mc b) (b + 33) (b + 1))).1 := by
      unfold X10_firstFailure_r
      rw [E4, nI_clamp (by omega)]
    have frK := fr_X3_copyFrom g (rn2_m g mc b) (b + 33) (b + 1) z1.f3 z1.f1
    have FK := copy_FR F2 z1.f3 (by omega)
    have p2 := p2_l (g := g) (t := gA mc (b + 214 + 1)) (L := L) (b := b) (C := cs.length) (p := b + 214) (r := r) hd hcm rfl cs 0 (X3_copyFrom_m g (rn2_m g mc b) (b + 33) (b + 1)) (sI (sI S2 401 r 0) 404 r 0) 61 0 T N H d2 (st2.to (fun c _ _ => ⟨by rw [frK.gQ (by omega)], (frK.2.2 (b + 214 + 4 + c) (by omega)).2.2.2.1⟩)) (by omega) hQ2 (g4 _) ((gz S2 405 (by decide) (by decide)).trans v1) ((gz S2 384 (by decide) (by decide)).trans ((v2 384 (by decide)).trans T1)) (by rw [A2]; exact FK) (by rw [A2]; exact V0) (by omega) (by omega)
    have nN : (gA S2 (r + 1) 5).toNatClampNeg = N := by rw [v4, A1, V0.1.1, nI_clamp (by omega)]
    have nH : (gA S2 (r + 1) 6).toNatClampNeg = H := by rw [v4, A1, V0.1.2.1, nI_clamp (by omega)]
    have qm : X11_commands_m g S2 r = (X11_commands_l1 g r 61 (0 + 1) (X11_command_m g (sI (sI S2 401 r 0) 404 r 0) r N H)).2 := by
      unfold X11_commands_m
      rw [nN, nH]
    have qr : X11_commands_r g S2 r = (X11_commands_l1 g r 61 (0 + 1) (X11_command_m g (sI (sI S2 401 r 0) 404 r 0) r N H)).1 := by
      unfold X11_commands_r
      rw [nN, nH]
    rw [← qm, ← qr, ← e3r, ← e3m] at p2
    obtain ⟨-, x2, p3⟩ := p2
    unfold X10_run_m X10_run_x X10_run_r
    rw [d3, if_pos rfl, if_pos rfl, if_pos rfl]
    generalize X10_firstFailure_r g (rn2_m g mc b) b (gI (rn2_m g mc b) 324 (b + 214)).toNatClampNeg = ff at *
    have y3S := fun a (ha : a < b + 33 ∨ b + 33 + 16 ≤ a) => Sm.of y3 ha
    have E34 : gI (rn3_m g mc b) 324 (b + 214) = nI cs.length := ((y3S _ (by omega)).gI _).trans E4
    have y8 : gI (rn3_m g mc b) 323 (b + 214) = 0 := ((y3S _ (by omega)).gI _).trans z5
    have yP : SP (rn3_m g mc b) (b + 214) := z2.below (fun a q1 q2 => y3S a (by omega))
    have yC : CQ g (rn3_m g mc b) (b + 214) := z3.sm (y3S _ (by omega))
    have yS : ∀ a, (a < b + 33 ∨ b + 49 ≤ a) → (a < b + 214 ∨ b + 230 ≤ a) → Sm mc (rn3_m g mc b) a := fun a q1 q2 => (zS a (by omega)).tr (y3S a (by omega))
    generalize rn3_m g mc b = E3 at *
    generalize X11_commands_m g S2 r = Q2 at *
    generalize X11_commands_r g S2 r = Q2r at *
    have B2 : ∀ a, a ≠ r → a ≠ r + 1 → a ≠ r + 8 → a ≠ r + 9 → Sm B Q2 a := fun a q1 q2 q3 q4 => (B1 a q1 q2 q3 q4).tr ((v3 a q1).tr ((gS S2 a q1).tr (x2.2.2.1 a q1 q2 q3 q4)))
    have I2 : ∀ k, k ≠ 384 → k ≠ 400 → k ≠ 401 → k ≠ 402 → k ≠ 404 → k ≠ 405 → gI Q2 k r = gI mr k r := fun k q1 q2 q3 q4 q5 q6 => by
      rw [x2.2.2.2 k q1 q3 q5, gz S2 k q3 q5, v2 k q6, I1 k q1 q3 q5, s4 k q2 q4 q6, bg3 k q1]
    have I4 : gI Q2 400 r = 0 := by
      rw [x2.2.2.2 400 (by decide) (by decide) (by decide), gz S2 400 (by decide) (by decide), v2 400 (by decide), I1 400 (by decide) (by decide) (by decide), s2]
    have K2 : gK Q2 = gK mr := by rw [x2.1, (gk S2).1, v5, K1]
    have R2 : gR Q2 = gR mr := by rw [x2.2.1, (gk S2).2, v6, R1]
    have row2 : ∀ k, k < 85 → gA Q2 (r + 2) k = gA mr (r + 1) k := fun k hk => by
      rw [(B2 (r + 2) (by omega) (by omega) (by omega) (by omega)).gA]
      exact bg5 k hk
    have G2 : ∀ a, a ≠ r → a ≠ r + 1 → a ≠ r + 2 → a ≠ r + 8 → a ≠ r + 9 → Sm mr Q2 a := fun a q1 q2 q3 q4 q5 => (bg1 a q1 q3).tr (B2 a q1 q2 q4 q5)
    rcases p3 with ⟨p4, p5, p6, N2, H2, p7, p8⟩ | ⟨e, p4, p5, p6, p7⟩
    · -- all are done: the copy is the new forge
      have hn9 := hH.1
      rw [p4, if_pos rfl, if_pos rfl, if_pos rfl, if_pos p5, if_pos p5, p6, Nat.zero_add]
      have yb := yS b (by omega) (by omega)
      have L1 : ∀ k, k < 85 → gA (X11_lays_m g Q2 (r + 1) (r + 2)) (r + 1) k = gA Q2 (r + 2) k := fun k hk => lays_row (by omega) Q2 hk
      have L2 : ∀ a, a ≠ r + 1 → Sm Q2 (X11_lays_m g Q2 (r + 1) (r + 2)) a := fun a ha => lays_S Q2 ha
      have L3 : gI (X11_lays_m g Q2 (r + 1) (r + 2)) = gI Q2 := kI_X11_lays g Q2 (r + 1) (r + 2)
      have L4 : gK (X11_lays_m g Q2 (r + 1) (r + 2)) = gK Q2 := kK_X11_lays g Q2 (r + 1) (r + 2)
      have L5 : gR (X11_lays_m g Q2 (r + 1) (r + 2)) = gR Q2 := kR_X11_lays g Q2 (r + 1) (r + 2)
      have L6 : gN (X11_lays_m g Q2 (r + 1) (r + 2)) = gN Q2 := kN_X11_lays g Q2 (r + 1) (r + 2)
      generalize X11_lays_m g Q2 (r + 1) (r + 2) = MR at *
      have fS : ∀ a, a ≠ r → a ≠ r + 1 → a ≠ r + 2 → a ≠ r + 8 → a ≠ r + 9 → Sm mr MR a := fun a q1 q2 q3 q4 q5 => (G2 a q1 q2 q3 q4 q5).tr (L2 a q2)
      have fI : ∀ k, k ≠ 384 → k ≠ 400 → k ≠ 401 → k ≠ 402 → k ≠ 404 → k ≠ 405 → gI MR k r = gI mr k r := fun k q1 q2 q3 q4 q5 q6 => by
        rw [L3]
        exact I2 k q1 q2 q3 q4 q5 q6
      have hO : OBJ g E3 MR b r T := hh.rn y1 yP yC (fun a q1 q2 q3 => yS a q2 q3) (yb.gI _) y8 ⟨by rw [yb.gI, fI 386 (by decide) (by decide) (by decide) (by decide) (by decide) (by decide)]; exact h10.1, by rw [yb.gI, fI 387 (by decide) (by decide) (by decide) (by decide) (by decide) (by decide)]; exact h10.2.1, by rw [fI 386 (by decide) (by decide) (by decide) (by decide) (by decide) (by decide)]; exact h10.2.2.1, by rw [fI 387 (by decide) (by decide) (by decide) (by decide) (by decide) (by decide)]; exact h10.2.2.2⟩ fS (fun k hk => by rcases hk with rfl | rfl | rfl <;> exact fI _ (by decide) (by decide) (by decide) (by decide) (by decide) (by decide)) (fun k hk => (L1 k hk).trans (row2 k hk)) (by rw [L3]; exact I4) (L4.trans K2) (L5.trans R2)
      have hH' : HIS g E3 MR b r T nx C := (hH.toC (fun a q1 q2 => yS a (by omega) (by omega))).toR (fI 385 (by decide) (by decide) (by decide) (by decide) (by decide) (by decide)) (fS (r + 4) (by omega) (by omega) (by omega) (by omega) (by omega)).gA
      have hsl1 : SF E3 (b + 49 + 2 + 16 * nx) := y1.h.f hn9
      have hPf : Fr (b + 49 + 2 + 16 * nx) (b + 49 + 2 + 16 * nx + 16) E3 (X6_prepare_m g E3 (b + 49) (b + 1) nx) := fr_X3_copyFrom g E3 (b + 49 + 2 + 16 * nx) (b + 1) hsl1 y1.f1
      have FP : FR g (X6_prepare_m g E3 (b + 49) (b + 1) nx) (b + 33) (gA Q2 (r + 1)) N2 H2 := p7.sm (fun a q1 q2 => Sm.of hPf (by omega))
      have SP1 : SF (X6_prepare_m g E3 (b + 49) (b + 1) nx) (b + 1) := y1.f1.below (fun a q1 q2 => Sm.of hPf (by omega))
      have FM := copy_FR FP SP1 (by omega)
      have frM := fr_X3_copyFrom g (X6_prepare_m g E3 (b + 49) (b + 1) nx) (b + 1) (b + 33) SP1 FP.1
      have gM : gI (X3_copyFrom_m g (X6_prepare_m g E3 (b + 49) (b + 1) nx) (b + 1) (b + 33)) 324 (b + 214) = nI cs.length := ((Sm.of frM (by omega)).gI _).trans (((Sm.of hPf (by omega)).gI _).trans E34)
      have hA : 0 ≤ (nI cs.length).toInt := by
        rw [nI_toInt (by omega)]
        omega
      have hs : SIM g (b + 1) r (fun _ => 0) (T + 12) (X6_prepare_m g E3 (b + 49) (b + 1) nx) (X3_copyFrom_m g (X6_prepare_m g E3 (b + 49) (b + 1) nx) (b + 1) (b + 33)) (nI cs.length) Q2 (nI cs.length) := Or.inr ⟨hA, rfl, p5, N2, H2, FM, p8.mono (by omega) hT⟩
      have hR : RX r MR Q2 := ⟨L4.symm, L6.symm, L5.symm, fun a q1 q2 => mS_sy (L2 a q2).2, fun k hk => by rw [L3]⟩
      have hc := change2 (tab := [("java/lang/IllegalArgumentException", 1), ("java/lang/UnsupportedOperationException", 2)]) hO hH' (by omega) hT hs frM (Bg := MR) (fun _ _ _ => Sm.rf) (fun _ _ => rfl) (fun k hk => by rw [(L2 (r + 2) (by omega)).gA, L1 k hk]) rfl rfl hR (fun A _ hz => absurd rfl hz)
      obtain ⟨k1, k2, k3⟩ := st_ok (g := g) (m := X3_copyFrom_m g (X6_prepare_m g E3 (b + 49) (b + 1) nx) (b + 1) (b + 33)) (b := b) hA
      rw [k1, k2, k3] at hc
      have gC : gI (X6_commit_m g (X3_copyFrom_m g (X6_prepare_m g E3 (b + 49) (b + 1) nx) (b + 1) (b + 33)) (b + 49)) 324 (b + 214) = nI cs.length := by
        rw [← gM]
        generalize X3_copyFrom_m g (X6_prepare_m g E3 (b + 49) (b + 1) nx) (b + 1) (b + 33) = Z
        unfold X6_commit_m
        split <;> simp [mm]
      rw [gC]
      obtain ⟨c1, c2, c3, c4⟩ := hc
      exact ⟨c1, fun a ha => (yS a (by omega) (by omega)).tr (c2 a ha), fun a ha => (fS a (by omega) (by omega) (by omega) (by omega) (by omega)).tr (c3 a ha), c4⟩
    · -- one of them is refused
      rw [p5, if_neg (nI_nm (by omega)), if_neg (nI_nm (by omega)), if_neg (nI_nm (by omega)), if_neg p6, if_neg p6, p7, nI_pred]
      have w0 : gI (sI (sI Q2 387 r (nI e)) 384 r 2) 384 r ≠ 0 := by
        have : gI (sI (sI Q2 387 r (nI e)) 384 r 2) 384 r = 2 := by simp [mm]
        rw [this]
        decide
      obtain ⟨o1, o2, o3, o4, o5⟩ := ends_no (g := g) (a := nI (e + 1)) (C := C) w0
      have w1 : gI (sI (sI Q2 387 r (nI e)) 384 r 2) 384 r = 2 := by simp [mm]
      have w2 : gI (sI (sI Q2 387 r (nI e)) 384 r 2) 387 r = nI e := by simp [mm]
      have w3 : ∀ k, k ≠ 384 → k ≠ 387 → gI (sI (sI Q2 387 r (nI e)) 384 r 2) k r = gI Q2 k r := fun k q1 q2 => by simp [mm, q1, q2]
      have w4 : ∀ a, a ≠ r → Sm Q2 (sI (sI Q2 387 r (nI e)) 384 r 2) a := fun a q => (Sm_I q).tr (Sm_I q)
      have w5 : gK (sI (sI Q2 387 r (nI e)) 384 r 2) = gK Q2 := by simp only [mm]
      have w6 : gR (sI (sI Q2 387 r (nI e)) 384 r 2) = gR Q2 := by simp only [mm]
      generalize sI (sI Q2 387 r (nI e)) 384 r 2 = Q3 at *
      generalize X11_ends_m g Q3 r (nI (e + 1)) C = R9 at *
      have m1 : SB (sI E3 361 b (nI e)) b := y1.to (by simp only [mm]) (fun k hk a => by simp only [mm]) (by simp only [mm])
      have m2 : ∀ a, a ≠ b → Sm E3 (sI E3 361 b (nI e)) a := fun a q => Sm_I q
      have m3 : gI (sI E3 361 b (nI e)) 359 b = gI E3 359 b := by simp [mm]
      have m4 : gI (sI E3 361 b (nI e)) 361 b = nI e := by simp [mm]
      have m5 : gI (sI E3 361 b (nI e)) 360 b = gI E3 360 b := by simp [mm]
      generalize sI E3 361 b (nI e) = M9 at *
      have yb := yS b (by omega) (by omega)
      have f7 : gI R9 387 r = nI e := (o1 387).trans w2
      have f6 : gI R9 386 r = gI mr 386 r := (o1 386).trans ((w3 386 (by decide) (by decide)).trans (I2 386 (by decide) (by decide) (by decide) (by decide) (by decide) (by decide)))
      have fS : ∀ a, a ≠ r → a ≠ r + 1 → a ≠ r + 2 → a ≠ r + 8 → a ≠ r + 9 → Sm mr R9 a := fun a q1 q2 q3 q4 q5 => (G2 a q1 q2 q3 q4 q5).tr ((w4 a q1).tr (o3 a q2))
      have hO : OBJ g M9 R9 b r T := hh.rn m1 (yP.below (fun a q1 q2 => m2 a (by omega))) (yC.sm (m2 _ (by omega))) (fun a q1 q2 q3 => (yS a q2 q3).tr (m2 a q1)) (m3.trans (yb.gI _)) (((m2 _ (by omega)).gI _).trans y8) ⟨by rw [m5, yb.gI, f6]; exact h10.1, m4.trans f7.symm, by rw [f6]; exact h10.2.2.1, by rw [f7]; exact Or.inr (by rw [nI_toInt (by omega)]; omega)⟩ fS (fun k hk => by rcases hk with rfl | rfl | rfl <;> exact (o1 _).trans ((w3 _ (by decide) (by decide)).trans (I2 _ (by decide) (by decide) (by decide) (by decide) (by decide) (by decide)))) (fun k hk => by rw [o2 k hk, (w4 (r + 2) (by omega)).gA, row2 k hk]) ((o1 400).trans ((w3 400 (by decide) (by decide)).trans I4)) (o4.trans (w5.trans K2)) (o5.trans (w6.trans R2))
      exact ⟨hO.mono (by omega) hT, fun a ha => (yS a (by omega) (by omega)).tr (m2 a (by omega)), fun a ha => fS a (by omega) (by omega) (by omega) (by omega) (by omega), Or.inr ⟨_, 2, rfl, rfl, (o1 384).trans w1⟩⟩
  · -- the text is refused
    have p1 := p1_no (g := g) 13 0 e (sI (sI S1 401 r 0) 404 r 0) 61 1 (gA S1 (r + 1) 5).toNatClampNeg (gA S1 (r + 1) 6).toNatClampNeg e2 hQ1 (g4 _) ((gz S1 405 (by decide) (by decide)).trans s3) ((gz S1 384 (by decide) (by decide)).trans ((s4 384 (by decide) (by decide) (by decide)).trans bg2)) (by omega)
    have q : X11_commands_m g S1 r = (X11_commands_l1 g r 61 1 (X11_command_m g (sI (sI S1 401 r 0) 404 r 0) r (gA S1 (r + 1) 5).toNatClampNeg (gA S1 (r + 1) 6).toNatClampNeg)).2 := by
      unfold X11_commands_m
      rfl
    rw [← q] at p1
    obtain ⟨a1, a2, a3⟩ := p1
    have n0 : ¬ gI (X11_commands_m g S1 r) 404 r = 0 := by
      rw [a2]
      decide
    rw [if_neg n0, if_neg n0]
    unfold X10_run_m X10_run_x X10_run_r
    rw [e3, if_neg (nI_nm (by omega)), if_neg (nI_nm (by omega)), if_neg (nI_nm (by omega)), a3]
    generalize X11_commands_m g S1 r = Q1 at *
    generalize rn2_m g mc b = E2 at *
    have x2 := a1.p2
    have fS : ∀ a, a ≠ r → a ≠ r + 1 → a ≠ r + 2 → a ≠ r + 8 → a ≠ r + 9 → Sm mr (sI (sI Q1 386 r (nI e)) 384 r 1) a := fun a q1 c1 q2 q3 q4 => (bg1 a q1 q2).tr ((s5 a q1).tr ((gS S1 a q1).tr ((x2.2.2.1 a q1 c1 q3 q4).tr ((Sm_I q1).tr (Sm_I q1)))))
    have fI : ∀ k, k ≠ 384 → k ≠ 386 → k ≠ 400 → k ≠ 401 → k ≠ 402 → k ≠ 404 → k ≠ 405 → gI (sI (sI Q1 386 r (nI e)) 384 r 1) k r = gI mr k r := fun k q1 q2 q3 q4 q5 q6 q7 => by
      have w : gI (sI (sI Q1 386 r (nI e)) 384 r 1) k r = gI Q1 k r := by simp [mm, q1, q2]
      rw [w, x2.2.2.2 k q1 q4 q6, gz S1 k q4 q6, s4 k q3 q5 q7, bg3 k q1]
    have f4 : gI (sI (sI Q1 386 r (nI e)) 384 r 1) 400 r = 0 := by
      have w : gI (sI (sI Q1 386 r (nI e)) 384 r 1) 400 r = gI Q1 400 r := by simp [mm]
      rw [w, x2.2.2.2 400 (by decide) (by decide) (by decide), gz S1 400 (by decide) (by decide), s2]
    have f1 : gA (sI (sI Q1 386 r (nI e)) 384 r 1) (r + 1) = gA mr (r + 1) := by
      have w : gA (sI (sI Q1 386 r (nI e)) 384 r 1) = gA Q1 := by simp only [mm]
      rw [w, funext (a1.2.2.2.1 (r + 1) (by omega) (by omega)), (gS S1 (r + 1) (by omega)).gA, (s5 (r + 1) (by omega)).gA, bg4]
    have fK : gK (sI (sI Q1 386 r (nI e)) 384 r 1) = gK mr := by
      have w : gK (sI (sI Q1 386 r (nI e)) 384 r 1) = gK Q1 := by simp only [mm]
      rw [w, x2.1, (gk S1).1, s6, bg6]
    have fR : gR (sI (sI Q1 386 r (nI e)) 384 r 1) = gR mr := by
      have w : gR (sI (sI Q1 386 r (nI e)) 384 r 1) = gR Q1 := by simp only [mm]
      rw [w, x2.2.1, (gk S1).2, s7, bg7]
    have f6 : gI (sI (sI Q1 386 r (nI e)) 384 r 1) 386 r = nI e := by simp [mm]
    have f3 : gI (sI (sI Q1 386 r (nI e)) 384 r 1) 384 r = 1 := by simp [mm]
    generalize sI (sI Q1 386 r (nI e)) 384 r 1 = R9 at *
    have m1 : SB (sI E2 360 b (nI e)) b := z1.to (by simp only [mm]) (fun k hk a => by simp only [mm]) (by simp only [mm])
    have m2 : ∀ a, a ≠ b → Sm E2 (sI E2 360 b (nI e)) a := fun a q => Sm_I q
    have m3 : gI (sI E2 360 b (nI e)) 359 b = gI E2 359 b := by simp [mm]
    have m4 : gI (sI E2 360 b (nI e)) 360 b = nI e := by simp [mm]
    have m5 : gI (sI E2 360 b (nI e)) 361 b = gI E2 361 b := by simp [mm]
    generalize sI E2 360 b (nI e) = M9 at *
    have zb := zS b (by omega)
    have hO : OBJ g M9 R9 b r T := hh.rn m1 (z2.below (fun a q1 q2 => m2 a (by omega))) (z3.sm (m2 _ (by omega))) (fun a q1 q2 q3 => (zS a (by omega)).tr (m2 a q1)) (m3.trans (zb.gI _)) (((m2 _ (by omega)).gI _).trans z5) ⟨m4.trans f6.symm, by rw [m5, zb.gI, fI 387 (by decide) (by decide) (by decide) (by decide) (by decide) (by decide) (by decide)]; exact h10.2.1, by rw [f6]; exact Or.inr (by rw [nI_toInt (by omega)]; omega), by rw [fI 387 (by decide) (by decide) (by decide) (by decide) (by decide) (by decide) (by decide)]; exact h10.2.2.2⟩ fS (fun k hk => by rcases hk with rfl | rfl | rfl <;> exact fI _ (by decide) (by decide) (by decide) (by decide) (by decide) (by decide) (by decide)) (fun k _ => by rw [f1]) f4 fK fR
    exact ⟨hO.mono (by omega) hT, fun a ha => (zS a (by omega)).tr (m2 a (by omega)), fun a ha => fS a (by omega) (by omega) (by omega) (by omega) (by omega), Or.inr ⟨_, 1, rfl, rfl, f3⟩⟩
end
