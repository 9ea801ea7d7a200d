/-! A RUN: THE OBJECT BEHIND IT -/
section
variable {g : mG} {mc mr mc1 mr1 m m1 M R : mM} {b r T N H nx C c : Nat}
theorem OBJ.rn (h : OBJ g mc mr b r T) (hSB : SB M b) (hSP : SP M (b + 214)) (hCQ : CQ g M (b + 214)) (e : ∀ a, a ≠ b → (a < b + 33 ∨ b + 49 ≤ a) → (a < b + 214 ∨ b + 230 ≤ a) → Sm mc M a) (e9 : gI M 359 b = gI mc 359 b) (e3 : gI M 323 (b + 214) = 0) (hE : ERR M R b r) (f : ∀ a, a ≠ r → a ≠ r + 1 → a ≠ r + 2 → a ≠ r + 8 → a ≠ r + 9 → Sm mr R a) (fI : ∀ k, k = 385 ∨ k = 388 ∨ k = 403 → gI R k r = gI mr k r) (f1 : ∀ k, k < 85 → gA R (r + 1) k = gA mr (r + 1) k) (f4 : gI R 400 r = 0) (fK : gK R = gK mr) (fR : gR R = gR mr) : OBJ g M R b r T := by
  obtain ⟨h1, h2, h3, h4, h5, ⟨N, H, F0, V0⟩, h7, ⟨nx, C, h8⟩, h9, h10, h11⟩ := h
  have hv : b + 231 ≤ vaO mc (b + 230) := by
    obtain ⟨L, -, -, hv, -⟩ := h11
    exact hv
  exact ⟨hSB, hSP, hCQ, h4.sm (fun a _ _ => by rw [fK]) (fun k => by rw [fR]), h5.sm (f _ (by omega) (by omega) (by omega) (by omega) (by omega)).gA (f _ (by omega) (by omega) (by omega) (by omega) (by omega)).gA, ⟨N, H, (F0.sm (fun a q1 q2 => e a (by omega) (by omega) (by omega))).row f1, V0.row f1⟩, (h7.toC e9 (fun a q1 q2 => e a (by omega) (by omega) (by omega))).toR (fI _ (by omega)) (f _ (by omega) (by omega) (by omega) (by omega) (by omega)).gA, ⟨nx, C, (h8.toC (fun a q1 q2 => e a (by omega) (by omega) (by omega))).toR (fI _ (by omega)) (f _ (by omega) (by omega) (by omega) (by omega) (by omega)).gA⟩, ⟨0, by omega, e3, f4, fun i hi => by omega⟩, hE, (h11.toC (e _ (by omega) (by omega) (by omega)) (e _ (by omega) (by omega) (by omega))).toR (fI _ (by omega)) (f _ (by omega) (by omega) (by omega) (by omega) (by omega)).gA⟩
set_option maxHeartbeats 1000000 in
theorem change2 {Bg : mM} {A B : Int32} {pl : Int32 → Int32} {tab : List (String × Int32)} {T1 : Nat} (h : OBJ g mc mr b r T) (hH : HIS g mc mr b r T nx C) (hT : T ≤ T1) (h9 : T1 ≤ 9000) (hs : SIM g (b + 1) r pl T1 (X6_prepare_m g mc (b + 49) (b + 1) nx) M A R B) (hM : Fr (b + 1) (b + 1 + 16) (X6_prepare_m g mc (b + 49) (b + 1) nx) M) (bg1 : ∀ a, a ≠ r → a ≠ r + 2 → Sm mr Bg a) (bg3 : ∀ k, k ≠ 384 → gI Bg k r = gI mr k r) (bg5 : ∀ k, k < 85 → gA Bg (r + 2) k = gA mr (r + 1) k) (bg6 : gK Bg = gK mr) (bg7 : gR Bg = gR mr) (hR : RX r Bg R) (htab : ∀ A, (A = -1 ∨ A = -2 ∨ A = -3 ∨ A = -4 ∨ A = -5) → pl A ≠ 0 → tab.lookup (exc A) = some (pl A)) : CALL g b r T1 mc mr (X10_settle_m g M b A) (X11_ends_m g R r B C) tab (X10_settle_x g M b A) (X10_settle_r g M b A = X11_ends_r g R r B C) := by
  obtain ⟨h1, h2, h3, h4, h5, h6, h7, -, h8, h10, h11⟩ := h
  obtain ⟨hn9, hC8, k1, k2, k3, k4⟩ := hH
  have hsl1 : SF mc (b + 49 + 2 + 16 * nx) := h1.h.f hn9
  have hPf : Fr (b + 49 + 2 + 16 * nx) (b + 49 + 2 + 16 * nx + 16) mc (X6_prepare_m g mc (b + 49) (b + 1) nx) := fr_X3_copyFrom g mc (b + 49 + 2 + 16 * nx) (b + 1) hsl1 h1.f1
  obtain ⟨N0, H0, F0, V0⟩ := h6
  have hc : FR g (X6_prepare_m g mc (b + 49) (b + 1) nx) (b + 49 + 2 + 16 * nx) (gA mr (r + 1)) N0 H0 := copy_FR F0 hsl1 (by omega)
  have sP := fun a (ha : a < b + 49 + 2 + 16 * nx ∨ b + 49 + 2 + 16 * nx + 16 ≤ a) => Sm.of hPf ha
  have sM := fun a (ha : a < b + 1 ∨ b + 1 + 16 ≤ a) => Sm.of hM ha
  generalize X6_prepare_m g mc (b + 49) (b + 1) nx = P at *
  obtain ⟨x1, x2, x3, x4, x5⟩ := hR
  have hBP : SB P b := h1.slot hn9 rfl sP hc.1
  have eva : ∀ {X : mM}, (∀ a, b + 231 ≤ a → Sm mc X a) → Sm mc X (vaO mc (b + 230)) := fun {X} q => by
    obtain ⟨L, -, -, hv, -⟩ := h11
    exact q _ hv
  have rI : ∀ k, k ≠ 384 → gI R k r = gI mr k r := fun k hk => (x5 k hk).trans (bg3 k hk)
  have rA : ∀ a, a ≠ r → a ≠ r + 1 → a ≠ r + 2 → Sm mr R a := fun a q1 q2 q3 => (bg1 a q1 q3).tr ⟨by rw [x1], x4 a q1 q2⟩
  rcases hs with ⟨hA, t1, t2, rfl⟩ | ⟨hA, hB, t0, N1, H1, F1, V1⟩
  · -- refused: all is as before
    obtain ⟨z1, z2⟩ := st_no (g := g) (m := M) (b := b) hA
    obtain ⟨d1, d2, d3, d4, d5⟩ := ends_no (g := g) (a := B) (C := C) (m := R) (r := r) (by rw [t1]; exact t2)
    rw [z2, z1]
    have eA : ∀ a, a ≠ r → a ≠ r + 1 → a ≠ r + 2 → Sm mr (X11_ends_m g R r B C) a := fun a q1 q2 q3 => (rA a q1 q2 q3).tr (d3 a q2)
    have eI : ∀ k, k ≠ 384 → gI (X11_ends_m g R r B C) k r = gI mr k r := fun k hk => (d1 k).trans (rI k hk)
    have row : ∀ k, k < 85 → gA (X11_ends_m g R r B C) (r + 1) k = gA mr (r + 1) k := fun k hk => by
      rw [d2 k hk, (x4 (r + 2) (by omega) (by omega)).2.2.2.1]
      exact bg5 k hk
    have eK : gK (X11_ends_m g R r B C) = gK mr := d4.trans (x1.trans bg6)
    have eR : gR (X11_ends_m g R r B C) = gR mr := d5.trans (x3.trans bg7)
    have eT : gI (X11_ends_m g R r B C) 384 r = pl A := (d1 384).trans t1
    generalize X11_ends_m g R r B C = E at *
    refine ⟨⟨hBP, h2.below (fun a q1 q2 => sP a (by omega)), h3.sm (sP _ (by omega)), h4.sm (fun a _ _ => by rw [eK]) (fun k => by rw [eR]), h5.sm (eA _ (by omega) (by omega) (by omega)).gA (eA _ (by omega) (by omega) (by omega)).gA, ⟨N0, H0, (F0.sm (fun a q1 q2 => sP a (by omega))).row row, (V0.mono hT h9).row row⟩, ((h7.toC ((sP b (by omega)).gI _) (fun a q1 q2 => sP a (by omega))).toR (eI _ (by decide)) (eA _ (by omega) (by omega) (by omega)).gA).mono hT h9, ⟨nx, C, hn9, hC8, ((sP _ (by omega)).gI _).trans k1, ((sP _ (by omega)).gI _).trans k2, (eI _ (by decide)).trans k3, fun c hcC => ?_⟩, (h8.toC (fun a q1 q2 => sP a (by omega))).toR (eI _ (by decide)) (eA _ (by omega) (by omega) (by omega)).gA, (h10.toC ((sP b (by omega)).gI _) ((sP b (by omega)).gI _)).toR (eI _ (by decide)) (eI _ (by decide)), (h11.toC (sP _ (by omega)) (eva (fun a q => sP a (by omega)))).toR (eI _ (by decide)) (eA _ (by omega) (by omega) (by omega)).gA⟩, fun a ha => sP a (by omega), fun a ha => eA a (by omega) (by omega) (by omega), Or.inr ⟨exc A, pl A, rfl, htab A hA t2, eT⟩⟩
    obtain ⟨N, H, y1, y2⟩ := k4 c hcC
    have hl := hsl_lt (nx := nx) (C := C) (c := c)
    have hne := hsl_ne hn9 hC8 hcC
    have w : pastW E r c = pastW mr r c := by
      unfold pastW
      rw [(eA (r + 4) (by omega) (by omega) (by omega)).gA]
    rw [w]
    exact ⟨N, H, y1.sm (fun a q1 q2 => sP a (by omega)), y2.mono hT h9⟩
  · -- done
    obtain ⟨z1, z2, z3⟩ := st_ok (g := g) (m := M) (b := b) hA
    obtain ⟨d1, d2, d3, d4, d5, d6, d7, d8⟩ := ends_ok (g := g) (a := B) (C := C) (m := R) (r := r) t0 hC8
    rw [z2, z1, z3, d1]
    have m257 : gI M 257 (b + 49) = nI nx := ((sM _ (by omega)).gI _).trans (((sP _ (by omega)).gI _).trans k1)
    have m258 : gI M 258 (b + 49) = nI C := ((sM _ (by omega)).gI _).trans (((sP _ (by omega)).gI _).trans k2)
    obtain ⟨c1, c2, c3, c4, c5⟩ := com_f (g := g) m257 m258 hn9 hC8
    have hBM : SB M b := hBP.forge (fun a q => sM a (by omega)) F1.1
    have hBS : SB (X6_commit_m g M (b + 49)) b := hBM.hist c3 c4 c5
    generalize X6_commit_m g M (b + 49) = S at *
    have eA : ∀ a, a ≠ r → a ≠ r + 1 → a ≠ r + 2 → a ≠ r + 4 → Sm mr (X11_ends_m g R r B C) a := fun a q1 q2 q3 q4 => (rA a q1 q2 q3).tr (d6 a q1 q4)
    have eI : ∀ k, k ≠ 384 → k ≠ 385 → gI (X11_ends_m g R r B C) k r = gI mr k r := fun k hk hk2 => (d3 k hk2).trans (rI k hk)
    have e1 : gA (X11_ends_m g R r B C) (r + 1) = gA R (r + 1) := (d6 (r + 1) (by omega) (by omega)).gA
    have eK : gK (X11_ends_m g R r B C) = gK mr := d7.trans (x1.trans bg6)
    have eR : gR (X11_ends_m g R r B C) = gR mr := d8.trans (x3.trans bg7)
    have eT : gI (X11_ends_m g R r B C) 384 r = 0 := (d3 384 (by decide)).trans t0
    have e4R : gA R (r + 4) = gA mr (r + 4) := (rA (r + 4) (by omega) (by omega) (by omega)).gA
    generalize X11_ends_m g R r B C = E at *
    have sS : ∀ a, a ≠ b + 49 → (a < b + 49 + 2 + 16 * nx ∨ b + 49 + 2 + 16 * nx + 16 ≤ a) → (a < b + 1 ∨ b + 1 + 16 ≤ a) → Sm mc S a := fun a q1 q2 q3 => (sP a q2).tr ((sM a q3).tr (c3 a q1))
    refine ⟨⟨hBS, h2.below (fun a q1 q2 => sS a (by omega) (by omega) (by omega)), h3.sm (sS _ (by omega) (by omega) (by omega)), h4.sm (fun a _ _ => by rw [eK]) (fun k => by rw [eR]), h5.sm (eA _ (by omega) (by omega) (by omega) (by omega)).gA (eA _ (by omega) (by omega) (by omega) (by omega)).gA, ⟨N1, H1, by rw [e1]; exact F1.sm (fun a q1 q2 => c3 a (by omega)), by rw [e1]; exact V1⟩, ((h7.toC ((sS b (by omega) (by omega) (by omega)).gI _) (fun a q1 q2 => sS a (by omega) (by omega) (by omega))).toR (eI _ (by decide) (by decide)) (eA _ (by omega) (by omega) (by omega) (by omega)).gA).mono hT h9, ⟨(nx + 1) % 9, if C = 8 then 8 else C + 1, Nat.mod_lt _ (by decide), by split <;> omega, c1, c2, d2, fun c hcC => ?_⟩, (h8.toC (fun a q1 q2 => sS a (by omega) (by omega) (by omega))).toR (eI _ (by decide) (by decide)) (eA _ (by omega) (by omega) (by omega) (by omega)).gA, (h10.toC ((sS b (by omega) (by omega) (by omega)).gI _) ((sS b (by omega) (by omega) (by omega)).gI _)).toR (eI _ (by decide) (by decide)) (eI _ (by decide) (by decide)), (h11.toC (sS _ (by omega) (by omega) (by omega)) (eva (fun a q => sS a (by omega) (by omega) (by omega)))).toR (eI _ (by decide) (by decide)) (eA _ (by omega) (by omega) (by omega) (by omega)).gA⟩, fun a ha => sS a (by omega) (by omega) (by omega), fun a ha => eA a (by omega) (by omega) (by omega) (by omega), Or.inl ⟨rfl, eT, hB.symm⟩⟩
    by_cases cn : c = if C = 8 then 7 else C
    · have hn := hsl_new (nx := nx) (C := C) hn9 hC8
      rw [cn, hn]
      have row : ∀ k, k < 85 → pastW E r (if C = 8 then 7 else C) k = gA mr (r + 1) k := fun k hk => by
        rw [d4 k hk, (x4 (r + 2) (by omega) (by omega)).2.2.2.1]
        exact bg5 k hk
      exact ⟨N0, H0, (hc.sm (fun a q1 q2 => (sM a (by omega)).tr (c3 a (by omega)))).row row, (V0.mono hT h9).row row⟩
    · have hc2 : c < if C = 8 then 7 else C := by
        by_cases e : C = 8
        · rw [if_pos e] at hcC cn ⊢
          omega
        · rw [if_neg e] at hcC cn ⊢
          omega
      have ho := hsl_old (nx := nx) (C := C) hn9 hC8 hc2
      rw [ho]
      have hcC2 : (if C = 8 then c + 1 else c) < C := by
        by_cases e : C = 8
        · rw [if_pos e] at hc2 ⊢
          omega
        · rw [if_neg e] at hc2 ⊢
          omega
      obtain ⟨N, H, y1, y2⟩ := k4 _ hcC2
      have hl := hsl_lt (nx := nx) (C := C) (c := if C = 8 then c + 1 else c)
      have hne := hsl_ne hn9 hC8 hcC2
      have row : ∀ k, k < 85 → pastW E r c k = pastW mr r (if C = 8 then c + 1 else c) k := fun k hk => by
        rw [d5 c hc2 k hk]
        unfold pastW
        rw [e4R]
      exact ⟨N, H, (y1.sm (fun a q1 q2 => sS a (by omega) (by omega) (by omega))).row row, (y2.mono hT h9).row row⟩
end
