/-! THE SECOND PASS -/
def P2X (r : Nat) (m m1 : mM) : Prop := gK m1 = gK m ∧ gR m1 = gR m ∧ (∀ a, a ≠ r → a ≠ r + 1 → a ≠ r + 8 → a ≠ r + 9 → Sm m m1 a) ∧ ∀ k, k ≠ 384 → k ≠ 401 → k ≠ 404 → gI m1 k r = gI m k r
section
variable {t : Nat → Int32} {L pos k n i j x q N H : Nat} {g : mG} {m m1 m2 mr : mM} {p r b C : Nat}
theorem P2X.tr (h : P2X r m m1) (h2 : P2X r m1 m2) : P2X r m m2 := ⟨h2.1.trans h.1, h2.2.1.trans h.2.1, fun a q1 q2 q3 q4 => (h.2.2.1 a q1 q2 q3 q4).tr (h2.2.2.1 a q1 q2 q3 q4), fun k q1 q2 q3 => (h2.2.2.2 k q1 q2 q3).trans (h.2.2.2 k q1 q2 q3)⟩
theorem PX.p2 (h : PX r m m1) : P2X r m m1 := by
  obtain ⟨a1, a2, a3, a4, a5, a6, a7, a8, a9, a10⟩ := h
  exact ⟨a1, a2, fun a q1 q2 q3 q4 => ⟨by rw [a1], fun k => a10 k a q1, fun k => by rw [a6], fun k => by rw [a2], funext (a4 a q3 q4), by rw [a7], by rw [a8], by rw [a9]⟩, fun k q1 q2 q3 => a5 k r q2 q3⟩
theorem RX.p2 (h : RX r m m1) : P2X r m m1 := ⟨h.1, h.2.2.1, fun a q1 q2 q3 q4 => ⟨by rw [h.1], h.2.2.2.1 a q1 q2⟩, fun k q1 q2 q3 => h.2.2.2.2 k q1⟩
theorem kd_v {l : List Int32} (h : CR t L pos (some (2, l)) q) : l.getD 0 0 = 98 ∨ l.getD 0 0 = 110 ∨ l.getD 0 0 = 119 := by
  obtain ⟨w, q0, a, b⟩ := h
  rcases b with ⟨-, z, -⟩ | ⟨k, rfl, z, -⟩
  · cases z
  · have hk : k = 2 := by
      rcases hp : (pAs t L k (shL k) 0 q0).1 with _ | l2
      · rw [hp] at z
        cases z
      · rw [hp] at z
        cases z
        rfl
    subst hk
    rw [show shL 2 = 0 + 1 from rfl, pAs_0, p1_e, pC_k (show shc 2 0 = 107 from rfl)] at z
    unfold pK at z
    by_cases c : q0 < L ∧ (t q0 = 98 ∨ t q0 = 110 ∨ t q0 = 119)
    · rw [if_pos c] at z
      cases z
      exact c.2
    · rw [if_neg c] at z
      cases z
set_option maxHeartbeats 1000000 in
theorem p2_l (hd : VD g) (hcm : ∀ j, j < 12 → cmI g (cmA g j) = j) (hp : p = b + 214) : ∀ (cs : List (Nat × List Int32)) (pos : Nat) (mc mr : mM) (n j T N H : Nat), CH t L cs pos → STO g mc p j cs → j + cs.length ≤ 12 → QS mr r t L pos → gI mr 404 r = 0 → gI mr 405 r = 1 → gI mr 384 r = 0 → FR g mc (b + 33) (gA mr (r + 1)) N H → RV T (gA mr (r + 1)) N H → T + cs.length ≤ 9000 → cs.length ≤ n + 1 → Fr (b + 33) (b + 33 + 16) mc (X10_firstFailure_l1 g b C cs.length j mc).2 ∧ P2X r mr (X11_commands_l1 g r n (j + 1) (X11_command_m g mr r N H)).2 ∧ (((X10_firstFailure_l1 g b C cs.length j mc).1 = -1 ∧ gI (X11_commands_l1 g r n (j + 1) (X11_command_m g mr r N H)).2 384 r = 0 ∧ (X11_commands_l1 g r n (j + 1) (X11_command_m g mr r N H)).1 = nI (j + cs.length) ∧ ∃ N2 H2, FR g (X10_firstFailure_l1 g b C cs.length j mc).2 (b + 33) (gA (X11_commands_l1 g r n (j + 1) (X11_command_m g mr r N H)).2 (r + 1)) N2 H2 ∧ RV (T + cs.length) (gA (X11_commands_l1 g r n (j + 1) (X11_command_m g mr r N H)).2 (r + 1)) N2 H2) ∨ ∃ e, e < 12 ∧ (X10_firstFailure_l1 g b C cs.length j mc).1 = nI e ∧ gI (X11_commands_l1 g r n (j + 1) (X11_command_m g mr r N H)).2 384 r ≠ 0 ∧ (X11_commands_l1 g r n (j + 1) (X11_command_m g mr r N H)).1 = nI (e + 1))
  | [], pos, mc, mr, n, j, T, N, H, hc, hst, hj, h, h4, h5, h3, F, V, hT, hn => hc.elim
  | y :: ys, pos, mc, mr, n, j, T, N, H, hc, hst, hj, h, h4, h5, h3, F, V, hT, hn => by
    obtain ⟨q, w, hc⟩ := hc
    obtain ⟨st1, st2, st3, st4, st5⟩ := hst
    obtain ⟨o, q1, M, w1, x, hQ, hM⟩ := cd_ref (g := g) (N := N) (H := H) h h4
    obtain ⟨rfl, rfl⟩ := w.un w1
    simp only [List.length_cons] at hn hj hT ⊢
    rcases hM with ⟨z, -⟩ | ⟨k, l, e1, hk, e4, e9, eC⟩
    · cases z
    · cases e1
      have hN8 := F.2.2.2.2.1
      have hH4 := F.2.2.2.2.2
      have hL6 := h.1
      have hqL := hQ.2.1
      have g5 : ¬ gI M 405 r = 0 := by
        rw [(x.2.2.2.2.1 405 r (by decide) (by decide)).trans h5]
        decide
      have g3 : gI M 384 r = 0 := (x.2.2.2.2.1 384 r (by decide) (by decide)).trans h3
      have gA1 : gA M (r + 1) = gA mr (r + 1) := funext (x.2.2.2.1 (r + 1) (by omega) (by omega))
      rw [if_neg g5] at eC
      rw [eC]
      dsimp only at st1 st2 st3 st4
      obtain ⟨⟨pl, sim⟩, rx⟩ := co_do (g := g) (m := mc) (mr := M) (p := p) (i := j) (k := k) (a := nI j) (T := T) hd hk (by rw [gA1]; exact F) (by rw [gA1]; exact V) g3 (by omega) (fun d hd => by rw [st3 d (by omega), e9 d (by omega)]) (fun hk2 => by
        subst hk2
        have := (sh_4 ⟨2, by omega⟩).1
        rw [e9 0 (by rw [st4]; exact this)]
        exact kd_v w)
      have fr := fr_X8_carryOut (g := g) (m := mc) (p := p) (f := b + 33) (i := j) (k := k) (N := N) (H := H) (a := nI j) F.1 hN8 hH4
      have ek : cmI g ((gQ mc (b + 214 + 2) j).getD 0) = k := by
        rw [← hp, st1]
        exact hcm k hk
      have eN : (gI mc 163 (b + 33)).toNatClampNeg = N := by
        rw [F.2.1.2.2.2.2.2.1, V.1.1, nI_clamp (by omega)]
      have eH : (gI mc 164 (b + 33)).toNatClampNeg = H := by
        rw [F.2.1.2.2.2.2.2.2.1, V.1.2.1, nI_clamp (by omega)]
      rw [X10_firstFailure_l1, ek, eN, eH, ← hp]
      have xD : P2X r mr (X11_does_m g M r (nI k) N H) := x.p2.tr rx.p2
      have d4 : gI (X11_does_m g M r (nI k) N H) 404 r = 0 := (rx.2.2.2.2 404 (by decide)).trans e4
      have hQD : QS (X11_does_m g M r (nI k) N H) r t L q := hQ.to (rx.2.2.2.2 402 (by decide)) ((rx.2.2.2.2 401 (by decide)).trans hQ.2.2.2.1) hqL (fun i => by rw [(rx.2.2.2.1 (r + 6) (by omega) (by omega)).2.2.2.1])
      have d5 : gI (X11_does_m g M r (nI k) N H) 405 r = 1 := (rx.2.2.2.2 405 (by decide)).trans ((x.2.2.2.2.1 405 r (by decide) (by decide)).trans h5)
      generalize X11_does_m g M r (nI k) N H = D at *
      generalize X11_does_r g M r (nI k) N H = Dr at *
      generalize X8_carryOut_m g mc p (nI j) (b + 33) j k N H = K at *
      generalize X8_carryOut_r g mc p (nI j) (b + 33) j k N H = Kr at *
      rcases sim with ⟨hA, t1, t2, rfl⟩ | ⟨hA, hB, t0, N1, H1, F1, V1⟩
      · have nA : ¬ 0 ≤ Kr := by
          rcases hA with rfl | rfl | rfl | rfl | rfl <;> decide
        have d3 : gI D 384 r ≠ 0 := by
          rw [t1]
          exact t2
        rw [if_neg nA, c_out (Or.inr d3)]
        exact ⟨fr, xD, Or.inr ⟨j, by omega, rfl, d3, rfl⟩⟩
      · have pA : 0 ≤ Kr := by
          rw [ti.2.1]
          simp only [tl]
          exact hA
        rw [if_pos pA]
        have fin : ys = [] → ∀ Q : Int32 × mM, Q = (nI (j + 1), D) → Fr (b + 33) (b + 33 + 16) mc (X10_firstFailure_l1 g b C ys.length (j + 1) K).2 ∧ P2X r mr Q.2 ∧ (((X10_firstFailure_l1 g b C ys.length (j + 1) K).1 = -1 ∧ gI Q.2 384 r = 0 ∧ Q.1 = nI (j + (ys.length + 1)) ∧ ∃ N2 H2, FR g (X10_firstFailure_l1 g b C ys.length (j + 1) K).2 (b + 33) (gA Q.2 (r + 1)) N2 H2 ∧ RV (T + (ys.length + 1)) (gA Q.2 (r + 1)) N2 H2) ∨ ∃ e, e < 12 ∧ (X10_firstFailure_l1 g b C ys.length (j + 1) K).1 = nI e ∧ gI Q.2 384 r ≠ 0 ∧ Q.1 = nI (e + 1)) := by
          intro hy Q hQ
          subst hy
          subst hQ
          rw [List.length_nil, X10_firstFailure_l1]
          exact ⟨fr, xD, Or.inl ⟨rfl, t0, rfl, N1, H1, F1, V1⟩⟩
        have lei : nI L ≤ nI q ↔ L ≤ q := nI_leI (by omega) (by omega)
        rcases hc with ⟨hy, c1⟩ | ⟨c1, c2, c3⟩
        · refine fin hy _ ?_
          cases n with
          | zero =>
            rw [X11_commands_l1, if_pos d4, if_pos t0]
          | succ n =>
            rw [X11_commands_l1, if_pos d4, if_pos t0, hQD.2.2.1, hQD.2.2.2.1, if_pos (lei.mpr c1)]
        · have hys : 1 ≤ ys.length := by
            cases ys with
            | nil => exact c3.elim
            | cons z zs => simp
          obtain ⟨n, rfl⟩ : ∃ u, n = u + 1 := ⟨n - 1, by omega⟩
          rw [X11_commands_l1, if_pos d4, if_pos t0, hQD.2.2.1, hQD.2.2.2.1, if_neg (fun z => absurd (lei.mp z) (by omega))]
          obtain ⟨k1, k2⟩ := (mk_ref (g := g) (ch := 59) (by decide) hQD d4).1 ⟨c1, c2⟩
          have xm := px_mark (g := g) (m := D) (r := r) (ch := 59)
          have m1 : gA (X11_mark_m g D r 59) (r + 1) = gA D (r + 1) := funext (xm.2.2.2.1 (r + 1) (by omega) (by omega))
          rw [if_pos k2, V1.1.1, V1.1.2.1, nI_clamp (by have := F1.2.2.2.2.1; omega), nI_clamp (by have := F1.2.2.2.2.2; omega)]
          have m5 := (xm.2.2.2.2.1 405 r (by decide) (by decide)).trans d5
          have m3 := (xm.2.2.2.2.1 384 r (by decide) (by decide)).trans t0
          generalize X11_mark_m g D r 59 = E at *
          have hstK : STO g K p (j + 1) ys := st5.to (fun c q1 q2 => ⟨by rw [fr.gQ (by omega)], (fr.2.2 (p + 4 + c) (by omega)).2.2.2.1⟩)
          have ih := p2_l hd hcm hp ys (q + 1) K E n (j + 1) (T + 1) N1 H1 c3 hstK (by omega) k1 k2 m5 m3 (by rw [m1]; exact F1) (by rw [m1]; exact V1) (by omega) (by omega)
          rw [show j + 1 + ys.length = j + (ys.length + 1) by omega, show T + 1 + ys.length = T + (ys.length + 1) by omega] at ih
          obtain ⟨i1, i2, i3⟩ := ih
          exact ⟨fr.tr i1 (Nat.le_refl _) (Nat.le_refl _), (xD.tr xm.p2).tr i2, i3⟩
end
