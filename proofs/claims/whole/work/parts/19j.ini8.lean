/-! THE CLASS BEHIND ITS CONSTRUCTOR -/
theorem SH.below {m m1 : mM} {h : Nat} (s : SH m h) (e : ∀ a, h ≤ a → a < h + 146 → Sm m m1 a) : SH m1 h :=
  ⟨(e h (by omega) (by omega)).1.trans s.k, ((e h (by omega) (by omega)).2.2.2.1 256).trans s.r, (e (h + 1) (by omega) (by omega)).1.trans s.k1, fun i hi => (congrFun (e (h + 1) (by omega) (by omega)).2.2.2.2.2.1 i).trans (s.q hi), fun i hi => (s.f hi).below (fun a h1 h2 => e a (by omega) (by omega))⟩
theorem SC.below {m m1 : mM} {c : Nat} (s : SC m c) (e : ∀ a, c ≤ a → a < c + 19 → Sm m m1 a) : SC m1 c := by
  obtain ⟨s1, s2, s3, s4, s5, s6, s7⟩ := s
  exact ⟨(e c (by omega) (by omega)).1.trans s1, ((e c (by omega) (by omega)).2.2.2.1 128).trans s2, ((e c (by omega) (by omega)).2.2.2.1 129).trans s3, ((e c (by omega) (by omega)).2.2.2.1 130).trans s4, (e _ (by omega) (by omega)).1.trans s5, (e _ (by omega) (by omega)).1.trans s6, s7.below (fun a h1 h2 => e a (by omega) (by omega))⟩
theorem SP.below {m m1 : mM} {p : Nat} (s : SP m p) (e : ∀ a, p ≤ a → a < p + 16 → Sm m m1 a) : SP m1 p := by
  obtain ⟨s1, s2, s3, s4, s5, s6, s7, s8, s9⟩ := s
  exact ⟨(e p (by omega) (by omega)).1.trans s1, ((e p (by omega) (by omega)).2.2.2.1 320).trans s2, ((e p (by omega) (by omega)).2.2.2.1 321).trans s3, ((e p (by omega) (by omega)).2.2.2.1 322).trans s4, (e _ (by omega) (by omega)).1.trans s5, (e _ (by omega) (by omega)).1.trans s6, (e _ (by omega) (by omega)).1.trans s7, fun i hi => (e _ (by omega) (by omega)).1.trans (s8 i hi), fun i hi => (congrFun (e (p + 3) (by omega) (by omega)).2.2.2.2.2.1 i).trans (s9 i hi)⟩
theorem SL.below {m m1 : mM} {sb va cap c : Nat} (s : SL m sb va cap c) (e : Sm m m1 sb) (e2 : Sm m m1 va) : SL m1 sb va cap c := by
  obtain ⟨s1, s2, s3, s4, s5, s6, s7, s8⟩ := s
  exact ⟨e.1.trans s1, (e.2.2.2.1 32).trans s2, e2.1.trans s3, (e.2.1 33).trans s4, (e.2.1 35).trans s5, s6, s7, fun i => by rw [e2.2.2.2.2.1]; exact s8 i⟩
theorem zRR {M : mM} {b : Nat} : gR (sI (sI (sI M 359 b 0) 360 b (-1)) 361 b (-1)) = gR M := rfl
theorem zKK {M : mM} {b : Nat} : gK (sI (sI (sI M 359 b 0) 360 b (-1)) 361 b (-1)) = gK M := rfl
theorem zNN {M : mM} {b : Nat} : gN (sI (sI (sI M 359 b 0) 360 b (-1)) 361 b (-1)) = gN M := rfl
theorem zI {M : mM} {b : Nat} : gI (sI (sI (sI M 359 b 0) 360 b (-1)) 361 b (-1)) 359 b = 0 ∧ gI (sI (sI (sI M 359 b 0) 360 b (-1)) 361 b (-1)) 360 b = -1 ∧ gI (sI (sI (sI M 359 b 0) 360 b (-1)) 361 b (-1)) 361 b = -1 := by
  refine ⟨?_, ?_, ?_⟩ <;> simp [mm]
theorem nw35 {M : mM} {kd : mK} {q : Nat} (hq : gN M = q) : gI (nw M kd) 35 q = 0 := by
  simp only [mm]
  rw [if_pos hq.symm]
section
variable {g : mG} {m : mM} {b : Nat}
theorem bi_SB (hk : gK m b = some (.inl 11)) (hg : gN m = b + 1) : SB (biZ g m b) b := by
  refine ⟨?_, ?_, ?_, ?_, ?_, ?_, ?_, ?_, ?_, ?_, ?_, ?_, ?_⟩
  · exact (congrFun zKK b).trans (biG_k hk hg)
  · exact (congrFun (congrFun zRR 352) b).trans (((biG_s hg).2.2.1 352 (by decide)).trans (((biF_s hg).2.2.1 352 (by decide)).trans (((biE_s hg).2.2.1 352 (by decide)).trans (((biD_s hg).2.2.1 352 (by decide)).trans (((biC_s hg).2.2.1 352 (by decide)).trans (((biB_s hg).2.2.1 352 (by decide)).trans (biA_s hg).2.2.2))))))
  · exact (congrFun (congrFun zRR 353) b).trans (((biG_s hg).2.2.1 353 (by decide)).trans (((biF_s hg).2.2.1 353 (by decide)).trans (((biE_s hg).2.2.1 353 (by decide)).trans (((biD_s hg).2.2.1 353 (by decide)).trans (((biC_s hg).2.2.1 353 (by decide)).trans (biB_s hg).2.2.2)))))
  · exact (congrFun (congrFun zRR 354) b).trans (((biG_s hg).2.2.1 354 (by decide)).trans (((biF_s hg).2.2.1 354 (by decide)).trans (((biE_s hg).2.2.1 354 (by decide)).trans (((biD_s hg).2.2.1 354 (by decide)).trans (biC_s hg).2.2.2))))
  · exact (congrFun (congrFun zRR 355) b).trans (((biG_s hg).2.2.1 355 (by decide)).trans (((biF_s hg).2.2.1 355 (by decide)).trans (((biE_s hg).2.2.1 355 (by decide)).trans (biD_s hg).2.2.2)))
  · exact (congrFun (congrFun zRR 356) b).trans (((biG_s hg).2.2.1 356 (by decide)).trans (((biF_s hg).2.2.1 356 (by decide)).trans (biE_s hg).2.2.2))
  · exact (congrFun (congrFun zRR 357) b).trans (((biG_s hg).2.2.1 357 (by decide)).trans (biF_s hg).2.2.2)
  · exact (congrFun (congrFun zRR 358) b).trans (biG_s hg).2.2.2
  · exact (fi_SF (g := g) (nwk hg).1 (nwk hg).2).below (fun a h1 h2 => biA_z hg (by omega) (by omega))
  · exact (fi_SF (g := g) (nwk (biA_n (g := g) hg)).1 (nwk (biA_n (g := g) hg)).2).below (fun a h1 h2 => biB_z hg (by omega) (by omega))
  · exact (fi_SF (g := g) (nwk (biB_n (g := g) hg)).1 (nwk (biB_n (g := g) hg)).2).below (fun a h1 h2 => biC_z hg (by omega) (by omega))
  · exact (hi_SH (g := g) (nwk (biC_n (g := g) hg)).1 (nwk (biC_n (g := g) hg)).2).below (fun a h1 h2 => biD_z hg (by omega) (by omega))
  · exact (oC (g := g) (nwk (biD_n (g := g) hg)).1 (nwk (biD_n (g := g) hg)).2).2.1.below (fun a h1 h2 => biE_z hg (by omega) (by omega))
theorem bi_I (hg : gN m = b + 1) : gI (biZ g m b) 359 b = 0 ∧ gI (biZ g m b) 360 b = -1 ∧ gI (biZ g m b) 361 b = -1 ∧ gN (biZ g m b) = b + 232 := ⟨zI.1, zI.2.1, zI.2.2, zNN.trans (biG_n hg)⟩
theorem bi_P (hg : gN m = b + 1) : SP (biZ g m b) (b + 214) ∧ gI (biZ g m b) 323 (b + 214) = 0 ∧ gI (biZ g m b) 324 (b + 214) = 0 ∧ gI (biZ g m b) 325 (b + 214) = 0 ∧ ∀ i, i < 12 → gQ (biZ g m b) (b + 214 + 2) i = some (cmA g 11) := by
  obtain ⟨h1, h2, h3, h4, h5, h6, h7⟩ := pi_Z (g := g) (nwk (biE_n (g := g) hg)).1 (nwk (biE_n (g := g) hg)).2
  have e := fun a h1 h2 => biF_z (g := g) hg (a := a) h1 h2
  exact ⟨h2.below (fun a q1 q2 => e a (by omega) (by omega)), ((e (b + 214) (by omega) (by omega)).2.1 323).trans h3, ((e (b + 214) (by omega) (by omega)).2.1 324).trans h4, ((e (b + 214) (by omega) (by omega)).2.1 325).trans h5, fun i hi => (congrFun (e (b + 214 + 2) (by omega) (by omega)).2.2.2.2.2.1 i).trans (h6 i hi)⟩
theorem bi_L (hg : gN m = b + 1) : SL (biZ g m b) (b + 230) (b + 231) 16 0 := by
  have h := si_SL (g := g) (nwk (kd := .inl 1) (biF_n (g := g) hg)).1 (nwk (biF_n (g := g) hg)).2 (nw35 (biF_n (g := g) hg))
  exact h.below (biG_z hg (by omega) (by omega)) (biG_z hg (by omega) (by omega))
theorem bi_H (hg : gN m = b + 1) : gI (biZ g m b) 257 (b + 49) = 0 ∧ gI (biZ g m b) 258 (b + 49) = 0 := by
  obtain ⟨h1, h2, h3, h4, h5, h6, h7, h8⟩ := hi_Z (g := g) (nwk (biC_n (g := g) hg)).1 (nwk (biC_n (g := g) hg)).2
  have e := biD_z (g := g) hg (a := b + 49) (by omega) (by omega)
  exact ⟨(e.2.1 257).trans h5.1, (e.2.1 258).trans h5.2⟩
theorem bi_F (hg : gN m = b + 1) : (∀ ky, 163 ≤ ky → ky ≤ 170 → gI (biZ g m b) ky (b + 1) = 0) ∧ gJ (biZ g m b) 171 (b + 1) = 0 ∧ gI (biZ g m b) 192 (b + 1 + 1) = 20 ∧ gI (biZ g m b) 193 (b + 1 + 1) = 0 ∧ gI (biZ g m b) 194 (b + 1 + 1) = 20 ∧ gJ (biZ g m b) 195 (b + 1 + 1) = 0 := by
  obtain ⟨h1, h2⟩ := fi_I (g := g) (nwk (kd := .inl 5) hg).1 (nwk hg).2
  obtain ⟨u1, u2, u3, u4⟩ := fi_U (g := g) (nwk (kd := .inl 5) hg).1 (nwk hg).2
  have e := biA_z (g := g) hg (a := b + 1) (by omega) (by omega)
  have e2 := biA_z (g := g) hg (a := b + 1 + 1) (by omega) (by omega)
  exact ⟨fun ky a1 a2 => (e.2.1 ky).trans (h1 ky a1 a2), (e.2.2.1 171).trans h2, (e2.2.1 192).trans u1, (e2.2.1 193).trans u2, (e2.2.1 194).trans u3, (e2.2.2.1 195).trans u4⟩
theorem bi_B (hg : gN m = b + 1) {a : Nat} (ha : a < b) : Sm m (biZ g m b) a := by
  have h0 := (biA_s (g := g) hg).1 a (by omega) (by omega)
  have h1 := h0.tr ((biB_s (g := g) hg).1 a (by omega) (by omega))
  have h2 := h1.tr ((biC_s (g := g) hg).1 a (by omega) (by omega))
  have h3 := h2.tr ((biD_s (g := g) hg).1 a (by omega) (by omega))
  have h4 := h3.tr ((biE_s (g := g) hg).1 a (by omega) (by omega))
  have h5 := h4.tr ((biF_s (g := g) hg).1 a (by omega) (by omega))
  have h6 := h5.tr ((biG_s (g := g) hg).1 a (by omega) (by omega))
  exact h6.tr (biZ_s (by omega))
end
