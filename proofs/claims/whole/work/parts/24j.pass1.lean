/-! THE FIRST PASS -/
section
variable {t : Nat → Int32} {L pos k n i j x q N H : Nat} {g : mG} {m m1 m2 mr : mM} {p r : Nat}
theorem px_mark {ch : Int32} : PX r m (X11_mark_m g m r ch) := ⟨kK_X11_mark g m r ch, kR_X11_mark g m r ch, kN_X11_mark g m r ch, fun c _ _ i => by rw [kA_X11_mark], fun k a h1 h2 => kI_X11_mark g m r ch k a h1 h2, kJ_X11_mark g m r ch, kQ_X11_mark g m r ch, kL_X11_mark g m r ch, kD_X11_mark g m r ch, fun k a h => fi_mk h⟩
theorem c_out (h : gI m 404 r ≠ 0 ∨ gI m 384 r ≠ 0) : ∀ n j, X11_commands_l1 g r n j m = (nI j, m)
  | 0, j => by
    rw [X11_commands_l1]
    split
    · split <;> rfl
    · rfl
  | n + 1, j => by
    rw [X11_commands_l1]
    rcases h with h | h
    · rw [if_neg h]
    · rw [if_neg h]
      split <;> rfl
theorem p1_ok : ∀ (cs : List (Nat × List Int32)) (pos : Nat) (m : mM) (n j N H : Nat), CH t L cs pos → QS m r t L pos → gI m 404 r = 0 → gI m 405 r = 0 → gI m 384 r = 0 → cs.length ≤ n + 1 → PX r m (X11_commands_l1 g r n j (X11_command_m g m r N H)).2 ∧ gI (X11_commands_l1 g r n j (X11_command_m g m r N H)).2 404 r = 0
  | [], pos, m, n, j, N, H, hc, h, h4, h5, h3, hn => hc.elim
  | y :: ys, pos, m, n, j, N, H, hc, h, h4, h5, h3, hn => by
    obtain ⟨q, w, hc⟩ := hc
    obtain ⟨o, q1, M, w1, x, hQ, hM⟩ := cd_ref (g := g) (N := N) (H := H) h h4
    obtain ⟨rfl, rfl⟩ := w.un w1
    simp only [List.length_cons] at hn
    rcases hM with ⟨z, -⟩ | ⟨k, l, e1, hk, e4, e9, eC⟩
    · cases z
    · have g5 : gI M 405 r = 0 := (x.2.2.2.2.1 405 r (by decide) (by decide)).trans h5
      have g3 : gI M 384 r = 0 := (x.2.2.2.2.1 384 r (by decide) (by decide)).trans h3
      rw [if_pos g5] at eC
      rw [eC]
      have hL6 := h.1
      have hqL := hQ.2.1
      cases n with
      | zero =>
        rw [X11_commands_l1, if_pos e4, if_pos g3]
        exact ⟨x, e4⟩
      | succ n =>
        rw [X11_commands_l1, if_pos e4, if_pos g3, hQ.2.2.1, hQ.2.2.2.1]
        have lei : nI L ≤ nI q ↔ L ≤ q := nI_leI (by omega) (by omega)
        by_cases c : L ≤ q
        · rw [if_pos (lei.mpr c)]
          exact ⟨x, e4⟩
        · rw [if_neg (fun z => c (lei.mp z))]
          rcases hc with ⟨-, z⟩ | ⟨c1, c2, c3⟩
          · exact absurd z c
          · obtain ⟨k1, k2⟩ := (mk_ref (g := g) (ch := 59) (by decide) hQ e4).1 ⟨c1, c2⟩
            have xm := px_mark (g := g) (m := M) (r := r) (ch := 59)
            rw [if_pos k2]
            obtain ⟨i1, i2⟩ := p1_ok ys (q + 1) (X11_mark_m g M r 59) n (j + 1) (gA M (r + 1) 5).toNatClampNeg (gA M (r + 1) 6).toNatClampNeg c3 k1 k2 ((xm.2.2.2.2.1 405 r (by decide) (by decide)).trans g5) ((xm.2.2.2.2.1 384 r (by decide) (by decide)).trans g3) (by omega)
            exact ⟨(x.tr xm).tr i1, i2⟩
theorem p1_no : ∀ (f pos e : Nat) (m : mM) (n j N H : Nat), FA t L f pos e → QS m r t L pos → gI m 404 r = 0 → gI m 405 r = 0 → gI m 384 r = 0 → f ≤ n → PX r m (X11_commands_l1 g r n j (X11_command_m g m r N H)).2 ∧ gI (X11_commands_l1 g r n j (X11_command_m g m r N H)).2 404 r = 1 ∧ gI (X11_commands_l1 g r n j (X11_command_m g m r N H)).2 401 r = nI e
  | 0, pos, e, m, n, j, N, H, hc, h, h4, h5, h3, hn => hc.elim
  | f + 1, pos, e, m, n, j, N, H, hc, h, h4, h5, h3, hn => by
    obtain ⟨o, q1, M, w1, x, hQ, hM⟩ := cd_ref (g := g) (N := N) (H := H) h h4
    have g5 : gI M 405 r = 0 := (x.2.2.2.2.1 405 r (by decide) (by decide)).trans h5
    have g3 : gI M 384 r = 0 := (x.2.2.2.2.1 384 r (by decide) (by decide)).trans h3
    have hL6 := h.1
    have hqL := hQ.2.1
    rcases hc with w | ⟨y, q, w, hq, hc⟩
    · obtain ⟨rfl, rfl⟩ := w.un w1
      rcases hM with ⟨-, e4, eC⟩ | ⟨k, l, z, -⟩
      · rw [eC, c_out (Or.inl (by rw [e4]; decide))]
        exact ⟨x, e4, hQ.2.2.2.1⟩
      · cases z
    · obtain ⟨rfl, rfl⟩ := w.un w1
      rcases hM with ⟨z, -⟩ | ⟨k, l, e1, hk, e4, e9, eC⟩
      · cases z
      · rw [if_pos g5] at eC
        rw [eC]
        obtain ⟨n, rfl⟩ : ∃ u, n = u + 1 := ⟨n - 1, by omega⟩
        rw [X11_commands_l1, if_pos e4, if_pos g3, hQ.2.2.1, hQ.2.2.2.1]
        have lei : nI L ≤ nI q ↔ L ≤ q := nI_leI (by omega) (by omega)
        rw [if_neg (fun z => absurd (lei.mp z) (by omega))]
        obtain ⟨m1, m2⟩ := mk_ref (g := g) (ch := 59) (by decide) hQ e4
        have xm := px_mark (g := g) (m := M) (r := r) (ch := 59)
        rcases hc with ⟨c1, rfl⟩ | ⟨c1, c2⟩
        · obtain ⟨k1, k2⟩ := m2 (fun z => c1 z.2)
          have k3 : ¬ gI (X11_mark_m g M r 59) 404 r = 0 := by
            rw [k2]
            decide
          rw [if_neg k3, c_out (Or.inl k3)]
          exact ⟨x.tr xm, k2, k1.2.2.2.1⟩
        · obtain ⟨k1, k2⟩ := m1 ⟨hq, c1⟩
          rw [if_pos k2]
          obtain ⟨i1, i2⟩ := p1_no f (q + 1) e (X11_mark_m g M r 59) n (j + 1) (gA M (r + 1) 5).toNatClampNeg (gA M (r + 1) 6).toNatClampNeg c2 k1 k2 ((xm.2.2.2.2.1 405 r (by decide) (by decide)).trans g5) ((xm.2.2.2.2.1 384 r (by decide) (by decide)).trans g3) (by omega)
          exact ⟨(x.tr xm).tr i1, i2⟩
end
