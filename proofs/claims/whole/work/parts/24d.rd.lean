/-! THE WHOLE TEXT IS READ: THE CLASS -/
section
variable {t : Nat → Int32} {L pos k n i j x q : Nat} {g : mG} {m m1 : mM} {p r : Nat}
theorem STO.to : ∀ {cs : List (Nat × List Int32)} {j : Nat}, STO g m p j cs → (∀ c, j ≤ c → c < j + cs.length → gQ m1 (p + 2) c = gQ m (p + 2) c ∧ gA m1 (p + 4 + c) = gA m (p + 4 + c)) → STO g m1 p j cs
  | [], j, h, e => trivial
  | y :: ys, j, h, e => by
    obtain ⟨h1, h2, h3, h4, h5⟩ := h
    simp only [List.length_cons] at e
    refine ⟨(e j (Nat.le_refl _) (by omega)).1.trans h1, h2, fun d hd => ?_, h4, STO.to h5 (fun c q1 q2 => e c (by omega) (by omega))⟩
    rw [(e j (Nat.le_refl _) (by omega)).2]
    exact h3 d hd
theorem pC_ge {c v : Int32} (h : pC t L c pos = (some v, q)) : pos + 1 ≤ q ∧ q ≤ L := by
  unfold pC at h
  by_cases c7 : c = 107
  · rw [if_pos c7] at h
    unfold pK at h
    by_cases c1 : pos < L ∧ (t pos = 98 ∨ t pos = 110 ∨ t pos = 119)
    · rw [if_pos c1] at h
      cases h
      exact ⟨Nat.le_refl _, c1.1⟩
    · rw [if_neg c1] at h
      cases h
  · rw [if_neg c7] at h
    unfold pN at h
    rcases hd : dh t L pos with _ | a
    · rw [hd] at h
      cases h
    · have z := (dh_s hd).1
      rw [hd] at h
      dsimp only at h
      by_cases c2 : (if c = 110 then 2 else 1) = 2
      · rw [if_pos c2] at h
        rcases he : dh t L (pos + 1) with _ | b
        · rw [he] at h
          cases h
          exact ⟨Nat.le_refl _, z⟩
        · have y := (dh_s he).1
          rw [he] at h
          cases h
          exact ⟨by omega, y⟩
      · rw [if_neg c2] at h
        cases h
        exact ⟨Nat.le_refl _, z⟩
theorem pAs_ge : ∀ (n j pos : Nat) (l : List Int32), (pAs t L k n j pos).1 = some l → pos + n ≤ (pAs t L k n j pos).2
  | 0, j, pos, l, h => Nat.le_refl _
  | n + 1, j, pos, l, h => by
    rw [pAs] at h ⊢
    by_cases c : j = 0 ∨ (pos < L ∧ t pos = 32)
    · rw [if_pos c] at h ⊢
      rcases hp : pC t L (shc k j) (if j = 0 then pos else pos + 1) with ⟨_ | v, q⟩
      · rw [hp] at h
        cases h
      · rw [hp] at h
        have z := (pC_ge hp).1
        dsimp only at h ⊢
        rcases ha : (pAs t L k n (j + 1) q).1 with _ | l2
        · rw [ha] at h
          cases h
        · have y := pAs_ge n (j + 1) q l2 ha
          have : pos ≤ (if j = 0 then pos else pos + 1) := by split <;> omega
          omega
    · rw [if_neg c] at h
      cases h
theorem CR.ge {y : Nat × List Int32} (h : CR t L pos (some y) q) : pos + 4 ≤ q := by
  obtain ⟨w, q0, a, b⟩ := h
  rcases b with ⟨-, z, -⟩ | ⟨k, rfl, z, rfl⟩
  · cases z
  · rcases a with ⟨j, hj, e, -, rfl⟩ | ⟨e, -⟩
    · cases e
      rcases ha : (pAs t L k (shL k) 0 (pos + wdL k)).1 with _ | l
      · rw [ha] at z
        cases z
      · have y := pAs_ge (shL k) 0 (pos + wdL k) l ha
        have w3 := (wdL_f ⟨k, hj⟩).1
        have s1 := (sh_4 ⟨k, hj⟩).1
        simp only at w3 s1
        omega
    · cases e
theorem cp_out (h : L ≤ pos) : cp t L pos k = 0 := by
  by_cases c : cp t L pos k = 0
  · exact c
  · have := (cp_at (t := t) (L := L) (pos := pos) (k := k) (j := 0) (by omega)).1
    omega
theorem CR.out (h : L ≤ pos) : CR t L pos none pos := ⟨none, pos, Or.inr ⟨rfl, fun k hk => by
  rw [cp_out h]
  have := (wdL_f ⟨k, hk⟩).1
  simp only at this
  omega, 0, rfl, fun k hk => by rw [cp_out h]; exact Nat.le_refl _, 0, by omega, cp_out h⟩, Or.inl ⟨rfl, rfl, rfl⟩⟩
theorem rd_l (hcm : ∀ j, j < 12 → cmI g (cmA g j) = j) : ∀ (n j : Nat) (m : mM) (pos : Nat), j + n = 12 → 5 * j ≤ pos → PS m p t L pos → gI m 324 p = nI j → ((∃ cs : List (Nat × List Int32), cs.length + j ≤ 12 ∧ CH t L cs pos ∧ (X8_read_l1 g p n j m).1 = -1 ∧ gI (X8_read_l1 g p n j m).2 324 p = nI (j + cs.length) ∧ STO g (X8_read_l1 g p n j m).2 p j cs) ∨ ∃ e, e ≤ L ∧ FA t L (n + 1) pos e ∧ (X8_read_l1 g p n j m).1 = nI e) ∧ (∀ c, c < j → gQ (X8_read_l1 g p n j m).2 (p + 2) c = gQ m (p + 2) c ∧ gA (X8_read_l1 g p n j m).2 (p + 4 + c) = gA m (p + 4 + c))
  | 0, j, m, pos, hj, h5, h, hi => by
    rw [X8_read_l1]
    have hL6 := h.1
    exact ⟨Or.inr ⟨pos, h.2.1, Or.inl (CR.out (by omega)), h.2.2.2.1⟩, fun c hc => ⟨rfl, rfl⟩⟩
  | n + 1, j, m, pos, hj, h5, h, hi => by
    rw [X8_read_l1]
    obtain ⟨o, q, w, e1, e2, e3, e4⟩ := rc_c hcm h hi (by omega)
    have gi : gI (X8_readCommand_m g m p) 324 p = nI j := (kI_X8_readCommand g m p 324 p (by decide)).trans hi
    rw [e1]
    generalize X8_readCommand_m g m p = M at *
    have hL6 := e2.1
    have hqL := e2.2.1
    rcases o with _ | y
    · have n0 : (if (none : Option (Nat × List Int32)).isSome = true then (1 : Int32) else 0) = 0 := rfl
      rw [if_pos n0]
      exact ⟨Or.inr ⟨q, hqL, Or.inl w, e2.2.2.2.1⟩, fun c hc => e4 c (by omega)⟩
    · have n1 : ¬ (if (some y).isSome = true then (1 : Int32) else 0) = 0 := nz1
      rw [if_neg n1, e2.2.2.1, e2.2.2.2.1, nI_1]
      have w4 := w.ge
      have lti : nI q < nI L ↔ q < L := nI_ltI (by omega) (by omega)
      have hM2 : PS (sI M 324 p (nI (j + 1))) p t L q := by
        obtain ⟨h1, h2, h3, h4, h5⟩ := e2
        exact ⟨h1, h2, by simp [mm, h3], by simp [mm, h4], fun i hi => by simp only [mm]; exact h5 i hi⟩
      have hS : ∀ m1 : mM, (∀ c, c < j + 1 → gQ m1 (p + 2) c = gQ M (p + 2) c ∧ gA m1 (p + 4 + c) = gA M (p + 4 + c)) → STO g m1 p j [y] := fun m1 q => (e3 y rfl).to (fun c q1 q2 => q c (by simp only [List.length_cons, List.length_nil] at q2; omega))
      have h2Q : ∀ c, gQ (sI M 324 p (nI (j + 1))) (p + 2) c = gQ M (p + 2) c ∧ gA (sI M 324 p (nI (j + 1))) (p + 4 + c) = gA M (p + 4 + c) := fun c => ⟨by simp only [mm], by simp only [mm]⟩
      have g2 : gI (sI M 324 p (nI (j + 1))) 324 p = nI (j + 1) := by simp [mm]
      generalize sI M 324 p (nI (j + 1)) = M2 at *
      by_cases c1 : q < L
      · rw [if_pos (lti.mpr c1)]
        by_cases c2 : t q = 59
        · obtain ⟨a1, a2⟩ := (ac_c (g := g) (ch := 59) hM2).1 ⟨c1, c2⟩
          rw [a1, a2, if_neg nz1]
          have h3Q : ∀ c, gQ (sI M2 325 p (nI (q + 1))) (p + 2) c = gQ M (p + 2) c ∧ gA (sI M2 325 p (nI (q + 1))) (p + 4 + c) = gA M (p + 4 + c) := fun c => ⟨by simp only [mm]; exact (h2Q c).1, by simp only [mm]; exact (h2Q c).2⟩
          obtain ⟨i1, i2⟩ := rd_l hcm n (j + 1) (sI M2 325 p (nI (q + 1))) (q + 1) (by omega) (by omega) (hM2.I (by omega)) (by simp [mm, g2])
          generalize X8_read_l1 g p n (j + 1) (sI M2 325 p (nI (q + 1))) = R at *
          refine ⟨?_, fun c hc => ?_⟩
          · rcases i1 with ⟨cs, s1, s2, s3, s4, s5⟩ | ⟨e, s1, s2, s3⟩
            · refine Or.inl ⟨y :: cs, by simp only [List.length_cons]; omega, ⟨q, w, Or.inr ⟨c1, c2, s2⟩⟩, s3, by rw [s4]; simp only [List.length_cons]; exact congrArg _ (by omega), ?_⟩
              obtain ⟨t1, t2, t3, t4, -⟩ := hS R.2 (fun c hc => ⟨(i2 c hc).1.trans (h3Q c).1, (i2 c hc).2.trans (h3Q c).2⟩)
              exact ⟨t1, t2, t3, t4, s5⟩
            · exact Or.inr ⟨e, s1, Or.inr ⟨y, q, w, c1, Or.inr ⟨c2, s2⟩⟩, s3⟩
          · exact ⟨(i2 c (by omega)).1.trans ((h3Q c).1.trans (e4 c (by omega)).1), (i2 c (by omega)).2.trans ((h3Q c).2.trans (e4 c (by omega)).2)⟩
        · obtain ⟨a1, a2⟩ := (ac_c (g := g) (ch := 59) hM2).2 (fun z => c2 z.2)
          rw [a1, a2, if_pos rfl]
          exact ⟨Or.inr ⟨q, hqL, Or.inr ⟨y, q, w, c1, Or.inl ⟨c2, rfl⟩⟩, hM2.2.2.2.1⟩, fun c hc => ⟨(h2Q c).1.trans (e4 c (by omega)).1, (h2Q c).2.trans (e4 c (by omega)).2⟩⟩
      · rw [if_neg (fun z => c1 (lti.mp z))]
        refine ⟨Or.inl ⟨[y], by simp only [List.length_cons, List.length_nil]; omega, ⟨q, w, Or.inl ⟨rfl, by omega⟩⟩, rfl, g2, hS _ (fun c _ => h2Q c)⟩, fun c hc => ⟨(h2Q c).1.trans (e4 c (by omega)).1, (h2Q c).2.trans (e4 c (by omega)).2⟩⟩
theorem rd_c (hcm : ∀ j, j < 12 → cmI g (cmA g j) = j) (hL : L ≤ 60) (h3 : gI m 323 p = nI L) (ht : ∀ i, i < L → gA m (p + 1) i = t i) : (∃ cs : List (Nat × List Int32), cs.length ≤ 12 ∧ CH t L cs 0 ∧ X8_read_r g m p = -1 ∧ gI (X8_read_m g m p) 324 p = nI cs.length ∧ STO g (X8_read_m g m p) p 0 cs) ∨ ∃ e, e ≤ L ∧ FA t L 13 0 e ∧ X8_read_r g m p = nI e := by
  have hP : PS (sI (sI m 324 p 0) 325 p 0) p t L 0 := ⟨hL, Nat.zero_le _, by simp [mm, h3], by simp [mm]; rfl, fun i hi => by simp only [mm]; exact ht i hi⟩
  obtain ⟨h, -⟩ := rd_l hcm 12 0 (sI (sI m 324 p 0) 325 p 0) 0 (by omega) (by omega) hP (by simp [mm]; rfl)
  rcases h with ⟨cs, h1, h2, h4, h5, h6⟩ | h
  · exact Or.inl ⟨cs, by omega, h2, h4, by rw [Nat.zero_add] at h5; exact h5, h6⟩
  · exact Or.inr h
end
