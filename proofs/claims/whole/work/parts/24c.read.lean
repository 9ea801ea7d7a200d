/-! A PROGRAM IS READ -/
def STO (g : mG) (m : mM) (p : Nat) : Nat → List (Nat × List Int32) → Prop
  | _, [] => True
  | j, x :: xs => gQ m (p + 2) j = some (cmA g x.1) ∧ x.1 < 12 ∧ (∀ d, d < x.2.length → gA m (p + 4 + j) d = x.2.getD d 0) ∧ x.2.length = shL x.1 ∧ STO g m p (j + 1) xs
def CH (t : Nat → Int32) (L : Nat) : List (Nat × List Int32) → Nat → Prop
  | [], _ => False
  | x :: xs, pos => ∃ q, CR t L pos (some x) q ∧ ((xs = [] ∧ L ≤ q) ∨ (q < L ∧ t q = 59 ∧ CH t L xs (q + 1)))
def FA (t : Nat → Int32) (L : Nat) : Nat → Nat → Nat → Prop
  | 0, _, _ => False
  | n + 1, pos, e => CR t L pos none e ∨ ∃ x q, CR t L pos (some x) q ∧ q < L ∧ ((t q ≠ 59 ∧ e = q) ∨ (t q = 59 ∧ FA t L n (q + 1) e))
section
variable {t : Nat → Int32} {L pos k n i x q : Nat} {g : mG} {m m1 : mM} {p r : Nat}
theorem sb_c : ∀ k : Fin 12, ∀ i : Fin 4, i.1 < shL k.1 → (((shB k.1 i.1) &&& 255).toUInt32 % 65536).toInt32 = shc k.1 i.1 := by decide +kernel
theorem sh_4 : ∀ k : Fin 12, 1 ≤ shL k.1 ∧ shL k.1 ≤ 4 := by decide
theorem len_e {m : mM} {a b L : Nat} {f : Nat → Int32} : J0_length_8abf5_r g m a b L f = nI L := by
  unfold J0_length_8abf5_r J0_coder_7d493_r
  refine Int32.toInt_inj.mp ?_
  simp
theorem rc_l (hk : k < 12) (hi12 : i < 12) : ∀ (u n j : Nat) (m : mM) (pos : Nat), PS m p t L pos → gI m 324 p = nI i → j + u = 4 → j + n = shL k → (X8_readCommand_l1 g p u j k m).1 = (if (pAs t L k n j pos).1.isSome then 1 else 0) ∧ PS (X8_readCommand_l1 g p u j k m).2 p t L (pAs t L k n j pos).2 ∧ (∀ l, (pAs t L k n j pos).1 = some l → l.length = n ∧ ∀ c, c < l.length → gA (X8_readCommand_l1 g p u j k m).2 (p + 4 + i) (j + c) = l.getD c 0) ∧ (∀ c, c < j → gA (X8_readCommand_l1 g p u j k m).2 (p + 4 + i) c = gA m (p + 4 + i) c) ∧ (∀ e, e ≠ p + 4 + i → gA (X8_readCommand_l1 g p u j k m).2 e = gA m e)
  | u, 0, j, m, pos, h, hi, hu, hn => by
    have e : X8_readCommand_l1 g p u j k m = (1, m) := by
      cases u with
      | zero => rw [X8_readCommand_l1]
      | succ u =>
        rw [X8_readCommand_l1, len_e]
        rw [if_pos ((nI_leI (by omega) (by omega)).mpr (by omega))]
    rw [e, pAs]
    refine ⟨rfl, h, fun l hl => ?_, fun c hc => rfl, fun e he => rfl⟩
    cases hl
    exact ⟨rfl, fun c hc => absurd hc (by simp)⟩
  | 0, n + 1, j, m, pos, h, hi, hu, hn => by
    have := (sh_4 ⟨k, hk⟩).2
    simp only at this
    omega
  | u + 1, n + 1, j, m, pos, h, hi, hu, hn => by
    have h4 := (sh_4 ⟨k, hk⟩).2
    simp only at h4
    have hL6 := h.1
    have hpl := h.2.1
    have hc : ∀ M, J0_charAt_5068e_r g M (srA g "BirdForge$Command" (shK k)) (nI j) (svA g "BirdForge$Command" (shK k)) (shL k) (shB k) j = shc k j := fun M => sb_c ⟨k, hk⟩ ⟨j, by omega⟩ (show j < shL k by omega)
    rw [X8_readCommand_l1, len_e, pAs, hc, hc]
    rw [if_neg (fun z => absurd ((nI_leI (by omega) (by omega)).mp z) (by omega))]
    -- the argument itself, read at pos2 in the memory M
    have step : ∀ (M : mM) (pos2 : Nat), PS M p t L pos2 → gI M 324 p = nI i → gA M = gA m → ∀ X : Option (List Int32) × Nat, X = (match pC t L (shc k j) pos2 with | (none, q) => (none, q) | (some v, q) => (((pAs t L k n (j + 1) q).1).map (v :: ·), (pAs t L k n (j + 1) q).2)) → ∀ Y : Int32 × mM, Y = (if X8_readArgument_r g M p (shc k j) (nI j) = 0 then (0, X8_readArgument_m g M p (shc k j) (nI j)) else X8_readCommand_l1 g p u (j + 1) k (X8_readArgument_m g M p (shc k j) (nI j))) → Y.1 = (if X.1.isSome then 1 else 0) ∧ PS Y.2 p t L X.2 ∧ (∀ l, X.1 = some l → l.length = n + 1 ∧ ∀ c, c < l.length → gA Y.2 (p + 4 + i) (j + c) = l.getD c 0) ∧ (∀ c, c < j → gA Y.2 (p + 4 + i) c = gA m (p + 4 + i) c) ∧ (∀ e, e ≠ p + 4 + i → gA Y.2 e = gA m e) := by
      intro M pos2 hM hMi hMA X hX Y hY
      rcases ra_c (g := g) (c := shc k j) (a := j) hM hMi hi12 (by omega) with ⟨v, q, e1, e2, e3, e4⟩ | ⟨e1, e2, e3⟩
      · rw [e1] at hX
        rw [e2, if_neg nz1, e3] at hY
        have hP : PS (sA (sI M 325 p (nI q)) (p + 4 + i) j v) p t L q := (hM.I e4).A (by omega)
        obtain ⟨i1, i2, i3, i4, i5⟩ := rc_l hk hi12 u n (j + 1) (sA (sI M 325 p (nI q)) (p + 4 + i) j v) q hP (by simp [mm, hMi]) (by omega) (by omega)
        have eA : gA (sI M 325 p (nI q)) = gA m := by
          simp only [mm]
          exact hMA
        rw [← hY] at i1 i2 i3 i4 i5
        subst hX
        refine ⟨?_, i2, fun l hl => ?_, fun c hc => ?_, fun e he => ?_⟩
        · rw [i1, Option.isSome_map]
        · rcases hp : (pAs t L k n (j + 1) q).1 with _ | l2
          · simp only [hp] at hl
            cases hl
          · simp only [hp] at hl
            cases hl
            obtain ⟨y1, y2⟩ := i3 l2 hp
            refine ⟨by simp [y1], fun c hc => ?_⟩
            by_cases c0 : c = 0
            · rw [c0, i4 (j + 0) (by omega), gA_same]
              exact ui rfl
            · obtain ⟨d, rfl⟩ : ∃ d, c = d + 1 := ⟨c - 1, by omega⟩
              have := y2 d (by simpa using hc)
              rw [show j + (d + 1) = j + 1 + d by omega, this]
              rfl
        · rw [i4 c (by omega), gA_same, un (by omega), eA]
        · rw [i5 e he, gA_ne _ _ _ he, eA]
      · rw [e1] at hX
        rw [e2, if_pos rfl, e3] at hY
        replace hX : X = (none, pos2) := hX
        subst hX
        subst hY
        refine ⟨rfl, hM, ?_, ?_, ?_⟩
        · intro l hl
          cases hl
        · intro c hc
          show gA M _ _ = _
          rw [hMA]
        · intro e he
          show gA M _ = _
          rw [hMA]
    by_cases c0 : j = 0
    · have l0 : nI j ≤ 0 := by
        rw [c0]
        decide
      rw [if_pos (Or.inl c0), if_pos l0, if_pos c0]
      exact step m pos h hi rfl _ rfl _ rfl
    · have l0 : ¬ nI j ≤ 0 := nI_nle (by omega) (by omega)
      rw [if_neg l0]
      by_cases c1 : pos < L ∧ t pos = 32
      · obtain ⟨a1, a2⟩ := (ac_c (g := g) (ch := 32) h).1 c1
        rw [a1, a2, if_neg nz1, if_pos (Or.inr c1), if_neg c0]
        exact step (sI m 325 p (nI (pos + 1))) (pos + 1) (h.I (by omega)) (by simp [mm, hi]) (by simp only [mm]) _ rfl _ rfl
      · obtain ⟨a1, a2⟩ := (ac_c (g := g) (ch := 32) h).2 c1
        rw [a1, a2, if_pos rfl, if_neg (show ¬ (j = 0 ∨ (pos < L ∧ t pos = 32)) from fun z => z.elim c0 c1)]
        refine ⟨rfl, h, ?_, fun c hc => rfl, fun e he => rfl⟩
        intro l hl
        cases hl
theorem WR.le {o : Option Nat} (h : WR t L pos o q) (hp : pos ≤ L) : q ≤ L := by
  rcases h with ⟨k, hk, rfl, a1, rfl⟩ | ⟨rfl, a1, x, rfl, a2, k, hk, a3⟩
  · have w3 := (wdL_f ⟨k, hk⟩).1
    simp only at w3
    have := (cp_at (t := t) (L := L) (pos := pos) (k := k) (j := wdL k - 1) (by omega)).1
    omega
  · by_cases c : x = 0
    · omega
    · have := (cp_at (t := t) (L := L) (pos := pos) (k := k) (j := x - 1) (by omega)).1
      omega
/-- what reading a command leaves -/
theorem rc_c (hcm : ∀ j, j < 12 → cmI g (cmA g j) = j) (h : PS m p t L pos) (hi : gI m 324 p = nI i) (hi12 : i < 12) : ∃ o q, CR t L pos o q ∧ X8_readCommand_r g m p = (if o.isSome then 1 else 0) ∧ PS (X8_readCommand_m g m p) p t L q ∧ (∀ y, o = some y → STO g (X8_readCommand_m g m p) p i [y]) ∧ (∀ c, c ≠ i → gQ (X8_readCommand_m g m p) (p + 2) c = gQ m (p + 2) c ∧ gA (X8_readCommand_m g m p) (p + 4 + c) = gA m (p + 4 + c)) := by
  obtain ⟨o, q, w, e1, e2⟩ := rw_c (g := g) h
  unfold X8_readCommand_r X8_readCommand_m
  have hq := w.le h.2.1
  rw [e1, e2]
  rcases o with _ | k
  · refine ⟨none, q, ⟨none, q, w, Or.inl ⟨rfl, rfl, rfl⟩⟩, rfl, h.I hq, ?_, ?_⟩
    · intro y hy
      cases hy
    · intro c hc
      show gQ (sI m 325 p (nI q)) (p + 2) c = _ ∧ gA (sI m 325 p (nI q)) (p + 4 + c) = _
      exact ⟨by simp only [mm], by simp only [mm]⟩
  · have hk : k < 12 := by
      rcases w with ⟨j, hj, z, -⟩ | ⟨z, -⟩
      · cases z
        exact hj
      · cases z
    have e : cmI g (cmA g k) = k := hcm k hk
    have em : Option.map (cmA g) (some k) = some (cmA g k) := rfl
    rw [em]
    dsimp only
    rw [e, hi, nI_clamp (show i < 2 ^ 31 by omega)]
    have hP : PS (sQ (sI m 325 p (nI q)) (p + 2) i (some (cmA g k))) p t L q := by
      obtain ⟨h1, h2, h3, h4, h5⟩ := h.I (v := q) hq
      exact ⟨h1, h2, by simp only [mm] at h3 ⊢; exact h3, by simp only [mm] at h4 ⊢; exact h4, fun i hi => by simp only [mm] at h5 ⊢; exact h5 i hi⟩
    have gq : gQ (sQ (sI m 325 p (nI q)) (p + 2) i (some (cmA g k))) (p + 2) i = some (cmA g k) := by simp [mm]
    have gq2 : ∀ c, c ≠ i → gQ (sQ (sI m 325 p (nI q)) (p + 2) i (some (cmA g k))) (p + 2) c = gQ m (p + 2) c := fun c hc => by simp [mm, hc]
    have ga : gA (sQ (sI m 325 p (nI q)) (p + 2) i (some (cmA g k))) = gA m := by simp only [mm]
    have gi : gI (sQ (sI m 325 p (nI q)) (p + 2) i (some (cmA g k))) 324 p = nI i := by simp [mm, hi]
    generalize sQ (sI m 325 p (nI q)) (p + 2) i (some (cmA g k)) = M at *
    obtain ⟨i1, i2, i3, i4, i5⟩ := rc_l (g := g) (t := t) (L := L) hk hi12 4 (shL k) 0 M q hP gi (by omega) (by omega)
    have hQ := kQ_X8_readCommand_l1 g p 4 0 k M
    refine ⟨((pAs t L k (shL k) 0 q).1).map (k, ·), (pAs t L k (shL k) 0 q).2, ⟨some k, q, w, Or.inr ⟨k, rfl, rfl, rfl⟩⟩, by rw [i1, Option.isSome_map], i2, fun y hy => ?_, fun c hc => ⟨by rw [hQ]; exact gq2 c hc, by rw [i5 _ (by omega), ga]⟩⟩
    rcases hp : (pAs t L k (shL k) 0 q).1 with _ | l
    · rw [hp] at hy
      cases hy
    · rw [hp] at hy
      cases hy
      obtain ⟨y1, y2⟩ := i3 l hp
      refine ⟨by rw [hQ]; exact gq, hk, fun d hd => ?_, y1, trivial⟩
      have := y2 d hd
      rw [Nat.zero_add] at this
      exact this
end
