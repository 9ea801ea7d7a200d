/-! THE REFERENCE'S LINE, as a list -/
def LR (m0 m : mM) (r : Nat) (L : List Int32) : Prop := gK m = gK m0 ∧ gR m = gR m0 ∧ gQ m = gQ m0 ∧ gJ m = gJ m0 ∧ gN m = gN m0 ∧ (∀ k a, k ≠ 403 → gI m k a = gI m0 k a) ∧ (∀ c i, c ≠ r + 7 → gA m c i = gA m0 c i) ∧ gI m 403 r = nI L.length ∧ ∀ i, i < L.length → gA m (r + 7) i = L.getD i 0
section
variable {g : mG} {m0 m : mM} {r : Nat} {L : List Int32}
theorem LR.ln (h : LR m0 m r L) : gI m 403 r = nI L.length := h.2.2.2.2.2.2.2.1
theorem LR.ok (h : LR m0 m r L) {B : Nat} (hl : L.length ≤ B) (hB : B < 2 ^ 31) : okI (gI m 403 r) B := okI_of h.ln hl hB
theorem LR.I (h : LR m0 m r L) {k a : Nat} (hk : k ≠ 403) : gI m k a = gI m0 k a := h.2.2.2.2.2.1 k a hk
theorem LR.A (h : LR m0 m r L) {c i : Nat} (hc : c ≠ r + 7) : gA m c i = gA m0 c i := h.2.2.2.2.2.2.1 c i hc
theorem LR.w {a : Int32} (h : LR m0 m r L) (hl : L.length ≤ 49) : LR m0 (X11_writes_m g m r a) r (L ++ [a]) := by
  obtain ⟨h1, h2, h3, h4, h5, h6, h7, h8, h9⟩ := h
  have e : (gI m 403 r).toNatClampNeg = L.length := by rw [h8, nI_clamp (by omega)]
  unfold X11_writes_m
  refine ⟨h1, h2, h3, h4, h5, fun k a hk => ?_, fun c i hc => ?_, ?_, fun i hi => ?_⟩
  · simp only [mm]
    rw [if_neg (fun q => hk q.1)]
    exact h6 k a hk
  · simp only [mm]
    rw [if_neg (fun q => hc q.1)]
    exact h7 c i hc
  · simp [mm, h8, nI_1]
  · simp only [mm]
    rw [e]
    simp only [List.length_append, List.length_cons, List.length_nil] at hi
    by_cases c : i = L.length
    · subst c
      rw [if_pos (by simp), gd_r (Nat.le_refl _)]
      simp
    · rw [if_neg (fun q => c q.2), h9 i (by omega), gd_l (by omega)]
theorem dv_lt_iff {x T : Nat} {t : Int32} (hx : x < 10000) (hT : 0 < T ∧ T ≤ 1000) (ht : t = nI T) : nI x / t < 10 ↔ x / T < 10 := by
  subst ht
  have h1 : x / T < 10000 := Nat.lt_of_le_of_lt (Nat.div_le_self _ _) hx
  rw [dv_nI hx hT]
  exact nI_ltI (b := 10) (by omega) (by decide)
theorem LR.n {x : Nat} (h : LR m0 m r L) (hx : x < 10000) (hl : L.length ≤ 45) : LR m0 (X11_writesNumber_m g m r x) r (L ++ dl x) := by
  unfold X11_writesNumber_m dl
  by_cases c1 : x < 10
  · have e : digs x = 1 := by unfold digs; rw [if_pos c1]
    rw [if_pos ((dv_lt_iff (T := 1) (t := 1) hx (by decide) rfl).mpr (by omega)), e]
    have h2 := h.w (g := g) (a := nI (48 + x / 1 % 10)) (by omega)
    have e2 : (List.range 1).map (dgt x) = [nI (48 + x / 1 % 10)] := by simp [List.range, List.range.loop, dgt, e]
    rw [e2]
    exact h2
  · rw [if_neg (fun q => by have := (dv_lt_iff (T := 1) (t := 1) hx (by decide) rfl).mp q; omega)]
    by_cases c2 : x < 100
    · have e : digs x = 2 := by unfold digs; rw [if_neg c1, if_pos c2]
      rw [if_pos ((dv_lt_iff (T := 10) (t := 1 * 10) hx (by decide) (by decide)).mpr (by omega)), e]
      have h2 := (h.w (g := g) (a := nI (48 + x / 10 % 10)) (by omega)).w (g := g) (a := nI (48 + x / 1 % 10)) (by simp; omega)
      have e2 : (List.range 2).map (dgt x) = [nI (48 + x / 10 % 10)] ++ [nI (48 + x / 1 % 10)] := by simp [List.range, List.range.loop, dgt, e]
      rw [e2, ← List.append_assoc]
      exact h2
    · rw [if_neg (fun q => by have := (dv_lt_iff (T := 10) (t := 1 * 10) hx (by decide) (by decide)).mp q; omega)]
      by_cases c3 : x < 1000
      · have e : digs x = 3 := by unfold digs; rw [if_neg c1, if_neg c2, if_pos c3]
        rw [if_pos ((dv_lt_iff (T := 100) (t := 1 * 10 * 10) hx (by decide) (by decide)).mpr (by omega)), e]
        have h2 := ((h.w (g := g) (a := nI (48 + x / 100 % 10)) (by omega)).w (g := g) (a := nI (48 + x / 10 % 10)) (by simp; omega)).w (g := g) (a := nI (48 + x / 1 % 10)) (by simp; omega)
        have e2 : (List.range 3).map (dgt x) = [nI (48 + x / 100 % 10)] ++ [nI (48 + x / 10 % 10)] ++ [nI (48 + x / 1 % 10)] := by simp [List.range, List.range.loop, dgt, e]
        rw [e2, ← List.append_assoc, ← List.append_assoc]
        exact h2
      · have e : digs x = 4 := by unfold digs; rw [if_neg c1, if_neg c2, if_neg c3]
        rw [if_neg (fun q => by have := (dv_lt_iff (T := 100) (t := 1 * 10 * 10) hx (by decide) (by decide)).mp q; omega), e]
        have h2 := (((h.w (g := g) (a := nI (48 + x / 1000 % 10)) (by omega)).w (g := g) (a := nI (48 + x / 100 % 10)) (by simp; omega)).w (g := g) (a := nI (48 + x / 10 % 10)) (by simp; omega)).w (g := g) (a := nI (48 + x / 1 % 10)) (by simp; omega)
        have e2 : (List.range 4).map (dgt x) = [nI (48 + x / 1000 % 10)] ++ [nI (48 + x / 100 % 10)] ++ [nI (48 + x / 10 % 10)] ++ [nI (48 + x / 1 % 10)] := by simp [List.range, List.range.loop, dgt, e]
        rw [e2, ← List.append_assoc, ← List.append_assoc, ← List.append_assoc]
        exact h2
theorem LR.cg {m1 : mM} (h : LR m0 m r L) (e : m = m1) : LR m0 m1 r L := e ▸ h
theorem LR.st (m : mM) (r : Nat) : LR m (sI m 403 r 0) r [] := by
  refine ⟨rfl, rfl, rfl, rfl, rfl, fun k a hk => ?_, fun c i hc => rfl, ?_, fun i hi => by simp at hi⟩
  · simp only [mm]
    rw [if_neg (fun q => hk q.1)]
  · simp [mm]; rfl
end
theorem c_wnI {l : Launch} {g : mG} (hO : mO l g) (m : mM) (r : Nat) (a : Int32) (x : Nat) (ha : a = nI x) (hs : SR m r) (hx : x < 10000) (hLn : okI (gI m 403 r) 45) : mT l g yX11_writesNumber (.code yX11_writesNumber cX11_writesNumber 3 (Option.none : Option FieldType)) 2 41 0 0 [.ref r, .int a] m (fun q m' => q = none ∧ m' = X11_writesNumber_m g m r x) nX := by
  subst ha
  exact c_X11_writesNumber hO m r x hs hx hLn
