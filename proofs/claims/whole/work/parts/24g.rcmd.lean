/-! THE REFERENCE READS A COMMAND, ITS ARGUMENTS -/
/-- what reading leaves alone -/
def PX (r : Nat) (m m1 : mM) : Prop := gK m1 = gK m ∧ gR m1 = gR m ∧ gN m1 = gN m ∧ (∀ c, c ≠ r + 8 → c ≠ r + 9 → ∀ i, gA m1 c i = gA m c i) ∧ (∀ k a, k ≠ 401 → k ≠ 404 → gI m1 k a = gI m k a) ∧ gJ m1 = gJ m ∧ gQ m1 = gQ m ∧ gL m1 = gL m ∧ gD m1 = gD m ∧ ∀ k a, a ≠ r → gI m1 k a = gI m k a
section
variable {t : Nat → Int32} {L pos k n i j x q : Nat} {g : mG} {m m1 m2 : mM} {p r : Nat}
theorem PX.tr (h : PX r m m1) (h2 : PX r m1 m2) : PX r m m2 := by
  obtain ⟨a1, a2, a3, a4, a5, a6, a7, a8, a9, a10⟩ := h
  obtain ⟨b1, b2, b3, b4, b5, b6, b7, b8, b9, b10⟩ := h2
  exact ⟨b1.trans a1, b2.trans a2, b3.trans a3, fun c x y i => (b4 c x y i).trans (a4 c x y i), fun k a x y => (b5 k a x y).trans (a5 k a x y), b6.trans a6, b7.trans a7, b8.trans a8, b9.trans a9, fun k a q => (b10 k a q).trans (a10 k a q)⟩
theorem fi_w4 : ∀ (n j : Nat) (s : Int32) (m : mM) (k a : Nat), a ≠ r → gI (X11_word_l4 g r n j s m).2 k a = gI m k a
  | 0, j, s, m, k, a, h => by
    rw [X11_word_l4]
    split <;> rfl
  | n + 1, j, s, m, k, a, h => by
    rw [X11_word_l4]
    split
    · rfl
    · split
      · split
        · rw [fi_w4 n (j + 1) _ _ k a h]
          simp [mm, h, kI_X11_word_l2x]
        · rw [fi_w4 n (j + 1) _ _ k a h]
          simp [mm, h, kI_X11_word_l2x]
      · rfl
theorem fi_dg {mo : Nat} : ∀ (n j : Nat) (s : Int32) (m : mM) (k a : Nat), a ≠ r → gI (X11_digits_l1 g r mo n j s m).2 k a = gI m k a
  | 0, j, s, m, k, a, h => by
    rw [X11_digits_l1]
    split <;> simp [mm, h]
  | n + 1, j, s, m, k, a, h => by
    rw [X11_digits_l1]
    split
    · split <;> simp [mm, h]
    · rw [fi_dg n (j + 1) _ _ k a h]
      simp [mm, h]
theorem fi_le {k a : Nat} (h : a ≠ r) : gI (X11_letter_m g m r) k a = gI m k a := by
  unfold X11_letter_m
  repeat' split
  all_goals simp [mm, h]
theorem fi_mk {ch : Int32} {k a : Nat} (h : a ≠ r) : gI (X11_mark_m g m r ch) k a = gI m k a := by
  unfold X11_mark_m
  repeat' split
  all_goals simp [mm, h]
theorem fi_bh {mo k a : Nat} (h : a ≠ r) : gI (X11_behind_m g m r mo) k a = gI m k a := by
  unfold X11_behind_m
  split
  · unfold X11_digits_m
    rw [fi_dg _ _ _ _ k a h, fi_mk h]
  · exact fi_mk h
theorem px_word : PX r m (X11_word_m g m r) := ⟨kK_X11_word g m r, kR_X11_word g m r, kN_X11_word g m r, fun c h1 _ i => kA_X11_word g m r c i h1, fun k a h1 h2 => kI_X11_word g m r k a h1 h2, kJ_X11_word g m r, kQ_X11_word g m r, kL_X11_word g m r, kD_X11_word g m r, fun k a h => by
  unfold X11_word_m
  rw [fi_w4 _ _ _ _ k a h, kI_X11_word_l1x]⟩
theorem px_cL : PX r m (X11_cL_m g m r) := ⟨kK_X11_cL g m r, kR_X11_cL g m r, kN_X11_cL g m r, fun c _ h1 i => kA_X11_cL g m r c i h1, fun k a h1 h2 => kI_X11_cL g m r k a h1 h2, kJ_X11_cL g m r, kQ_X11_cL g m r, kL_X11_cL g m r, kD_X11_cL g m r, fun k a h => by
  unfold X11_cL_m
  exact fi_le (g := g) (m := m) h⟩
theorem px_cD {mo : Nat} : PX r m (X11_cD_m g m r mo) := ⟨kK_X11_cD g m r mo, kR_X11_cD g m r mo, kN_X11_cD g m r mo, fun c _ h1 i => kA_X11_cD g m r mo c i h1, fun k a h1 h2 => kI_X11_cD g m r mo k a h1 h2, kJ_X11_cD g m r mo, kQ_X11_cD g m r mo, kL_X11_cD g m r mo, kD_X11_cD g m r mo, fun k a h => by
  unfold X11_cD_m X11_digits_m
  exact fi_dg (g := g) _ _ _ _ k a h⟩
theorem px_cB {mo i : Nat} : PX r m (X11_cB_m g m r mo i) := ⟨kK_X11_cB g m r mo i, kR_X11_cB g m r mo i, kN_X11_cB g m r mo i, fun c _ h1 j => kA_X11_cB g m r mo i c j h1, fun k a h1 h2 => kI_X11_cB g m r mo i k a h1 h2, kJ_X11_cB g m r mo i, kQ_X11_cB g m r mo i, kL_X11_cB g m r mo i, kD_X11_cB g m r mo i, fun k a h => by
  unfold X11_cB_m
  exact fi_bh (g := g) (m := m) h⟩
theorem QS.px {pos2 : Nat} (h : QS m r t L pos) (x : PX r m m1) (h1 : gI m1 401 r = nI pos2) (hp : pos2 ≤ L) : QS m1 r t L pos2 := h.to (x.2.2.2.2.1 402 r (by decide) (by decide)) h1 hp (fun i => x.2.2.2.1 _ (by omega) (by omega) i)
/-- one argument: read and put at i, or not -/
def AG (g : mG) (r : Nat) (t : Nat → Int32) (L : Nat) (m m1 : mM) (i : Nat) (f : Option Int32 × Nat) : Prop := PX r m m1 ∧ QS m1 r t L f.2 ∧ (∀ v, f.1 = some v → gI m1 404 r = 0 ∧ gA m1 (r + 9) = upd (gA m (r + 9)) i v) ∧ (f.1 = none → gI m1 404 r = 1)
theorem sgn_e {ch : Int32} (hc : ch ≠ -1) : sgn t L pos = ch ↔ pos < L ∧ t pos = ch := by
  unfold sgn
  by_cases c : L ≤ pos
  · rw [if_pos c]
    exact ⟨fun z => absurd z.symm hc, fun z => by omega⟩
  · rw [if_neg c]
    exact ⟨fun z => ⟨by omega, z⟩, fun z => z.2⟩
theorem le_ref (h : QS m r t L pos) : (pos < L ∧ (t pos = 98 ∨ t pos = 110 ∨ t pos = 119) → X11_letter_r g m r = t pos ∧ gI (X11_letter_m g m r) 401 r = nI (pos + 1) ∧ gI (X11_letter_m g m r) 404 r = 0) ∧ (¬ (pos < L ∧ (t pos = 98 ∨ t pos = 110 ∨ t pos = 119)) → gI (X11_letter_m g m r) 401 r = nI pos ∧ gI (X11_letter_m g m r) 404 r = 1) := by
  have h1 := h.2.2.2.1
  have e98 := sgn_e (t := t) (L := L) (pos := pos) (ch := 98) (by decide)
  have e110 := sgn_e (t := t) (L := L) (pos := pos) (ch := 110) (by decide)
  have e119 := sgn_e (t := t) (L := L) (pos := pos) (ch := 119) (by decide)
  unfold X11_letter_r X11_letter_m
  rw [sg_r h, h1, nI_1]
  have z0 : (0 : Int32) ||| 0 = 0 := by decide
  have z1 : (0 : Int32) ||| 1 = 1 := by decide
  have z2 : nI pos + 0 = nI pos := Int32.add_zero _
  rw [z0, z1, z2]
  refine ⟨fun c => ?_, fun c => ?_⟩
  · have es : sgn t L pos = t pos := sgn_i c.1
    by_cases c1 : sgn t L pos = 98
    · rw [if_pos c1, if_pos c1]
      exact ⟨es, by simp [mm], by simp [mm]⟩
    · rw [if_neg c1, if_neg c1]
      by_cases c2 : sgn t L pos = 110
      · rw [if_pos c2, if_pos c2]
        exact ⟨es, by simp [mm], by simp [mm]⟩
      · rw [if_neg c2, if_neg c2]
        have c3 : sgn t L pos = 119 := by
          rw [es] at c1 c2 ⊢
          exact (c.2.resolve_left c1).resolve_left c2
        rw [if_pos c3, if_pos c3]
        exact ⟨es, by simp [mm], by simp [mm]⟩
  · rw [if_neg (fun z => c ⟨(e98.mp z).1, Or.inl (e98.mp z).2⟩), if_neg (fun z => c ⟨(e110.mp z).1, Or.inr (Or.inl (e110.mp z).2)⟩), if_neg (fun z => c ⟨(e119.mp z).1, Or.inr (Or.inr (e119.mp z).2)⟩)]
    exact ⟨by simp [mm], by simp [mm]⟩
theorem ag_L (h : QS m r t L pos) : AG g r t L m (X11_cL_m g m r) 0 (pK t L pos) := by
  have hpl := h.2.1
  have e1 : ∀ k, gI (X11_cL_m g m r) k r = gI (X11_letter_m g m r) k r := fun k => by
    unfold X11_cL_m
    simp only [mm]
  have e2 : gA (X11_cL_m g m r) (r + 9) = upd (gA m (r + 9)) 0 (X11_letter_r g m r) := by
    unfold X11_cL_m
    rw [gA_same, kA_X11_letter]
  obtain ⟨l1, l2⟩ := le_ref (g := g) h
  unfold pK
  by_cases c : pos < L ∧ (t pos = 98 ∨ t pos = 110 ∨ t pos = 119)
  · obtain ⟨a1, a2, a3⟩ := l1 c
    rw [if_pos c]
    exact ⟨px_cL, h.px px_cL (by rw [e1]; exact a2) (by have := c.1; show pos + 1 ≤ L; omega), fun v hv => by cases hv; exact ⟨by rw [e1]; exact a3, by rw [e2, a1]⟩, fun hv => by cases hv⟩
  · obtain ⟨a2, a3⟩ := l2 c
    rw [if_neg c]
    exact ⟨px_cL, h.px px_cL (by rw [e1]; exact a2) hpl, fun v hv => (by cases hv), fun hv => by rw [e1]; exact a3⟩
theorem ag_D {mo : Nat} (hmo : mo = 1 ∨ mo = 2) (h : QS m r t L pos) : AG g r t L m (X11_cD_m g m r mo) 0 (pN t L mo pos) := by
  have hpl := h.2.1
  have e1 : ∀ k, gI (X11_cD_m g m r mo) k r = gI (X11_digits_m g m r mo) k r := fun k => by
    unfold X11_cD_m
    simp only [mm]
  have e2 : gA (X11_cD_m g m r mo) (r + 9) = upd (gA m (r + 9)) 0 (X11_digits_r g m r mo) := by
    unfold X11_cD_m
    rw [gA_same, kA_X11_digits]
  rcases dg_ref (g := g) hmo h with ⟨v, q, b1, b2, b3, b4, b5⟩ | ⟨b1, b4, b5⟩
  · rw [b1]
    exact ⟨px_cD, h.px px_cD (by rw [e1]; exact b4) b3, fun w hv => by cases hv; exact ⟨by rw [e1]; exact b5, by rw [e2, b2]⟩, fun hv => by cases hv⟩
  · rw [b1]
    exact ⟨px_cD, h.px px_cD (by rw [e1]; exact b4) hpl, fun v hv => (by cases hv), fun hv => by rw [e1]; exact b5⟩
theorem mk_ref {ch : Int32} (hc : ch ≠ -1) (h : QS m r t L pos) (h4 : gI m 404 r = 0) : (pos < L ∧ t pos = ch → QS (X11_mark_m g m r ch) r t L (pos + 1) ∧ gI (X11_mark_m g m r ch) 404 r = 0) ∧ (¬ (pos < L ∧ t pos = ch) → QS (X11_mark_m g m r ch) r t L pos ∧ gI (X11_mark_m g m r ch) 404 r = 1) := by
  have hs := sgn_e (t := t) (L := L) (pos := pos) hc
  unfold X11_mark_m
  rw [if_pos h4, sg_r h, h.2.2.2.1, nI_1]
  have z2 : nI pos + 0 = nI pos := Int32.add_zero _
  rw [z2]
  refine ⟨fun c => ?_, fun c => ?_⟩
  · rw [if_pos (hs.mpr c)]
    exact ⟨h.to (by simp [mm]) (by simp [mm]) c.1 (fun i => by simp only [mm]), by simp [mm]⟩
  · rw [if_neg (fun z => c (hs.mp z))]
    exact ⟨h.to (by simp [mm]) (by simp [mm]) h.2.1 (fun i => by simp only [mm]), by simp [mm]⟩
def pG (t : Nat → Int32) (L mo pos : Nat) : Option Int32 × Nat := if pos < L ∧ t pos = 32 then pN t L mo (pos + 1) else (none, pos)
theorem ag_B {mo i : Nat} (hmo : mo = 1 ∨ mo = 2) (h : QS m r t L pos) (h4 : gI m 404 r = 0) : AG g r t L m (X11_cB_m g m r mo i) i (pG t L mo pos) := by
  have hpl := h.2.1
  have e1 : ∀ k, gI (X11_cB_m g m r mo i) k r = gI (X11_behind_m g m r mo) k r := fun k => by
    unfold X11_cB_m
    simp only [mm]
  have e2 : gA (X11_cB_m g m r mo i) (r + 9) = upd (gA m (r + 9)) i (X11_behind_r g m r mo) := by
    unfold X11_cB_m
    rw [gA_same, kA_X11_behind]
  obtain ⟨l1, l2⟩ := mk_ref (g := g) (ch := 32) (by decide) h h4
  unfold pG
  by_cases c : pos < L ∧ t pos = 32
  · obtain ⟨a1, a2⟩ := l1 c
    rw [if_pos c]
    unfold X11_behind_m at e1
    unfold X11_behind_r at e2
    rw [if_pos a2] at e2
    rw [if_pos a2] at e1
    rcases dg_ref (g := g) hmo a1 with ⟨v, q, b1, b2, b3, b4, b5⟩ | ⟨b1, b4, b5⟩
    · rw [b1]
      exact ⟨px_cB, h.px px_cB (by rw [e1]; exact b4) b3, fun w hv => by cases hv; exact ⟨by rw [e1]; exact b5, by rw [e2, b2]⟩, fun hv => by cases hv⟩
    · rw [b1]
      exact ⟨px_cB, h.px px_cB (by rw [e1]; exact b4) a1.2.1, fun v hv => (by cases hv), fun hv => by rw [e1]; exact b5⟩
  · obtain ⟨a1, a2⟩ := l2 c
    rw [if_neg c]
    unfold X11_behind_m at e1
    rw [if_neg (by rw [a2]; decide)] at e1
    exact ⟨px_cB, h.px px_cB (by rw [e1]; exact a1.2.2.2.1) hpl, fun v hv => (by cases hv), fun hv => by rw [e1]; exact a2⟩
end
