/-! a piece that goes -/
section
variable {g : mG} {mc mr : mM} {f r N H T i : Nat} {w : Nat → Int32}
/-- behind the piece that goes -/
theorem rem_p2 {a : Int32} : ∀ (n kp : Nat) (m : mM), kp + 1 + n = N → N ≤ 8 → (∀ k, kp + 1 ≤ k → k < N → gI m 288 (pa m f k) ≠ a) → (∀ k, k < kp → pa (X3_remove_l1 g f a N n (kp + 1) kp m) f k = pa m f k) ∧ (∀ k, kp ≤ k → k + 1 < N → pa (X3_remove_l1 g f a N n (kp + 1) kp m) f k = pa m f (k + 1)) ∧ gI (X3_remove_l1 g f a N n (kp + 1) kp m) 163 f = nI (N - 1)
  | 0, kp, m, hj, hN, h => by
    rw [X3_remove_l1]
    refine ⟨fun k _ => rfl, fun k h1 h2 => by omega, ?_⟩
    have e : N - 1 = kp := by omega
    rw [e]
    simp [mm]
  | n + 1, kp, m, hj, hN, h => by
    rw [X3_remove_l1, if_neg (h (kp + 1) (Nat.le_refl _) (by omega))]
    have sw := fun i => pa_swap (m := m) (f := f) (j := kp + 1) (k := kp) (i := i) (by omega) (by omega)
    generalize hm2 : sQ (sQ m (f + 2) (kp + 1) (some (pa m f kp))) (f + 2) kp (some (pa m f (kp + 1))) = m2 at sw ⊢
    have hI : gI m2 = gI m := by rw [← hm2]; rfl
    obtain ⟨h1, h2, h3⟩ := rem_p2 n (kp + 1) m2 (by omega) hN (fun k a1 a2 => by
      rw [hI, sw, if_neg (by omega), if_neg (by omega)]
      exact h k (by omega) a2)
    refine ⟨fun k hk => ?_, fun k a1 a2 => ?_, h3⟩
    · rw [h1 k (by omega), sw, if_neg (by omega), if_neg (by omega)]
    · by_cases c : k = kp
      · rw [h1 k (by omega), sw, if_pos c, c]
      · rw [h2 k (by omega) a2, sw, if_neg (by omega), if_neg (by omega)]
theorem rem_p1 {a : Int32} : ∀ (n j : Nat) (m : mM), j + n = N → N ≤ 8 → j ≤ i → i < N → gI m 288 (pa m f i) = a → (∀ k, k < N → k ≠ i → gI m 288 (pa m f k) ≠ a) → (∀ k, k < i → pa (X3_remove_l1 g f a N n j j m) f k = pa m f k) ∧ (∀ k, i ≤ k → k + 1 < N → pa (X3_remove_l1 g f a N n j j m) f k = pa m f (k + 1)) ∧ gI (X3_remove_l1 g f a N n j j m) 163 f = nI (N - 1)
  | 0, j, m, hj, hN, hji, hi, h1, h2 => by omega
  | n + 1, j, m, hj, hN, hji, hi, h1, h2 => by
    rw [X3_remove_l1]
    by_cases c : j = i
    · subst c
      rw [if_pos h1]
      exact rem_p2 n j m (by omega) hN (fun k a1 a2 => h2 k a2 (by omega))
    · rw [if_neg (h2 j (by omega) c)]
      have sw := fun i => pa_swap (m := m) (f := f) (j := j) (k := j) (i := i) (by omega) (by omega)
      generalize hm2 : sQ (sQ m (f + 2) j (some (pa m f j))) (f + 2) j (some (pa m f j)) = m2 at sw ⊢
      have hI : gI m2 = gI m := by rw [← hm2]; rfl
      have hp : ∀ k, pa m2 f k = pa m f k := fun k => by
        rw [sw]
        by_cases d : k = j
        · rw [if_pos d, d]
        · rw [if_neg d, if_neg d]
      have h := rem_p1 (a := a) n (j + 1) m2 (by omega) hN (by omega) hi (by rw [hI, hp]; exact h1) (fun k a1 a2 => by rw [hI, hp]; exact h2 k a1 a2)
      simp only [hp] at h
      exact h
/-- the row behind 'goes' -/
theorem goes_l {a : Int32} : ∀ (n j : Nat) (m : mM), j + n = 77 → 13 ≤ j → gI (X11_goes_l1 g r a n j m) = gI m ∧ ∀ k, gA (X11_goes_l1 g r a n j m) (r + 1) k = if k = 5 then gA m (r + 1) 5 - 1 else if j ≤ k ∧ k < 77 then (if 77 ≤ k + 8 then 0 else gA m (r + 1) (k + 8)) else gA m (r + 1) k
  | 0, j, m, hj, h13 => by
    rw [X11_goes_l1]
    refine ⟨rfl, fun k => ?_⟩
    rw [gA_same]
    by_cases c : k = 5
    · rw [ui c, if_pos c]
    · rw [un c, if_neg c, if_neg (by omega)]
  | n + 1, j, m, hj, h13 => by
    rw [X11_goes_l1]
    have e8 : 77 ≤ nI j + 8 ↔ 77 ≤ j + 8 := by
      have e : nI j + 8 = nI (j + 8) := nI_add j 8
      rw [e]
      exact nI_leI (a := 77) (b := j + 8) (by omega) (by omega)
    by_cases c : 77 ≤ j + 8
    · rw [if_pos (e8.mpr c)]
      obtain ⟨h1, h2⟩ := goes_l (a := a) n (j + 1) (sA m (r + 1) j 0) (by omega) (by omega)
      refine ⟨h1, fun k => ?_⟩
      rw [h2, gA_same]
      by_cases d : k = 5
      · rw [if_pos d, if_pos d, un (by omega)]
      · rw [if_neg d, if_neg d]
        by_cases e : k = j
        · rw [if_neg (by omega), ui e, if_pos (by omega), if_pos (by omega)]
        · by_cases e2 : j + 1 ≤ k ∧ k < 77
          · rw [if_pos e2, if_pos (by omega), if_pos (by omega), if_pos (by omega)]
          · rw [if_neg e2, if_neg (by omega), un e]
    · rw [if_neg (fun q => c (e8.mp q))]
      obtain ⟨h1, h2⟩ := goes_l (a := a) n (j + 1) (sA m (r + 1) j (gA m (r + 1) (j + 8))) (by omega) (by omega)
      refine ⟨h1, fun k => ?_⟩
      rw [h2, gA_same]
      by_cases d : k = 5
      · rw [if_pos d, if_pos d, un (by omega)]
      · rw [if_neg d, if_neg d]
        by_cases e : k = j
        · rw [if_neg (by omega), ui e, if_pos (by omega), if_neg (by omega), e]
        · by_cases e2 : j + 1 ≤ k ∧ k < 77
          · rw [if_pos e2, if_pos (show j ≤ k ∧ k < 77 by omega)]
            by_cases e3 : 77 ≤ k + 8
            · rw [if_pos e3, if_pos e3]
            · rw [if_neg e3, if_neg e3, un (by omega)]
          · rw [if_neg e2, if_neg (by omega), un e]
theorem goes_row (hi : i < 8) : gI (X11_goes_m g mr r (nI i)) = gI mr ∧ gA (X11_goes_m g mr r (nI i)) (r + 1) 5 = gA mr (r + 1) 5 - 1 ∧ (∀ k, k ≠ 5 → (k < 8 * i + 13 ∨ 77 ≤ k) → gA (X11_goes_m g mr r (nI i)) (r + 1) k = gA mr (r + 1) k) ∧ ∀ k, 8 * i + 13 ≤ k → k + 8 < 77 → gA (X11_goes_m g mr r (nI i)) (r + 1) k = gA mr (r + 1) (k + 8) := by
  unfold X11_goes_m
  rw [nI_clamp (by omega)]
  obtain ⟨h1, h2⟩ := goes_l (g := g) (r := r) (a := nI i) (77 - (8 * i + 13)) (8 * i + 13) mr (by omega) (by omega)
  refine ⟨h1, ?_, fun k a1 a2 => ?_, fun k a1 a2 => ?_⟩
  · rw [h2, if_pos rfl]
  · rw [h2, if_neg a1, if_neg (by omega)]
  · rw [h2, if_neg (by omega), if_pos (by omega), if_neg (by omega)]
theorem inW_sh {w1 : Nat → Int32} : ∀ (n j : Nat), (∀ k, j ≤ k → k < j + n → w1 (8 * k + 18) = w (8 * (k + 1) + 18)) → inW w1 n j = inW w n (j + 1)
  | 0, j, _ => rfl
  | n + 1, j, h => by
    rw [inW, inW, h j (by omega) (by omega), inW_sh n (j + 1) (fun k a b => h k (by omega) (by omega))]
theorem inW_go {w1 : Nat → Int32} : ∀ (n j : Nat), j ≤ i → i < j + n + 1 → (∀ k, k < i → w1 (8 * k + 18) = w (8 * k + 18)) → (∀ k, i ≤ k → k < j + n → w1 (8 * k + 18) = w (8 * (k + 1) + 18)) → inW w1 n j ≤ inW w (n + 1) j
  | 0, j, _, _, _, _ => Nat.zero_le _
  | n + 1, j, h1, h2, h3, h4 => by
    by_cases c : j = i
    · rw [inW_sh (n + 1) j (fun k a b => h4 k (by omega) (by omega))]
      exact Nat.le_add_left _ _
    · have := inW_go n (j + 1) (by omega) (by omega) h3 (fun k a b => h4 k a (by omega))
      rw [inW, inW, h3 j (by omega)]
      omega
/-- the forge and the row behind a piece that goes -/
def GO (g : mG) (f r : Nat) (T N H : Nat) (mc1 mr1 : mM) (w : Nat → Int32) (a : Int32) : Prop := FR g mc1 f (gA mr1 (r + 1)) (N - 1) H ∧ RV T (gA mr1 (r + 1)) (N - 1) H ∧ gI mc1 163 f = nI (N - 1) ∧ (∀ k, k < N → w (8 * k + 13) ≠ a → ∃ j, j < N - 1 ∧ gA mr1 (r + 1) (8 * j + 13) = w (8 * k + 13)) ∧ gA mr1 (r + 1) 5 = nI (N - 1)
theorem go_of (hF : FR g mc f (gA mr (r + 1)) N H) (hV : RV T (gA mr (r + 1)) N H) {a : Int32} (hi : i < N) (ha : gA mr (r + 1) (8 * i + 13) = a) : GO g f r T N H (X3_remove_m g mc f a N) (X11_goes_m g mr r (nI i)) (gA mr (r + 1)) a ∧ gI (X11_goes_m g mr r (nI i)) = gI mr := by
  have hN8 := hF.2.2.2.2.1
  have hn : ∀ k, k < N → gI mc 288 (pa mc f k) = gA mr (r + 1) (8 * k + 13) := fun k hk => (hF.2.2.1 k hk).1
  have asc := hV.2.2.1
  have uq : ∀ k, k < N → k ≠ i → gA mr (r + 1) (8 * k + 13) ≠ a := fun k hk hki e => by
    rw [← ha] at e
    rcases Nat.lt_or_gt_of_ne hki with c | c
    · have := asc k i c hi
      rw [e] at this
      omega
    · have := asc i k c hk
      rw [e] at this
      omega
  obtain ⟨r1, r2, r3⟩ := rem_p1 (g := g) (f := f) (a := a) (i := i) N 0 mc (by omega) hN8 (by omega) hi ((hn i hi).trans ha) (fun k h1 h2 => by rw [hn k h1]; exact uq k h1 h2)
  obtain ⟨g1, g2, g3, g4⟩ := goes_row (g := g) (mr := mr) (r := r) (i := i) (by omega)
  have kI := fun k q (h : k ≠ 163) => kI_X3_remove g mc f a N k q h
  have kJ := kJ_X3_remove g mc f a N
  have kR := kR_X3_remove g mc f a N
  have hSF := SF_remove (g := g) (a := a) hF.1 hN8
  have hpa1 : ∀ k, k < i → pa (X3_remove_m g mc f a N) f k = pa mc f k := r1
  have hpa2 : ∀ k, i ≤ k → k + 1 < N → pa (X3_remove_m g mc f a N) f k = pa mc f (k + 1) := r2
  have h163 : gI (X3_remove_m g mc f a N) 163 f = nI (N - 1) := r3
  clear r1 r2 r3
  generalize X3_remove_m g mc f a N = mc1 at *
  generalize X11_goes_m g mr r (nI i) = mr1 at *
  have e5 : gA mr (r + 1) 5 - 1 = nI (N - 1) := by
    rw [hV.1.1]
    have e : N = (N - 1) + 1 := by omega
    rw [e, nI_pred]
    rfl
  rw [e5] at g2
  have pto : ∀ q w2 j, PR g mc q w2 j → PR g mc1 q w2 j := fun q w2 j p => by
    obtain ⟨p1, p2, p3, p4, p5, p6, p7, p8⟩ := p
    exact ⟨(kI _ _ (by decide)).trans p1, (kI _ _ (by decide)).trans p2, (kI _ _ (by decide)).trans p3, (kI _ _ (by decide)).trans p4, (kI _ _ (by decide)).trans p5, (kI _ _ (by decide)).trans p6, (kI _ _ (by decide)).trans p7, p8.to (by rw [kR])⟩
  obtain ⟨h1, h2, h3, h4, h5, h6, h7⟩ := hV
  refine ⟨⟨⟨hSF, ?_, fun k hk => ?_, fun k hk => ?_, by omega, h7⟩, ⟨?_, fun k hk => ?_, fun j j2 a1 a2 => ?_, fun k hk => ?_, ?_, by omega, h7⟩, h163, fun k hk hne => ?_, g2⟩, g1⟩
  · obtain ⟨s1, s2, s3, s4, s5, s6, s7, s8, s9, s10, s11, s12, s13⟩ := hF.2.1
    unfold FS
    rw [g2, g3 0 (by omega) (by omega), g3 1 (by omega) (by omega), g3 2 (by omega) (by omega), g3 3 (by omega) (by omega), g3 4 (by omega) (by omega), g3 6 (by omega) (by omega), g3 7 (by omega) (by omega), g3 8 (by omega) (by omega), g3 9 (by omega) (by omega), g3 10 (by omega) (by omega), g3 11 (by omega) (by omega), g3 12 (by omega) (by omega), kI 166 f (by decide), kI 192 _ (by decide), kI 193 _ (by decide), kI 194 _ (by decide), kI 165 _ (by decide), kI 164 _ (by decide), kI 167 _ (by decide), kI 168 _ (by decide), kI 169 _ (by decide), kI 170 _ (by decide), kJ]
    exact ⟨s1, s2, s3, s4, s5, h163, s7, s8, s9, s10, s11, s12, s13⟩
  · by_cases c : k < i
    · rw [hpa1 k c]
      exact (pto _ _ _ (hF.2.2.1 k (by omega))).row (fun q hq => g3 _ (by omega) (by omega))
    · rw [hpa2 k (by omega) (by omega)]
      refine (pto _ _ _ (hF.2.2.1 (k + 1) (by omega))).row (fun q hq => ?_)
      rw [g4 _ (by omega) (by omega)]
      congr 1
      omega
  · have p := hF.2.2.2.1 k hk
    unfold HR at p ⊢
    rw [kI 224 _ (by decide), kI 225 _ (by decide), g3 _ (by omega) (by omega), g3 _ (by omega) (by omega)]
    exact p
  · unfold SV at h1 ⊢
    rw [g2, g3 1 (by omega) (by omega), g3 2 (by omega) (by omega), g3 3 (by omega) (by omega), g3 4 (by omega) (by omega), g3 6 (by omega) (by omega), g3 8 (by omega) (by omega), g3 9 (by omega) (by omega), g3 10 (by omega) (by omega)]
    exact ⟨rfl, h1.2⟩
  · by_cases c : k < i
    · exact (h2 k (by omega)).row (fun q hq => g3 _ (by omega) (by omega)) (g3 4 (by omega) (by omega))
    · refine (h2 (k + 1) (by omega)).row (fun q hq => ?_) (g3 4 (by omega) (by omega))
      rw [g4 _ (by omega) (by omega)]
      congr 1
      omega
  · have sh : ∀ k, ¬ k < i → k + 1 < N → gA mr1 (r + 1) (8 * k + 13) = gA mr (r + 1) (8 * (k + 1) + 13) := fun k c1 c2 => by
      rw [g4 _ (by omega) (by omega)]
      congr 1
    by_cases c : j < i
    · rw [g3 (8 * j + 13) (by omega) (by omega)]
      by_cases d : j2 < i
      · rw [g3 (8 * j2 + 13) (by omega) (by omega)]
        exact asc j j2 a1 (by omega)
      · rw [sh j2 d (by omega)]
        exact asc j (j2 + 1) (by omega) (by omega)
    · rw [sh j c (by omega), sh j2 (by omega) (by omega)]
      exact asc (j + 1) (j2 + 1) (by omega) (by omega)
  · have p := h4 k hk
    unfold HV at p ⊢
    rw [g3 _ (by omega) (by omega), g3 _ (by omega) (by omega)]
    exact p
  · have q := inW_go (w := gA mr (r + 1)) (w1 := gA mr1 (r + 1)) (i := i) (N - 1) 0 (by omega) (by omega) (fun k hk => g3 _ (by omega) (by omega)) (fun k a1 a2 => by
      rw [g4 _ (by omega) (by omega)]
      congr 1)
    rw [show N - 1 + 1 = N by omega] at q
    omega
  · by_cases c : k < i
    · exact ⟨k, by omega, g3 _ (by omega) (by omega)⟩
    · have hki : k ≠ i := fun e => hne (by rw [e]; exact ha)
      refine ⟨k - 1, by omega, ?_⟩
      rw [g4 _ (by omega) (by omega)]
      congr 1
      omega
theorem sim_drop (hF : FR g mc f (gA mr (r + 1)) N H) (hV : RV T (gA mr (r + 1)) N H) (h0 : gI mr 384 r = 0) {a ix : Int32} (hI : FI g mc f a N (gA mr (r + 1)) ix) : SIM g f r (pl5 1 0 0 0 0) T mc (X3_throwAway_m g mc f a N) (X3_throwAway_r g mc f a N) (X11_drops_m g mr r ix) (X11_drops_r g mr r ix) := by
  have hN8 := hF.2.2.2.2.1
  unfold X3_throwAway_m X3_throwAway_r X11_drops_m X11_drops_r
  rcases hI with ⟨h1, h2, -⟩ | ⟨i, hi, h1, h2, h3⟩
  · rw [h1, h2, if_neg (by decide), if_neg (by decide)]
    exact SIM.no1 (by decide)
  rw [h1, h2, if_pos (nI_pos' (by omega)), if_pos (nI_pos' (by omega))]
  simp only
  obtain ⟨⟨q1, q2, q3, q4, q5⟩, q6⟩ := go_of hF hV hi h3
  refine SIM.ok (N := N - 1) (H := H) ?_ ?_ (by rw [q6, h0]) q1 q2
  · rw [q3, nI_toInt (by omega)]
    omega
  · rw [q3, q5]
theorem join_no {a b c d : Int32} (h : X3_find_r g mc f a N = none ∨ X3_find_r g mc f b N = none ∨ X3_find_r g mc f c N = none ∨ X3_find_r g mc f d N = none) : X3_join_r g mc f a b c d N = -1 ∧ X3_join_m g mc f a b c d N = mc := by
  unfold X3_join_r X3_join_m
  generalize X3_find_r g mc f a N = A at h ⊢
  generalize X3_find_r g mc f b N = B at h ⊢
  generalize X3_find_r g mc f c N = C at h ⊢
  generalize X3_find_r g mc f d N = D at h ⊢
  cases A <;> cases B <;> cases C <;> cases D <;> first | exact ⟨rfl, rfl⟩ | (simp at h)
theorem rdy_eq (hd : VD g) (p : PR g mc (pa mc f i) (gA mr (r + 1)) i) (hi : i < 8) : X7_isReadyForBird_r g mc (pa mc f i) = X11_isReady_r g mr r (nI i) := by
  unfold X7_isReadyForBird_r X11_isReady_r
  obtain ⟨p1, p2, p3, p4, p5, p6, p7, p8⟩ := p
  rw [nI_clamp (by omega), p6]
  by_cases c : gA mr (r + 1) (8 * i + 18) = 0
  · rw [if_pos c, if_pos c]
    by_cases e : gA mr (r + 1) (8 * i + 20) = 1
    · rw [if_pos e, if_pos ((p8.z hd).2.1.mpr e)]
    · rw [if_neg e, if_neg (fun q => e ((p8.z hd).2.1.mp q))]
  · rw [if_neg c, if_neg c]
theorem FI.no {a ix : Int32} (h : FI g mc f a N w ix) (hN : N ≤ 8) : (ix = -1 ∧ X3_find_r g mc f a N = none) ∨ ∃ i, i < N ∧ X3_find_r g mc f a N = some (pa mc f i) ∧ ix = nI i ∧ w (8 * i + 13) = a := by
  rcases h with ⟨h1, h2, -⟩ | h
  · exact Or.inl ⟨h2, h1⟩
  · exact Or.inr h
theorem nI_nneg {n : Nat} (h : n < 8) : ¬ nI n < 0 := nI_pos (by omega)
/-- a later piece of the four, behind one that went -/
theorem go_next {T1 : Nat} {m1 r1 : mM} {a b : Int32} (hG : GO g f r T N H m1 r1 (gA mr (r + 1)) a) {k : Nat} (hk : k < N) (hb : gA mr (r + 1) (8 * k + 13) = b) (hne : b ≠ a) : ∃ j, j < N - 1 ∧ X11_find_r g r1 r b (N - 1) = nI j ∧ gA r1 (r + 1) (8 * j + 13) = b := by
  obtain ⟨q1, q2, q3, q4, q5⟩ := hG
  obtain ⟨j, hj, e⟩ := q4 k hk (by rw [hb]; exact hne)
  rcases fi_of q1 b with ⟨h1, h2, h3⟩ | ⟨j2, h1, h2, h3, h4⟩
  · exact absurd (e.trans hb) (h3 j hj)
  · exact ⟨j2, h1, h3, h4⟩
theorem sim_join (hd : VD g) (hF : FR g mc f (gA mr (r + 1)) N H) (hV : RV T (gA mr (r + 1)) N H) (h0 : gI mr 384 r = 0) (hT : T + 1 ≤ 9000) (a b c d : Int32) : SIM g f r (pl5 1 0 2 3 0) (T + 1) mc (X3_join_m g mc f a b c d N) (X3_join_r g mc f a b c d N) (X11_joins_m g mr r a b c d N) (X11_joins_r g mr r a b c d N) := by
  have hN8 := hF.2.2.2.2.1
  have Fa := fi_of (mr := mr) (r := r) hF a
  have Fb := fi_of (mr := mr) (r := r) hF b
  have Fc := fi_of (mr := mr) (r := r) hF c
  have Fd := fi_of (mr := mr) (r := r) hF d
  rcases Fa.no hN8 with ⟨n1, n2⟩ | ⟨i1, u1, u2, u3, u4⟩
  · obtain ⟨j1, j2⟩ := join_no (g := g) (mc := mc) (f := f) (N := N) (a := a) (b := b) (c := c) (d := d) (Or.inl n2)
    rw [j1, j2]
    unfold X11_joins_m
    rw [n1, if_pos (by decide)]
    exact SIM.no1 (by decide)
  rcases Fb.no hN8 with ⟨n1, n2⟩ | ⟨i2, v1, v2, v3, v4⟩
  · obtain ⟨j1, j2⟩ := join_no (g := g) (mc := mc) (f := f) (N := N) (a := a) (b := b) (c := c) (d := d) (Or.inr (Or.inl n2))
    rw [j1, j2]
    unfold X11_joins_m
    rw [u3, if_neg (nI_nneg (by omega)), n1, if_pos (by decide)]
    exact SIM.no1 (by decide)
  rcases Fc.no hN8 with ⟨n1, n2⟩ | ⟨i3, w1, w2, w3, w4⟩
  · obtain ⟨j1, j2⟩ := join_no (g := g) (mc := mc) (f := f) (N := N) (a := a) (b := b) (c := c) (d := d) (Or.inr (Or.inr (Or.inl n2)))
    rw [j1, j2]
    unfold X11_joins_m
    rw [u3, if_neg (nI_nneg (by omega)), v3, if_neg (nI_nneg (by omega)), n1, if_pos (by decide)]
    exact SIM.no1 (by decide)
  rcases Fd.no hN8 with ⟨n1, n2⟩ | ⟨i4, x1, x2, x3, x4⟩
  · obtain ⟨j1, j2⟩ := join_no (g := g) (mc := mc) (f := f) (N := N) (a := a) (b := b) (c := c) (d := d) (Or.inr (Or.inr (Or.inr n2)))
    rw [j1, j2]
    unfold X11_joins_m
    rw [u3, if_neg (nI_nneg (by omega)), v3, if_neg (nI_nneg (by omega)), w3, if_neg (nI_nneg (by omega)), n1, if_neg (by decide)]
    exact SIM.no1 (by decide)
  unfold X3_join_m X3_join_r X11_joins_m X11_joins_r
  rw [u2, v2, w2, x2, u3, v3, w3, x3]
  simp only
  rw [if_neg (nI_nneg (by omega)), if_neg (nI_nneg (by omega)), if_neg (nI_nneg (by omega)), if_neg (nI_nneg (by omega)), if_neg (nI_nneg (by omega)), if_neg (nI_nneg (by omega)), if_pos (nI_pos' (by omega)), if_pos (nI_pos' (by omega))]
  have P1 := hF.2.2.1 i1 u1
  have P2 := hF.2.2.1 i2 v1
  have P3 := hF.2.2.1 i3 w1
  have P4 := hF.2.2.1 i4 x1
  rw [P1.2.1, P2.2.1, P3.2.1, P4.2.1, rdy_eq hd P1 (by omega), rdy_eq hd P2 (by omega), rdy_eq hd P3 (by omega), rdy_eq hd P4 (by omega)]
  rw [nI_clamp (show i1 < 2 ^ 31 by omega), nI_clamp (show i2 < 2 ^ 31 by omega), nI_clamp (show i3 < 2 ^ 31 by omega), nI_clamp (show i4 < 2 ^ 31 by omega)]
  by_cases c1 : gA mr (r + 1) (8 * i1 + 14) = 98
  rotate_left
  · rw [if_neg c1, if_neg c1, if_neg c1, if_neg c1]
    exact SIM.no3 (by decide)
  rw [if_pos c1, if_pos c1, if_pos c1, if_pos c1]
  by_cases c2 : gA mr (r + 1) (8 * i2 + 14) = 110
  rotate_left
  · rw [if_neg c2, if_neg c2, if_neg c2, if_neg c2]
    exact SIM.no3 (by decide)
  rw [if_pos c2, if_pos c2, if_pos c2, if_pos c2]
  by_cases c3 : gA mr (r + 1) (8 * i3 + 14) = 119
  rotate_left
  · rw [if_neg c3, if_neg c3, if_neg c3, if_neg c3]
    exact SIM.no3 (by decide)
  rw [if_pos c3, if_pos c3, if_pos c3, if_pos c3]
  by_cases c4 : gA mr (r + 1) (8 * i4 + 14) = 119
  rotate_left
  · rw [if_neg c4, if_neg c4, if_neg c4, if_neg c4]
    exact SIM.no3 (by decide)
  rw [if_pos c4, if_pos c4, if_pos c4, if_pos c4]
  by_cases c5 : i3 = i4
  · rw [if_pos (by rw [c5]), if_pos (by rw [c5]), if_pos (by rw [c5]), if_pos (by rw [c5])]
    exact SIM.no3 (by decide)
  have e5 : ¬ some (pa mc f i3) = some (pa mc f i4) := fun q => c5 (hF.1.inj (by omega) (by omega) (Option.some.inj q))
  have e6 : ¬ nI i3 = nI i4 := fun q => c5 ((nI_eq (by omega) (by omega)).mp q)
  rw [if_neg e5, if_neg e5, if_neg e6, if_neg e6]
  by_cases c6 : X11_isReady_r g mr r (nI i1) = 0
  · rw [if_pos c6, if_pos c6, if_pos c6, if_pos c6]
    exact SIM.no4 (by decide)
  rw [if_neg c6, if_neg c6, if_neg c6, if_neg c6]
  by_cases c7 : X11_isReady_r g mr r (nI i2) = 0
  · rw [if_pos c7, if_pos c7, if_pos c7, if_pos c7]
    exact SIM.no4 (by decide)
  rw [if_neg c7, if_neg c7, if_neg c7, if_neg c7]
  by_cases c8 : X11_isReady_r g mr r (nI i3) = 0
  · rw [if_pos c8, if_pos c8, if_pos c8, if_pos c8]
    exact SIM.no4 (by decide)
  rw [if_neg c8, if_neg c8, if_neg c8, if_neg c8]
  by_cases c9 : X11_isReady_r g mr r (nI i4) = 0
  · rw [if_pos c9, if_pos c9, if_pos c9, if_pos c9]
    exact SIM.no4 (by decide)
  rw [if_neg c9, if_neg c9, if_neg c9, if_neg c9]
  have asc := hV.2.2.1
  have nab : b ≠ a := fun e => by
    have h1 : i1 = i2 := by
      rcases Nat.lt_trichotomy i1 i2 with q | q | q
      · have := asc i1 i2 q v1
        rw [u4, v4, e] at this
        omega
      · exact q
      · have := asc i2 i1 q u1
        rw [u4, v4, e] at this
        omega
    rw [h1, c2] at c1
    exact absurd c1 (by decide)
  have nac : c ≠ a := fun e => by
    have h1 : i1 = i3 := by
      rcases Nat.lt_trichotomy i1 i3 with q | q | q
      · have := asc i1 i3 q w1
        rw [u4, w4, e] at this
        omega
      · exact q
      · have := asc i3 i1 q u1
        rw [u4, w4, e] at this
        omega
    rw [h1, c3] at c1
    exact absurd c1 (by decide)
  have nad : d ≠ a := fun e => by
    have h1 : i1 = i4 := by
      rcases Nat.lt_trichotomy i1 i4 with q | q | q
      · have := asc i1 i4 q x1
        rw [u4, x4, e] at this
        omega
      · exact q
      · have := asc i4 i1 q u1
        rw [u4, x4, e] at this
        omega
    rw [h1, c4] at c1
    exact absurd c1 (by decide)
  have nbc : c ≠ b := fun e => by
    have h1 : i2 = i3 := by
      rcases Nat.lt_trichotomy i2 i3 with q | q | q
      · have := asc i2 i3 q w1
        rw [v4, w4, e] at this
        omega
      · exact q
      · have := asc i3 i2 q v1
        rw [v4, w4, e] at this
        omega
    rw [h1, c3] at c2
    exact absurd c2 (by decide)
  have nbd : d ≠ b := fun e => by
    have h1 : i2 = i4 := by
      rcases Nat.lt_trichotomy i2 i4 with q | q | q
      · have := asc i2 i4 q x1
        rw [v4, x4, e] at this
        omega
      · exact q
      · have := asc i4 i2 q v1
        rw [v4, x4, e] at this
        omega
    rw [h1, c4] at c2
    exact absurd c2 (by decide)
  have ncd : d ≠ c := fun e => by
    rcases Nat.lt_trichotomy i3 i4 with q | q | q
    · have := asc i3 i4 q x1
      rw [w4, x4, e] at this
      omega
    · exact c5 q
    · have := asc i4 i3 q w1
      rw [w4, x4, e] at this
      omega
  obtain ⟨G1, t1⟩ := go_of hF hV u1 u4
  have kb1 : ∀ k q, k ≠ 163 → gI (X3_remove_m g mc f a N) k q = gI mc k q := fun k q h => kI_X3_remove g mc f a N k q h
  generalize X3_remove_m g mc f a N = m1 at G1 kb1 ⊢
  generalize X11_goes_m g mr r (nI i1) = r1 at G1 t1 ⊢
  obtain ⟨y2, z1, z2, z3⟩ := go_next (T1 := T) G1 v1 v4 nab
  obtain ⟨yc, zc, zd⟩ := G1.2.2.2.1 i3 w1 (by rw [w4]; exact nac)
  obtain ⟨yd, ze, zf⟩ := G1.2.2.2.1 i4 x1 (by rw [x4]; exact nad)
  rw [w4] at zd
  rw [x4] at zf
  rw [G1.2.2.1, nI_clamp (show N - 1 < 2 ^ 31 by omega), z2]
  obtain ⟨G2, t2⟩ := go_of G1.1 G1.2.1 z1 z3
  have kb2 : ∀ k q, k ≠ 163 → gI (X3_remove_m g m1 f b (N - 1)) k q = gI m1 k q := fun k q h => kI_X3_remove g m1 f b (N - 1) k q h
  generalize X3_remove_m g m1 f b (N - 1) = m2 at G2 kb2 ⊢
  generalize X11_goes_m g r1 r (nI y2) = r2 at G2 t2 ⊢
  obtain ⟨y3, z4, z5, z6⟩ := go_next (T1 := T) G2 zc zd nbc
  obtain ⟨ye, zg, zh⟩ := G2.2.2.2.1 yd ze (by rw [zf]; exact nbd)
  rw [zf] at zh
  rw [G2.2.2.1, nI_clamp (show N - 1 - 1 < 2 ^ 31 by omega), show N - 2 = N - 1 - 1 by omega, z5]
  obtain ⟨G3, t3⟩ := go_of G2.1 G2.2.1 z4 z6
  have kb3 : ∀ k q, k ≠ 163 → gI (X3_remove_m g m2 f c (N - 1 - 1)) k q = gI m2 k q := fun k q h => kI_X3_remove g m2 f c (N - 1 - 1) k q h
  generalize X3_remove_m g m2 f c (N - 1 - 1) = m3 at G3 kb3 ⊢
  generalize X11_goes_m g r2 r (nI y3) = r3 at G3 t3 ⊢
  obtain ⟨y4, z7, z8, z9⟩ := go_next (T1 := T) G3 zg zh ncd
  rw [G3.2.2.1, nI_clamp (show N - 1 - 1 - 1 < 2 ^ 31 by omega), show N - 3 = N - 1 - 1 - 1 by omega, z8]
  obtain ⟨G4, t4⟩ := go_of G3.1 G3.2.1 z7 z9
  generalize X3_remove_m g m3 f d (N - 1 - 1 - 1) = m4 at G4 ⊢
  generalize X11_goes_m g r3 r (nI y4) = r4 at G4 t4 ⊢
  obtain ⟨FF, VV, -, -, -⟩ := G4
  have sb := FF.2.1
  obtain ⟨s1, s2, s3, s4, s5, s6, s7, s8, s9, s10, s11, s12, s13⟩ := sb
  obtain ⟨o1, o2, o3, o4, o5, o6, o7, o8, o9, o10, o11, o12, o13, o14, o15, o16, o17⟩ := VV.1
  have t8 : (gA r4 (r + 1) 8 + 1).toInt = (gA r4 (r + 1) 8).toInt + 1 := by
    rw [Kit.i32_add (by simp only [tl]; omega) (by simp only [tl]; omega)]
    simp only [tl]
  rw [s9]
  refine SIM.ok (N := N - 1 - 1 - 1 - 1) (H := H) (by omega) rfl ?_ ?_ ?_
  · show gI (sA r4 (r + 1) 8 _) 384 r = 0
    have e : gI (sA r4 (r + 1) 8 (gA r4 (r + 1) 8 + 1)) = gI r4 := rfl
    rw [e, t4, t3, t2, t1, h0]
  · rw [gA_same]
    refine FF.sc rfl (fun k => rfl) (fun q h1 h2 => mS_I h1) (fun k hk => un (by omega)) ?_
    unfold FS
    rw [ui rfl, un (show 0 ≠ 8 by omega), un (show 1 ≠ 8 by omega), un (show 2 ≠ 8 by omega), un (show 3 ≠ 8 by omega), un (show 4 ≠ 8 by omega), un (show 5 ≠ 8 by omega), un (show 6 ≠ 8 by omega), un (show 7 ≠ 8 by omega), un (show 9 ≠ 8 by omega), un (show 10 ≠ 8 by omega), un (show 11 ≠ 8 by omega), un (show 12 ≠ 8 by omega)]
    refine ⟨?_, ?_, ?_, ?_, ?_, ?_, ?_, ?_, ?_, ?_, ?_, ?_, ?_⟩
    all_goals simp [mm, *]
  · rw [gA_same]
    refine VV.sc (fun k hk => un (by omega)) (by rw [un (by omega)]; exact Int.le_refl _) ?_
    unfold SV
    rw [ui rfl, un (show 1 ≠ 8 by omega), un (show 2 ≠ 8 by omega), un (show 3 ≠ 8 by omega), un (show 4 ≠ 8 by omega), un (show 5 ≠ 8 by omega), un (show 6 ≠ 8 by omega), un (show 9 ≠ 8 by omega), un (show 10 ≠ 8 by omega), t8]
    refine ⟨o1, o2, o3, o4, o5, o6, o7, o8, o9, ?_⟩
    omega
end
