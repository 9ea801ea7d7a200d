/-! RANKS -/
section
variable {g : mG} {mc mr m m1 mr1 : mM} {b r T N H c f i : Nat}
theorem nz1 : ¬ (1 : Int32) = 0 := by decide
theorem hh_l {f : Nat} (hR : ∀ i, i < H → HR mc (f + 12 + i) (gA m (r + 1)) i) (hV : ∀ i, i < H → HV (gA m (r + 1)) i) (hH : H ≤ 4) : ∀ (n j : Nat) (s : Int32), (s = -1 ∨ ∃ k, k < j ∧ s = nI k) → j + n = H → (X11_heaviestHammer_l1 g r H n j s m) = (if 0 ≤ X3_bestHammer_l1 g mc f H n j s then (X3_bestHammer_l1 g mc f H n j s, sI m 384 r 0) else (0, sI m 384 r 1)) ∧ (X3_bestHammer_l1 g mc f H n j s = -1 ∨ ∃ k, k < 4 ∧ X3_bestHammer_l1 g mc f H n j s = nI k)
  | 0, j, s, hs, hj => by
    rw [X11_heaviestHammer_l1, X3_bestHammer_l1]
    exact ⟨rfl, hs.imp id (fun ⟨k, h1, h2⟩ => ⟨k, by omega, h2⟩)⟩
  | n + 1, j, s, hs, hj => by
    rw [X11_heaviestHammer_l1, X3_bestHammer_l1]
    have ihs := hh_l hR hV hH n (j + 1) s (hs.imp id (fun ⟨k, h1, h2⟩ => ⟨k, by omega, h2⟩)) (by omega)
    have ihj := hh_l hR hV hH n (j + 1) (nI j) (Or.inr ⟨j, by omega, rfl⟩) (by omega)
    have wj : X11_worn_r g m r (nI j) = gA m (r + 1) (2 * j + 78) := by
      unfold X11_worn_r
      rw [nI_clamp (by omega)]
    have hj1 : X11_weighs_r g m r (nI j) = gA m (r + 1) (2 * j + 77) := by
      unfold X11_weighs_r
      rw [nI_clamp (by omega)]
    have rj := hR j (by omega)
    have vj := (hV j (by omega)).2.2
    have wo : X5_isWornOut_r g mc (f + 12 + j) = if gA m (r + 1) (2 * j + 78) = 20 then 1 else 0 := by
      unfold X5_isWornOut_r
      rw [rj.2]
      by_cases c : gA m (r + 1) (2 * j + 78) = 20
      · rw [if_pos c, c, if_neg (by decide)]
      · rw [if_neg c]
        rw [ti.2.2] at c
        simp only [tl] at c
        rw [if_pos (by rw [ti.1]; simp only [tl]; omega)]
    rw [wj, hj1, wo]
    by_cases c : gA m (r + 1) (2 * j + 78) = 20
    · rw [if_pos c, if_pos c, if_neg nz1]
      exact ihs
    · rw [if_neg c, if_neg c, if_pos rfl]
      rcases hs with rfl | ⟨k, hk, rfl⟩
      · rw [if_pos n10, if_pos rfl]
        exact ihj
      · rw [if_neg (nI_pos (by omega)), if_neg (nI_nm (by omega)), nI_clamp (show k < 2 ^ 31 by omega)]
        have wk : X11_worn_r g m r (nI k) = gA m (r + 1) (2 * k + 78) := by
          unfold X11_worn_r
          rw [nI_clamp (by omega)]
        have hk1 : X11_weighs_r g m r (nI k) = gA m (r + 1) (2 * k + 77) := by
          unfold X11_weighs_r
          rw [nI_clamp (by omega)]
        have rk := hR k (by omega)
        rw [wk, hk1]
        unfold X5_isBetterThan_r
        rw [rj.1, rj.2, rk.1, rk.2]
        by_cases q : gA m (r + 1) (2 * j + 77) = gA m (r + 1) (2 * k + 77)
        · have q1 : ¬ gA m (r + 1) (2 * k + 77) < gA m (r + 1) (2 * j + 77) := by
            rw [q]
            exact Int32.lt_irrefl
          rw [if_neg q1, if_pos q, if_pos q]
          by_cases q2 : gA m (r + 1) (2 * k + 78) ≤ gA m (r + 1) (2 * j + 78)
          · rw [if_pos q2, if_pos q2, if_pos rfl]
            exact ihs
          · rw [if_neg q2, if_neg q2, if_neg nz1]
            exact ihj
        · rw [if_neg q, if_neg q]
          by_cases q1 : gA m (r + 1) (2 * k + 77) < gA m (r + 1) (2 * j + 77)
          · rw [if_pos q1, if_neg (Int32.not_le.mpr q1), if_neg nz1]
            exact ihj
          · rw [if_neg q1, if_pos (Int32.not_lt.mp q1), if_pos rfl]
            exact ihs
theorem q_heaviestHammer (h : OBJ g mc mr b r T) (F0 : FR g mc (b + 1) (gA mr (r + 1)) N H) (V0 : RV T (gA mr (r + 1)) N H) : CALL g b r T mc mr mc (X11_heaviestHammer_m g mr r H) [("java/util/NoSuchElementException", 1)] (X10_heaviestHammer_x g mc b H) (X10_heaviestHammer_r g mc b H = X11_heaviestHammer_r g mr r H) := by
  unfold X10_heaviestHammer_x X10_heaviestHammer_r X11_heaviestHammer_m X11_heaviestHammer_r
  obtain ⟨u1, u2⟩ := hh_l (g := g) F0.2.2.2.1 V0.2.2.2.1 F0.2.2.2.2.2 H 0 (-1) (Or.inl rfl) (by omega)
  rw [u1]
  unfold X3_bestHammer_r
  rcases u2 with u2 | ⟨k, hk, u2⟩
  · rw [u2, if_neg n01, if_pos rfl, if_pos rfl]
    exact CALL.qx h rfl
  · rw [u2, if_pos (nI_pos' (by omega)), if_neg (nI_nm (by omega)), if_neg (nI_nm (by omega))]
    exact CALL.q0 h rfl
theorem dif {x y : Int32} (h1 : 0 ≤ x.toInt) (h2 : x.toInt ≤ 1000) (h3 : 0 ≤ y.toInt) (h4 : y.toInt ≤ 1000) : (x - y = 0 ↔ x = y) ∧ (0 < x - y ↔ ¬ x ≤ y) := by
  have e : (x - y).toInt = x.toInt - y.toInt := Kit.i32_sub (by omega) (by omega)
  refine ⟨?_, ?_⟩
  · rw [ti.2.2, ti.2.2 x y, e]
    simp only [tl]
    omega
  · rw [ti.1, ti.2.1, e]
    simp only [tl]
    omega
theorem rank_l {f : Nat} {a : Int32} {q : Nat} (hp : ∀ i, i < N → PR g mc (pa mc f i) (gA m (r + 1)) i) (hV : RV T (gA m (r + 1)) N H) (hq : q < N) : ∀ (n j : Nat) (s : Int32), j + n = N → X11_pieceAtRank_l2 g m r a N n j q s = X3_rankOf_l1 g mc f (pa mc f q) N n j s
  | 0, j, s, hj => by rw [X11_pieceAtRank_l2, X3_rankOf_l1]
  | n + 1, j, s, hj => by
    have hN8 := hV.2.2.2.2.2.1
    rw [X11_pieceAtRank_l2, X3_rankOf_l1]
    have ih0 := rank_l (a := a) hp hV hq n (j + 1) s (by omega)
    have ih1 := rank_l (a := a) hp hV hq n (j + 1) (s + 1) (by omega)
    obtain ⟨a1, a2, a3, a4, a5, -⟩ := hp j (by omega)
    obtain ⟨b1, b2, b3, b4, b5, -⟩ := hp q hq
    obtain ⟨v1, v2, v3, v4, v5, v6, v7, v8, v9, -⟩ := hV.2.1 j (by omega)
    obtain ⟨x1, x2, x3, x4, x5, x6, x7, x8, x9, -⟩ := hV.2.1 q hq
    obtain ⟨d1, d2⟩ := dif (x := gA m (r + 1) (8 * j + 17)) (y := gA m (r + 1) (8 * q + 17)) v8 (by omega) x8 (by omega)
    obtain ⟨d3, d4⟩ := dif (x := gA m (r + 1) (8 * j + 16)) (y := gA m (r + 1) (8 * q + 16)) v6 (by omega) x6 (by omega)
    have hn : nI q ≤ nI j ↔ gA m (r + 1) (8 * q + 13) ≤ gA m (r + 1) (8 * j + 13) := by
      rw [ti.2.1, ti.2.1, nI_toInt (by omega), nI_toInt (by omega)]
      by_cases c : q < j
      · have := hV.2.2.1 q j c (by omega)
        omega
      · by_cases e : q = j
        · subst e
          omega
        · have := hV.2.2.1 j q (by omega) hq
          omega
    have z : s + 0 = s := Int32.add_zero s
    unfold X7_ranksBefore_r
    rw [a1, a4, a5, b1, b4, b5]
    simp only [d1, d2, d3, d4, hn, z]
    by_cases c1 : gA m (r + 1) (8 * j + 17) = gA m (r + 1) (8 * q + 17)
    · rw [if_pos c1, if_pos c1]
      by_cases c2 : gA m (r + 1) (8 * j + 16) = gA m (r + 1) (8 * q + 16)
      · rw [if_neg (by rw [c2]; exact fun z => z (Int32.le_refl _)), if_pos c2, if_pos c2]
        by_cases c3 : gA m (r + 1) (8 * q + 13) ≤ gA m (r + 1) (8 * j + 13)
        · rw [if_pos c3, if_pos c3, if_pos rfl]
          exact ih0
        · rw [if_neg c3, if_neg c3, if_neg nz1]
          exact ih1
      · rw [if_neg c2, if_neg c2]
        by_cases c3 : gA m (r + 1) (8 * j + 16) ≤ gA m (r + 1) (8 * q + 16)
        · rw [if_neg (fun z => z c3), if_pos c3, if_pos rfl]
          exact ih0
        · rw [if_pos c3, if_neg c3, if_neg nz1]
          exact ih1
    · rw [if_neg c1, if_neg c1, if_neg c1]
      by_cases c3 : gA m (r + 1) (8 * j + 17) ≤ gA m (r + 1) (8 * q + 17)
      · rw [if_neg (fun z => z c3), if_pos c3, if_pos rfl]
        exact ih0
      · rw [if_pos c3, if_neg c3, if_neg nz1]
        exact ih1
theorem pr_l {f : Nat} {a : Int32} (hp : ∀ i, i < N → PR g mc (pa mc f i) (gA m (r + 1)) i) (hV : RV T (gA m (r + 1)) N H) : ∀ (n j : Nat), j + n = N → (X3_pieceRanked_l1 g mc f a N n j = none ∧ X11_pieceAtRank_l1 g r a N n j m = (0, sI m 384 r 1)) ∨ ∃ p, X3_pieceRanked_l1 g mc f a N n j = some p ∧ X11_pieceAtRank_l1 g r a N n j m = (gI mc 288 p, m)
  | 0, j, hj => Or.inl ⟨by rw [X3_pieceRanked_l1], by rw [X11_pieceAtRank_l1]⟩
  | n + 1, j, hj => by
    rw [X11_pieceAtRank_l1, X3_pieceRanked_l1]
    have e : X11_pieceAtRank_l2a0 g m r a N j 0 = X3_rankOf_r g mc f (pa mc f j) N := rank_l (a := a) hp hV (by omega) N 0 0 (by omega)
    rw [e]
    by_cases c : X3_rankOf_r g mc f (pa mc f j) N = a
    · rw [if_pos c, if_pos c]
      exact Or.inr ⟨_, rfl, by rw [(hp j (by omega)).1]⟩
    · rw [if_neg c, if_neg c]
      exact pr_l hp hV n (j + 1) (by omega)
theorem sI_I {k a : Nat} {x y : Int32} : sI (sI m k a x) k a y = sI m k a y := by
  have e : ∀ F : Nat → Nat → Int32, m2 (m2 F k a x) k a y = m2 F k a y := fun F => by
    funext i j
    unfold m2
    by_cases c : i = k ∧ j = a
    · simp [c]
    · by_cases d : i = k
      · have : ¬ j = a := fun z => c ⟨d, z⟩
        simp [this]
      · simp [d]
  show (gN m, gK m, m2 (m2 (gI m) k a x) k a y, gJ m, gR m, gA m, gQ m, gL m, gD m) = _
  rw [e]
  rfl
theorem q_pieceAtRank (h : OBJ g mc mr b r T) (F0 : FR g mc (b + 1) (gA mr (r + 1)) N H) (V0 : RV T (gA mr (r + 1)) N H) (a : Int32) : CALL g b r T mc mr mc (X11_pieceAtRank_m g mr r a N) [("java/lang/IndexOutOfBoundsException", 1)] (X10_pieceAtRank_x g mc b a N) (X10_pieceAtRank_r g mc b a N = X11_pieceAtRank_r g mr r a N) := by
  unfold X10_pieceAtRank_x X10_pieceAtRank_r X11_pieceAtRank_m X11_pieceAtRank_r
  have eA : gA (sI mr 384 r 0) = gA mr := by simp only [mm]
  have ee : sI (sI mr 384 r 0) 384 r 1 = sI mr 384 r 1 := by
    exact sI_I
  unfold X3_pieceRanked_r
  rcases pr_l (g := g) (mc := mc) (m := sI mr 384 r 0) (r := r) (f := b + 1) (a := a) (by rw [eA]; exact F0.2.2.1) (by rw [eA]; exact V0) N 0 (by omega) with ⟨h1, h2⟩ | ⟨p, h1, h2⟩
  · rw [h1, h2]
    show CALL g b r T mc mr mc (sI (sI mr 384 r 0) 384 r 1) _ _ _
    rw [ee]
    exact CALL.qx h rfl
  · rw [h1, h2]
    exact CALL.q0 h rfl
end
