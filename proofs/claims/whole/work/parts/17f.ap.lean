section
variable {m m1 : mM} {a ci ky t n i : Nat}
theorem KF.k (h : KF m m1) (hk : gK m a = some (.inl ci)) (hc : ci ≠ 1) : gK m1 a = some (.inl ci) := (h.2 a _ hk (fun _ q => by cases q) (fun q => hc (Sum.inl.inj q))).1
theorem KF.ka (h : KF m m1) (hk : gK m a = some (.inr (t, n))) (hc : t ≠ 2) : gK m1 a = some (.inr (t, n)) := (h.2 a _ hk (fun _ q => hc (Prod.mk.inj (Sum.inr.inj q)).1) (fun q => by cases q)).1
theorem KF.s (h : KF m m1) (hk : gK m a = some (.inl ci)) (hc : ci ≠ 1) : mS m m1 a := (h.2 a _ hk (fun _ q => by cases q) (fun q => hc (Sum.inl.inj q))).2
theorem KF.sa (h : KF m m1) (hk : gK m a = some (.inr (t, n))) (hc : t ≠ 2) : mS m m1 a := (h.2 a _ hk (fun _ q => hc (Prod.mk.inj (Sum.inr.inj q)).1) (fun q => by cases q)).2
theorem KF.I (h : KF m m1) (hk : gK m a = some (.inl ci)) (hc : ci ≠ 1) : gI m1 ky a = gI m ky a := (h.s hk hc).1 ky
theorem KF.R (h : KF m m1) (hk : gK m a = some (.inl ci)) (hc : ci ≠ 1) : gR m1 ky a = gR m ky a := (h.s hk hc).2.2.1 ky
theorem KF.Q (h : KF m m1) (hk : gK m a = some (.inr (t, n))) (hc : t ≠ 2) : gQ m1 a = gQ m a := (h.sa hk hc).2.2.2.2.1
theorem SF.kf {f : Nat} (s : SF m f) (h : KF m m1) : SF m1 f := by
  have e : ∀ i, i < 8 → pa m1 f i = pa m f i := fun i _ => by unfold pa; rw [h.Q s.k2 (by decide)]
  refine ⟨h.k s.k (by decide), by rw [h.R s.k (by decide)]; exact s.r0, by rw [h.R s.k (by decide)]; exact s.r1, by rw [h.R s.k (by decide)]; exact s.r2, h.k s.k1 (by decide), h.ka s.k2 (by decide), h.ka s.k3 (by decide), fun i hi => h.k (s.2.2.2.2.2.2.2.1 i hi) (by decide), fun i hi => h.k (s.kh hi) (by decide), fun i hi => by rw [h.Q s.k3 (by decide)]; exact s.qh hi, fun i hi => ?_, fun i j hi hj q => ?_⟩
  · rw [e i hi, h.Q s.k2 (by decide)]
    exact ⟨s.qp hi, s.lo hi, s.hi hi⟩
  · rw [e i hi, e j hj] at q
    exact s.inj hi hj q
/-- bytes of a StringBuilder change: the rest stays -/
theorem KF.sbI {sb : Nat} {x : Int32} (hs : gK m sb = some (.inl 1)) : KF m (sI m ky sb x) := ⟨Nat.le_refl _, fun b kd e1 e2 e3 => ⟨e1, mS_I (fun q => by rw [q, hs] at e1; exact e3 (Option.some.inj e1).symm)⟩⟩
theorem KF.sbA {v j : Nat} {x : Int32} (hs : gK m v = some (.inr (2, n))) : KF m (sA m v j x) := ⟨Nat.le_refl _, fun b kd e1 e2 e3 => ⟨e1, mS_A (fun q => by rw [q, hs] at e1; exact e2 n (Option.some.inj e1).symm)⟩⟩
end
/-- a StringBuilder in the memory -/
def SLo (m : mM) (sb : Nat) : Prop := SL m sb (vaO m sb) (caO m sb) (cnO m sb)
def apC (g : mG) (m : mM) (sb : Nat) (a : Int32) : mM := J4_append_cf468_m g m sb a (vaO m sb) (caO m sb) (cnO m sb)
def apI (g : mG) (m : mM) (sb n : Nat) : mM := J4_append_bf812_m g m sb n (vaO m sb) (caO m sb) (cnO m sb)
/-- the i-th byte -/
def byO (m : mM) (sb i : Nat) : Int32 := gA m (vaO m sb) i
theorem apC_ok {g : mG} {m : mM} {sb : Nat} {a : Int32} (s : SLo m sb) (hF : mF m) (hc : cnO m sb ≤ 60) : SLo (apC g m sb a) sb ∧ cnO (apC g m sb a) sb = cnO m sb + 1 ∧ KF m (apC g m sb a) ∧ (∀ i, i < cnO m sb → byO (apC g m sb a) sb i = byO m sb i) ∧ byO (apC g m sb a) sb (cnO m sb) = a.toInt8.toInt32 := by
  have e1 := ens_SL (g := g) (k := cnO m sb + 1) s hF (by omega) (by have := s.le; omega)
  unfold apC J4_append_cf468_m J5_append_3fe6f_m
  generalize hE : J5_ensureCapacityInternal_d00df_m g m sb (cnO m sb + 1) (vaO m sb) (caO m sb) (cnO m sb) = E at e1 ⊢
  obtain ⟨q1, q2, q3, q4⟩ := e1
  have s2 : SL (sA (sI E 35 sb (nI (cnO m sb + 1))) (vaO E sb) (cnO m sb) a.toInt8.toInt32) sb (vaO E sb) (caO E sb) (cnO m sb + 1) := by
    refine ⟨q1.k, q1.r, q1.kv, ?_, ?_, q2, ⟨q1.lo, q1.hi⟩, fun i => ?_⟩
    · simp [mm, q1.cd]
    · simp [mm]
    · simp only [mm]
      split
      · exact fit_b a
      · exact q1.ft i
  refine ⟨?_, s2.cn, q3.tr ((KF.sbI q1.k).tr (KF.sbA q1.kv)), fun i hi => ?_, ?_⟩
  · unfold SLo
    rw [s2.va, s2.ca, s2.cn]
    exact s2
  · unfold byO
    rw [s2.va]
    simp only [mm]
    rw [if_neg (fun q => by omega)]
    exact q4 i hi
  · unfold byO
    rw [s2.va]
    simp [mm]
/-- the t-th digit from the left -/
def dgt (n t : Nat) : Int32 := nI (48 + n / 10 ^ (digs n - 1 - t) % 10)
theorem gc_ok {g : mG} {m : mM} {n c v cap : Nat} (hn : n < 10000) : (∀ i, gA (J6_getChars_ba4f3_m g m n (c + digs n) v cap) v i = if c ≤ i ∧ i < c + digs n then dgt n (i - c) else gA m v i) ∧ (gK m v = some (.inr (2, cap)) → KF m (J6_getChars_ba4f3_m g m n (c + digs n) v cap)) ∧ gR (J6_getChars_ba4f3_m g m n (c + digs n) v cap) = gR m ∧ gI (J6_getChars_ba4f3_m g m n (c + digs n) v cap) = gI m := by
  have hd := digs_le n
  unfold J6_getChars_ba4f3_m
  by_cases h1 : n < 10
  · have e : digs n = 1 := by unfold digs; rw [if_pos h1]
    rw [if_pos ((neg_lt (k := 100) (by omega) (by decide)).mpr (by omega)), if_pos ((neg_ge (k := 9) (by omega) (by decide)).mpr (by omega)), e]
    refine ⟨fun i => ?_, fun hk => KF.sbA hk, rfl, rfl⟩
    unfold dgt d1V
    rw [e]
    simp only [mm, true_and]
    by_cases q : c ≤ i ∧ i < c + 1
    · have q2 : i = c := by omega
      subst q2
      repeat (first | rw [if_pos (by omega)] | rw [if_neg (by omega)])
      simp only [Nat.sub_self, Nat.add_sub_cancel_left, Nat.reduceSub, Nat.reducePow]
      first | done | exact congrArg nI (by omega)
    · repeat (first | rw [if_pos (by omega)] | rw [if_neg (by omega)])
  · by_cases h2 : n < 100
    · have e : digs n = 2 := by unfold digs; rw [if_neg h1, if_pos h2]
      rw [if_pos ((neg_lt (k := 100) (by omega) (by decide)).mpr (by omega)), if_neg (fun q => by have := (neg_ge (k := 9) (by omega) (by decide)).mp q; omega), e]
      refine ⟨fun i => ?_, fun hk => (KF.sbA hk).tr (KF.sbA hk), rfl, rfl⟩
      unfold dgt d1V d2V
      rw [e]
      simp only [mm, true_and]
      by_cases q : c ≤ i ∧ i < c + 2
      · have q2 : i = c ∨ i = c + 1 := by omega
        rcases q2 with q2 | q2
        · subst q2
          repeat (first | rw [if_pos (by omega)] | rw [if_neg (by omega)])
          simp only [Nat.sub_self, Nat.add_sub_cancel_left, Nat.reduceSub, Nat.reducePow]
          first | done | exact congrArg nI (by omega)
        · subst q2
          repeat (first | rw [if_pos (by omega)] | rw [if_neg (by omega)])
          simp only [Nat.sub_self, Nat.add_sub_cancel_left, Nat.reduceSub, Nat.reducePow]
          first | done | exact congrArg nI (by omega)
      · repeat (first | rw [if_pos (by omega)] | rw [if_neg (by omega)])
    · by_cases h3 : n < 1000
      · have e : digs n = 3 := by unfold digs; rw [if_neg h1, if_neg h2, if_pos h3]
        rw [if_neg (fun q => by have := (neg_lt (k := 100) (by omega) (by decide)).mp q; omega), if_pos ((neg_ge (k := 9) (by omega) (by decide)).mpr (by omega)), e]
        refine ⟨fun i => ?_, fun hk => ((KF.sbA hk).tr (KF.sbA hk)).tr (KF.sbA hk), rfl, rfl⟩
        unfold dgt d1V d2V
        rw [e]
        simp only [mm, true_and]
        by_cases q : c ≤ i ∧ i < c + 3
        · have q2 : i = c ∨ i = c + 1 ∨ i = c + 2 := by omega
          rcases q2 with q2 | q2 | q2
          · subst q2
            repeat (first | rw [if_pos (by omega)] | rw [if_neg (by omega)])
            simp only [Nat.sub_self, Nat.add_sub_cancel_left, Nat.reduceSub, Nat.reducePow]
            first | done | exact congrArg nI (by omega)
          · subst q2
            repeat (first | rw [if_pos (by omega)] | rw [if_neg (by omega)])
            simp only [Nat.sub_self, Nat.add_sub_cancel_left, Nat.reduceSub, Nat.reducePow]
            first | done | exact congrArg nI (by omega)
          · subst q2
            repeat (first | rw [if_pos (by omega)] | rw [if_neg (by omega)])
            simp only [Nat.sub_self, Nat.add_sub_cancel_left, Nat.reduceSub, Nat.reducePow]
            first | done | exact congrArg nI (by omega)
        · repeat (first | rw [if_pos (by omega)] | rw [if_neg (by omega)])
      · have e : digs n = 4 := by unfold digs; rw [if_neg h1, if_neg h2, if_neg h3]
        rw [if_neg (fun q => by have := (neg_lt (k := 100) (by omega) (by decide)).mp q; omega), if_neg (fun q => by have := (neg_ge (k := 9) (by omega) (by decide)).mp q; omega), e]
        refine ⟨fun i => ?_, fun hk => (((KF.sbA hk).tr (KF.sbA hk)).tr (KF.sbA hk)).tr (KF.sbA hk), rfl, rfl⟩
        unfold dgt d1V d2V
        rw [e]
        simp only [mm, true_and]
        by_cases q : c ≤ i ∧ i < c + 4
        · have q2 : i = c ∨ i = c + 1 ∨ i = c + 2 ∨ i = c + 3 := by omega
          rcases q2 with q2 | q2 | q2 | q2
          · subst q2
            repeat (first | rw [if_pos (by omega)] | rw [if_neg (by omega)])
            simp only [Nat.sub_self, Nat.add_sub_cancel_left, Nat.reduceSub, Nat.reducePow]
            first | done | exact congrArg nI (by omega)
          · subst q2
            repeat (first | rw [if_pos (by omega)] | rw [if_neg (by omega)])
            simp only [Nat.sub_self, Nat.add_sub_cancel_left, Nat.reduceSub, Nat.reducePow]
            first | done | exact congrArg nI (by omega)
          · subst q2
            repeat (first | rw [if_pos (by omega)] | rw [if_neg (by omega)])
            simp only [Nat.sub_self, Nat.add_sub_cancel_left, Nat.reduceSub, Nat.reducePow]
            first | done | exact congrArg nI (by omega)
          · subst q2
            repeat (first | rw [if_pos (by omega)] | rw [if_neg (by omega)])
            simp only [Nat.sub_self, Nat.add_sub_cancel_left, Nat.reduceSub, Nat.reducePow]
            first | done | exact congrArg nI (by omega)
        · repeat (first | rw [if_pos (by omega)] | rw [if_neg (by omega)])
theorem fit_dg (n t : Nat) : fits .byte (.int (dgt n t)) = true := by
  have h : ∀ k : Fin 10, fits .byte (.int (nI (48 + k.1))) = true := by decide
  exact h ⟨n / 10 ^ (digs n - 1 - t) % 10, Nat.mod_lt _ (by decide)⟩
theorem apI_ok {g : mG} {m : mM} {sb n : Nat} (s : SLo m sb) (hF : mF m) (hc : cnO m sb ≤ 60) (hn : n < 10000) : SLo (apI g m sb n) sb ∧ cnO (apI g m sb n) sb = cnO m sb + digs n ∧ KF m (apI g m sb n) ∧ (∀ i, i < cnO m sb → byO (apI g m sb n) sb i = byO m sb i) ∧ (∀ i, i < digs n → byO (apI g m sb n) sb (cnO m sb + i) = dgt n i) := by
  have hd := digs_le n
  have e1 := ens_SL (g := g) (k := cnO m sb + digs n) s hF (by omega) (by have := s.le; have := s.lo; omega)
  unfold apI J4_append_bf812_m J5_append_c97b9_m
  generalize hE : J5_ensureCapacityInternal_d00df_m g m sb (cnO m sb + digs n) (vaO m sb) (caO m sb) (cnO m sb) = E at e1 ⊢
  obtain ⟨q1, q2, q3, q4⟩ := e1
  obtain ⟨w1, w2, w3, w4⟩ := gc_ok (g := g) (m := E) (c := cnO m sb) (v := vaO E sb) (cap := caO E sb) hn
  have w5 := w2 q1.kv
  have w6 : gK (J6_getChars_ba4f3_m g E n (cnO m sb + digs n) (vaO E sb) (caO E sb)) = gK E := gc_K
  generalize J6_getChars_ba4f3_m g E n (cnO m sb + digs n) (vaO E sb) (caO E sb) = W at w1 w3 w4 w5 w6 ⊢
  have s2 : SL (sI W 35 sb (nI (cnO m sb + digs n))) sb (vaO E sb) (caO E sb) (cnO m sb + digs n) := by
    refine ⟨?_, ?_, ?_, ?_, ?_, q2, ⟨q1.lo, q1.hi⟩, fun i => ?_⟩
    · simp only [mm, w6]; exact q1.k
    · simp only [mm, w3]; exact q1.r
    · simp only [mm, w6]; exact q1.kv
    · simp [mm, w4, q1.cd]
    · simp [mm]
    · simp only [mm]
      rw [w1]
      split
      · exact fit_dg _ _
      · exact q1.ft i
  refine ⟨?_, s2.cn, (q3.tr w5).tr (KF.sbI (by rw [w6]; exact q1.k)), fun i hi => ?_, fun i hi => ?_⟩
  · unfold SLo
    rw [s2.va, s2.ca, s2.cn]
    exact s2
  · unfold byO
    rw [s2.va]
    simp only [mm]
    rw [w1, if_neg (by omega)]
    exact q4 i hi
  · unfold byO
    rw [s2.va]
    simp only [mm]
    rw [w1, if_pos (by omega), Nat.add_sub_cancel_left]

