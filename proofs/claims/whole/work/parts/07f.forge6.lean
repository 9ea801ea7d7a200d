theorem pa_swap {m : mM} {f j k i : Nat} (hj : j < 8) (hk : k < 8) : pa (sQ (sQ m (f + 2) j (some (pa m f k))) (f + 2) k (some (pa m f j))) f i = if i = k then pa m f j else if i = j then pa m f k else pa m f i := by
  unfold pa
  by_cases h1 : i = k
  · simp [mm, h1]
  · by_cases h2 : i = j
    · simp [mm, h1, h2]
      by_cases h3 : j = k
      · simp [h3]
      · simp [h3]
    · simp [mm, h1, h2]
theorem SF_swap {m : mM} {f j k : Nat} (h : SF m f) (hj : j < 8) (hk : k < 8) : SF (sQ (sQ m (f + 2) j (some (pa m f k))) (f + 2) k (some (pa m f j))) f := by
  have hpa := fun i => pa_swap (m := m) (f := f) (i := i) hj hk
  refine ⟨h.k, h.r0, h.r1, h.r2, h.k1, h.k2, h.k3, fun i hi => h.2.2.2.2.2.2.2.1 i hi, fun i hi => h.kh hi, fun i hi => ?_, fun i hi => ?_, fun i i' hi hi' e => ?_⟩
  · simp [mm, h.qh hi]
  · rw [hpa i]
    by_cases h1 : i = k
    · rw [if_pos h1]
      exact ⟨by simp [mm, h1], h.lo hj, h.hi hj⟩
    · rw [if_neg h1]
      by_cases h2 : i = j
      · rw [if_pos h2]
        refine ⟨?_, h.lo hk, h.hi hk⟩
        subst h2
        simp [mm, h1]
      · rw [if_neg h2]
        exact ⟨by simp [mm, h1, h2, h.qp hi], h.lo hi, h.hi hi⟩
  · have hs9 : ∀ i, pa (sQ (sQ m (f + 2) j (some (pa m f k))) (f + 2) k (some (pa m f j))) f i = pa m f (if i = k then j else if i = j then k else i) := by
      intro i
      rw [hpa i]
      by_cases h1 : i = k
      · rw [if_pos h1, if_pos h1]
      · rw [if_neg h1, if_neg h1]
        by_cases h2 : i = j
        · rw [if_pos h2, if_pos h2]
        · rw [if_neg h2, if_neg h2]
    rw [hs9 i, hs9 i'] at e
    have h9 := h.inj (by split <;> (try split) <;> omega) (by split <;> (try split) <;> omega) e
    split at h9 <;> (try split at h9) <;> (try split at h9) <;> (try split at h9) <;> omega
def X3_remove_l1 (g : mG) (f : Nat) (a : Int32) (N : Nat) : Nat → Nat → Nat → mM → mM
  | 0, j, kp, m => (sI m 163 f (nI kp))
  | n + 1, j, kp, m => if (gI m 288 (pa m f j)) = a then (X3_remove_l1 g f a N n (j + 1) kp m) else (X3_remove_l1 g f a N n (j + 1) (kp + 1) ((sQ (sQ m (f + 2) j (some (pa m f kp))) (f + 2) kp (some (pa m f j)))))
set_option maxHeartbeats 4000000 in
set_option maxRecDepth 100000 in
theorem lp_X3_remove_l1 {l : Launch} {g : mG} {x : mCx} (hO : mO l g) (f : Nat) (a : Int32) (N : Nat) (hN8 : N ≤ 8) {pst : Option Value → mM → Prop} {XX : String → mM → Prop} (hX : mX l g x cX3_remove yX3_remove { frames := 1, cells := 0, slots := 0, locals := 20 } 5) (hZ : mZ g x (Option.none : Option FieldType) [] pst XX 0 0) : ∀ (n j : Nat) (kp : Nat) (m : mM) (hs : SF m f) (hN : gI m 163 f = nI N) (hkj : kp ≤ j) (hj : j + n = N) (hp : pst none (X3_remove_l1 g f a N n j kp m)), mV g x m 0 0 4 [(0, .ref f), (1, .int a), (2, .int (nI kp)), (3, .int (nI j))] [] := by
  intro n
  induction n with
  | zero =>
    intro j kp m hs hN hkj hj hp
    refine v_iload_n (pc := 4) hX dX3_remove_4 rfl ?_
    refine v_aload_n (pc := 5) hX dX3_remove_5 rfl ?_
    refine v_get (v := .int (nI N)) (pc := 6) hX dX3_remove_6 hs.k (ci := 5) (r := vwC5) rfl 3 (by decide) wd_155 (congrArg Value.int hN) ?_
    refine v_icmp_ge (tgt := 58) (pc := 9) hX dX3_remove_9 (by decide) (fun c1 => ?_) (fun c1 => ?_)
    ·
      refine v_aload_n (pc := 58) hX dX3_remove_58 rfl ?_
      refine v_iload_n (pc := 59) hX dX3_remove_59 rfl ?_
      refine v_put (m1 := (sI m 163 f (nI kp))) (pc := 60) hX dX3_remove_60 hs.k (ci := 5) (r := vwC5) rfl 3 (by decide) wd_155 rfl rfl rfl rfl ?_
      exact v_vret (pc := 63) hX hZ dX3_remove_63 (by decide) (by decide) (by rw [X3_remove_l1] at hp; exact hp)
    · exact absurd (nI_le (by omega) (by omega)) c1
  | succ n ih =>
    intro j kp m hs hN hkj hj hp
    refine v_iload_n (pc := 4) hX dX3_remove_4 rfl ?_
    refine v_aload_n (pc := 5) hX dX3_remove_5 rfl ?_
    refine v_get (v := .int (nI N)) (pc := 6) hX dX3_remove_6 hs.k (ci := 5) (r := vwC5) rfl 3 (by decide) wd_155 (congrArg Value.int hN) ?_
    refine v_icmp_ge (tgt := 58) (pc := 9) hX dX3_remove_9 (by decide) (fun c1 => ?_) (fun c1 => ?_)
    · exact absurd c1 (nI_ge (by omega) (by omega))
    ·
      refine v_aload_n (pc := 12) hX dX3_remove_12 rfl ?_
      refine v_get (v := .ref (f + 2)) (pc := 13) hX dX3_remove_13 hs.k (ci := 5) (r := vwC5) rfl 1 (by decide) wd_152 (fvR hs.r1) ?_
      refine v_iload_n (pc := 16) hX dX3_remove_16 rfl ?_
      refine v_aaldR (q := pa m f j) (pc := 17) hX dX3_remove_17 hs.k2 (by decide) (by decide) rfl (by omega) (by decide) (hs.qp (i := j) (by omega)) ?_
      refine v_astore (pc := 18) hX dX3_remove_18 (by decide) rfl ?_
      refine v_aload (pc := 20) hX dX3_remove_20 rfl ?_
      refine v_getN (v := .int (gI m 288 (pa m f j))) (pc := 22) hX dX3_remove_22 (hs.kp (i := j) (by omega)) (ci := 9) (r := vwC9) rfl 0 (by decide) wd_91 rfl ?_
      refine v_iload_n (pc := 25) hX dX3_remove_25 rfl ?_
      refine v_icmp_eq (tgt := 52) (pc := 26) hX dX3_remove_26 (by decide) (fun c2 => ?_) (fun c2 => ?_)
      ·
        refine v_iinc (w := nI (j + 1)) (pc := 52) hX dX3_remove_52 rfl (nI_1 _) (by decide) rfl ?_
        refine v_goto (tgt := 4) (pc := 55) hX dX3_remove_55 (by decide) ?_
        refine mV_sub (lv' := [(0, .ref f), (1, .int a), (2, .int (nI kp)), (3, .int (nI (j + 1)))]) ⟨rfl, rfl, rfl, rfl, trivial⟩ ?_
        exact ih (j + 1) kp m hs hN (by omega) (by omega) (by rw [X3_remove_l1, if_pos c2] at hp; exact hp)
      ·
        refine v_aload_n (pc := 29) hX dX3_remove_29 rfl ?_
        refine v_get (v := .ref (f + 2)) (pc := 30) hX dX3_remove_30 hs.k (ci := 5) (r := vwC5) rfl 1 (by decide) wd_152 (fvR hs.r1) ?_
        refine v_iload_n (pc := 33) hX dX3_remove_33 rfl ?_
        refine v_aload_n (pc := 34) hX dX3_remove_34 rfl ?_
        refine v_get (v := .ref (f + 2)) (pc := 35) hX dX3_remove_35 hs.k (ci := 5) (r := vwC5) rfl 1 (by decide) wd_152 (fvR hs.r1) ?_
        refine v_iload_n (pc := 38) hX dX3_remove_38 rfl ?_
        refine v_aaldR (q := pa m f kp) (pc := 39) hX dX3_remove_39 hs.k2 (by decide) (by decide) rfl (by omega) (by decide) (hs.qp (i := kp) (by omega)) ?_
        refine v_aast (pc := 40) hX dX3_remove_40 hs.k2 (by decide) (by decide) rfl (hs.kp (i := kp) (by omega)) (r := vwC9) rfl (j := j) rfl (by omega) (by decide) ?_
        refine v_aload_n (pc := 41) hX dX3_remove_41 rfl ?_
        refine v_get (v := .ref (f + 2)) (pc := 42) hX dX3_remove_42 (by simp only [mm]; exact hs.k) (ci := 5) (r := vwC5) rfl 1 (by decide) wd_152 (fvR (by simp [mm, hs.r1])) ?_
        refine v_iload_n (pc := 45) hX dX3_remove_45 rfl ?_
        refine v_aload (pc := 46) hX dX3_remove_46 rfl ?_
        refine v_aast (pc := 48) hX dX3_remove_48 (by simp only [mm]; exact hs.k2) (by decide) (by decide) rfl (by simp only [mm]; exact (hs.kp (i := j) (by omega))) (r := vwC9) rfl (j := kp) rfl (by omega) (by decide) ?_
        refine v_iinc (w := nI (kp + 1)) (pc := 49) hX dX3_remove_49 rfl (nI_1 _) (by decide) rfl ?_
        refine v_iinc (w := nI (j + 1)) (pc := 52) hX dX3_remove_52 rfl (nI_1 _) (by decide) rfl ?_
        refine v_goto (tgt := 4) (pc := 55) hX dX3_remove_55 (by decide) ?_
        refine mV_sub (lv' := [(0, .ref f), (1, .int a), (2, .int (nI (kp + 1))), (3, .int (nI (j + 1)))]) ⟨rfl, rfl, rfl, rfl, trivial⟩ ?_
        exact ih (j + 1) (kp + 1) ((sQ (sQ m (f + 2) j (some (pa m f kp))) (f + 2) kp (some (pa m f j)))) (SF_swap hs (by omega) (by omega)) (by simp [mm, hN]) (by omega) (by omega) (by rw [X3_remove_l1, if_neg c2] at hp; exact hp)
theorem kK_X3_remove_l1 (g : mG) (f : Nat) (a : Int32) (N : Nat) : ∀ (n j : Nat) (kp : Nat) (m : mM), gK (X3_remove_l1 g f a N n j kp m) = gK m := by
  intro n
  induction n with
  | zero =>
    intro j kp m
    rw [X3_remove_l1]
    repeat' split
    all_goals simp only [mm]
  | succ n ih =>
    intro j kp m
    rw [X3_remove_l1]
    repeat' split
    all_goals simp only [mm, ih]
theorem kN_X3_remove_l1 (g : mG) (f : Nat) (a : Int32) (N : Nat) : ∀ (n j : Nat) (kp : Nat) (m : mM), gN (X3_remove_l1 g f a N n j kp m) = gN m := by
  intro n
  induction n with
  | zero =>
    intro j kp m
    rw [X3_remove_l1]
    repeat' split
    all_goals simp only [mm]
  | succ n ih =>
    intro j kp m
    rw [X3_remove_l1]
    repeat' split
    all_goals simp only [mm, ih]
theorem kI_X3_remove_l1 (g : mG) (f : Nat) (a : Int32) (N : Nat) (k a9 : Nat) (h0 : k ≠ 163) : ∀ (n j : Nat) (kp : Nat) (m : mM), gI (X3_remove_l1 g f a N n j kp m) k a9 = gI m k a9 := by
  intro n
  induction n with
  | zero =>
    intro j kp m
    rw [X3_remove_l1]
    repeat' split
    all_goals simp [mm, h0]
  | succ n ih =>
    intro j kp m
    rw [X3_remove_l1]
    repeat' split
    all_goals simp [mm, ih, h0]
theorem kJ_X3_remove_l1 (g : mG) (f : Nat) (a : Int32) (N : Nat) : ∀ (n j : Nat) (kp : Nat) (m : mM), gJ (X3_remove_l1 g f a N n j kp m) = gJ m := by
  intro n
  induction n with
  | zero =>
    intro j kp m
    rw [X3_remove_l1]
    repeat' split
    all_goals simp only [mm]
  | succ n ih =>
    intro j kp m
    rw [X3_remove_l1]
    repeat' split
    all_goals simp only [mm, ih]
theorem kR_X3_remove_l1 (g : mG) (f : Nat) (a : Int32) (N : Nat) : ∀ (n j : Nat) (kp : Nat) (m : mM), gR (X3_remove_l1 g f a N n j kp m) = gR m := by
  intro n
  induction n with
  | zero =>
    intro j kp m
    rw [X3_remove_l1]
    repeat' split
    all_goals simp only [mm]
  | succ n ih =>
    intro j kp m
    rw [X3_remove_l1]
    repeat' split
    all_goals simp only [mm, ih]
theorem kA_X3_remove_l1 (g : mG) (f : Nat) (a : Int32) (N : Nat) : ∀ (n j : Nat) (kp : Nat) (m : mM), gA (X3_remove_l1 g f a N n j kp m) = gA m := by
  intro n
  induction n with
  | zero =>
    intro j kp m
    rw [X3_remove_l1]
    repeat' split
    all_goals simp only [mm]
  | succ n ih =>
    intro j kp m
    rw [X3_remove_l1]
    repeat' split
    all_goals simp only [mm, ih]
theorem kL_X3_remove_l1 (g : mG) (f : Nat) (a : Int32) (N : Nat) : ∀ (n j : Nat) (kp : Nat) (m : mM), gL (X3_remove_l1 g f a N n j kp m) = gL m := by
  intro n
  induction n with
  | zero =>
    intro j kp m
    rw [X3_remove_l1]
    repeat' split
    all_goals simp only [mm]
  | succ n ih =>
    intro j kp m
    rw [X3_remove_l1]
    repeat' split
    all_goals simp only [mm, ih]
theorem kD_X3_remove_l1 (g : mG) (f : Nat) (a : Int32) (N : Nat) : ∀ (n j : Nat) (kp : Nat) (m : mM), gD (X3_remove_l1 g f a N n j kp m) = gD m := by
  intro n
  induction n with
  | zero =>
    intro j kp m
    rw [X3_remove_l1]
    repeat' split
    all_goals simp only [mm]
  | succ n ih =>
    intro j kp m
    rw [X3_remove_l1]
    repeat' split
    all_goals simp only [mm, ih]
theorem fr_X3_remove_l1 (g : mG) (f : Nat) (a : Int32) (N : Nat) (hN8 : N ≤ 8) : ∀ (n j : Nat) (kp : Nat) (m : mM) (hs : SF m f) (hkj : kp ≤ j), j + n = N → Fr f (f + 16) m (X3_remove_l1 g f a N n j kp m) := by
  intro n
  induction n with
  | zero =>
    intro j kp m hs hkj hj
    rw [X3_remove_l1]
    exact ((Fr.rf).I (by first | omega | (have h3_ := n8_lt' (by assumption) hN8; omega) | (have h3_ := n4_lt' (by assumption) hH4; omega)))
  | succ n ih =>
    intro j kp m hs hkj hj
    rw [X3_remove_l1]
    split
    ·
      exact (Fr.rf).tr (ih (j + 1) kp m hs (by omega) (by omega)) (Nat.le_refl _) (Nat.le_refl _)
    ·
      exact (((((Fr.rf).Q (by first | omega | (have h3_ := n8_lt' (by assumption) hN8; omega) | (have h3_ := n4_lt' (by assumption) hH4; omega)))).Q (by first | omega | (have h3_ := n8_lt' (by assumption) hN8; omega) | (have h3_ := n4_lt' (by assumption) hH4; omega)))).tr (ih (j + 1) (kp + 1) (sQ (sQ m (f + 2) j (some (pa m f kp))) (f + 2) kp (some (pa m f j))) (SF_swap hs (by omega) (by omega)) (by omega) (by omega)) (Nat.le_refl _) (Nat.le_refl _)
def X3_remove_m (g : mG) (m : mM) (f : Nat) (a : Int32) (N : Nat) : mM := X3_remove_l1 g f a N N 0 0 m
theorem kK_X3_remove (g : mG) (m : mM) (f : Nat) (a : Int32) (N : Nat) : gK (X3_remove_m g m f a N) = gK m := by
  unfold X3_remove_m
  repeat' split
  all_goals simp only [mm, kK_X3_remove_l1]
theorem kN_X3_remove (g : mG) (m : mM) (f : Nat) (a : Int32) (N : Nat) : gN (X3_remove_m g m f a N) = gN m := by
  unfold X3_remove_m
  repeat' split
  all_goals simp only [mm, kN_X3_remove_l1]
theorem kI_X3_remove (g : mG) (m : mM) (f : Nat) (a : Int32) (N : Nat) (k a9 : Nat) (h0 : k ≠ 163) : gI (X3_remove_m g m f a N) k a9 = gI m k a9 := by
  unfold X3_remove_m
  repeat' split
  all_goals simp [mm, kI_X3_remove_l1, h0]
theorem kJ_X3_remove (g : mG) (m : mM) (f : Nat) (a : Int32) (N : Nat) : gJ (X3_remove_m g m f a N) = gJ m := by
  unfold X3_remove_m
  repeat' split
  all_goals simp only [mm, kJ_X3_remove_l1]
theorem kR_X3_remove (g : mG) (m : mM) (f : Nat) (a : Int32) (N : Nat) : gR (X3_remove_m g m f a N) = gR m := by
  unfold X3_remove_m
  repeat' split
  all_goals simp only [mm, kR_X3_remove_l1]
theorem kA_X3_remove (g : mG) (m : mM) (f : Nat) (a : Int32) (N : Nat) : gA (X3_remove_m g m f a N) = gA m := by
  unfold X3_remove_m
  repeat' split
  all_goals simp only [mm, kA_X3_remove_l1]
theorem kL_X3_remove (g : mG) (m : mM) (f : Nat) (a : Int32) (N : Nat) : gL (X3_remove_m g m f a N) = gL m := by
  unfold X3_remove_m
  repeat' split
  all_goals simp only [mm, kL_X3_remove_l1]
theorem kD_X3_remove (g : mG) (m : mM) (f : Nat) (a : Int32) (N : Nat) : gD (X3_remove_m g m f a N) = gD m := by
  unfold X3_remove_m
  repeat' split
  all_goals simp only [mm, kD_X3_remove_l1]
theorem fr_X3_remove (g : mG) (m : mM) (f : Nat) (a : Int32) (N : Nat) (hs : SF m f) (hN8 : N ≤ 8) : Fr f (f + 16) m (X3_remove_m g m f a N) := by
  unfold X3_remove_m
  exact (Fr.rf).tr (fr_X3_remove_l1 g f a N hN8 N 0 0 m hs (by omega) (by omega)) (Nat.le_refl _) (Nat.le_refl _)
set_option maxHeartbeats 4000000 in
set_option maxRecDepth 100000 in
theorem c_X3_remove {l : Launch} {g : mG} (hO : mO l g) (m : mM) (f : Nat) (a : Int32) (N : Nat) (hs : SF m f) (hN : gI m 163 f = nI N) (hN8 : N ≤ 8) : mT l g yX3_remove (.code yX3_remove cX3_remove 5 (Option.none : Option FieldType)) 1 20 0 0 [.ref f, .int a] m (fun r m' => r = none ∧ m' = X3_remove_m g m f a N) nX := by
  refine mT_of hO (by decide) (Nat.le_of_ble_eq_true rfl) (fun x hX hZ => ?_)
  show mV g x m 0 0 0 [(0, .ref f), (1, .int a)] []
  refine v_iconst (v := 0) (pc := 0) hX dX3_remove_0 (by decide) ?_
  refine v_istore_n (pc := 1) hX dX3_remove_1 (by decide) rfl ?_
  refine v_iconst (v := 0) (pc := 2) hX dX3_remove_2 (by decide) ?_
  refine v_istore_n (pc := 3) hX dX3_remove_3 (by decide) rfl ?_
  refine mV_sub (lv' := [(0, .ref f), (1, .int a), (2, .int (nI 0)), (3, .int (nI 0))]) ⟨rfl, rfl, rfl, rfl, trivial⟩ ?_
  exact lp_X3_remove_l1 hO f a N hN8 hX hZ N 0 0 m hs hN (by omega) (by omega) ⟨rfl, (by rw [X3_remove_m])⟩
