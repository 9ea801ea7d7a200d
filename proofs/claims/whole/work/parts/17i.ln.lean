/-! THE LINE: what a StringBuilder holds, as a list -/
theorem gd_l {L M : List Int32} {i : Nat} (h : i < L.length) : (L ++ M).getD i 0 = L.getD i 0 := by
  rw [List.getD_eq_getElem?_getD, List.getD_eq_getElem?_getD, List.getElem?_append_left h]
theorem gd_r {L M : List Int32} {i : Nat} (h : L.length ≤ i) : (L ++ M).getD i 0 = M.getD (i - L.length) 0 := by
  rw [List.getD_eq_getElem?_getD, List.getD_eq_getElem?_getD, List.getElem?_append_right h]
def LN (m0 m : mM) (sb : Nat) (L : List Int32) : Prop := SLo m sb ∧ mF m ∧ KF m0 m ∧ cnO m sb = L.length ∧ ∀ i, i < L.length → byO m sb i = L.getD i 0
def dl (n : Nat) : List Int32 := (List.range (digs n)).map (dgt n)
theorem dl_len (n : Nat) : (dl n).length = digs n := by simp [dl]
theorem mF_ens {g : mG} {m : mM} {sb k va cap c : Nat} (h : mF m) : mF (J5_ensureCapacityInternal_d00df_m g m sb k va cap c) := by
  unfold J5_ensureCapacityInternal_d00df_m
  split
  · exact h
  · intro a kd e
    simp only [mm] at e ⊢
    unfold J7_copyOf_9075b_m at e ⊢
    simp only [mw, mm] at e ⊢
    split at e
    · omega
    · have := h a kd e
      omega
theorem mF_apC {g : mG} {m : mM} {sb : Nat} {a : Int32} (h : mF m) : mF (apC g m sb a) := by
  have h2 := mF_ens (g := g) (sb := sb) (k := cnO m sb + 1) (va := vaO m sb) (cap := caO m sb) (c := cnO m sb) h
  intro b kd e
  exact h2 b kd e
theorem gc_N {g : mG} {m : mM} {n k v cap : Nat} : gN (J6_getChars_ba4f3_m g m n k v cap) = gN m := by
  unfold J6_getChars_ba4f3_m
  repeat' split
  all_goals rfl
theorem mF_apI {g : mG} {m : mM} {sb n : Nat} (h : mF m) : mF (apI g m sb n) := by
  have h2 := mF_ens (g := g) (sb := sb) (k := cnO m sb + digs n) (va := vaO m sb) (cap := caO m sb) (c := cnO m sb) h
  intro b kd e
  unfold apI J4_append_bf812_m J5_append_c97b9_m at e ⊢
  simp only [mm, gc_K, gc_N] at e ⊢
  exact h2 b kd e
theorem LN.C {g : mG} {m0 m : mM} {sb : Nat} {L : List Int32} {a : Int32} (h : LN m0 m sb L) (hl : L.length ≤ 60) : LN m0 (apC g m sb a) sb (L ++ [a.toInt8.toInt32]) := by
  obtain ⟨h1, h2, h3, h4, h5⟩ := h
  obtain ⟨q1, q2, q3, q4, q5⟩ := apC_ok (g := g) (a := a) h1 h2 (by omega)
  refine ⟨q1, mF_apC h2, h3.tr q3, by rw [q2, h4]; simp, fun i hi => ?_⟩
  simp only [List.length_append, List.length_cons, List.length_nil] at hi
  by_cases e : i < L.length
  · rw [q4 i (by omega), h5 i e, gd_l e]
  · have e2 : i = cnO m sb := by omega
    rw [e2, q5, h4, gd_r (Nat.le_refl _)]
    simp
theorem LN.I {g : mG} {m0 m : mM} {sb n : Nat} {L : List Int32} (h : LN m0 m sb L) (hl : L.length ≤ 60) (hn : n < 10000) : LN m0 (apI g m sb n) sb (L ++ dl n) := by
  obtain ⟨h1, h2, h3, h4, h5⟩ := h
  obtain ⟨q1, q2, q3, q4, q5⟩ := apI_ok (g := g) h1 h2 (by omega) hn
  refine ⟨q1, mF_apI h2, h3.tr q3, by rw [q2, h4]; simp [dl_len], fun i hi => ?_⟩
  rw [List.length_append, dl_len] at hi
  by_cases e : i < L.length
  · rw [q4 i (by omega), h5 i e, gd_l e]
  · have e2 : i = cnO m sb + (i - L.length) := by omega
    rw [gd_r (by omega)]
    rw [e2, q5 _ (by omega), h4]
    simp only [Nat.add_sub_cancel_left]
    unfold dl
    rw [List.getD_eq_getElem?_getD, List.getElem?_map, List.getElem?_range (by omega)]
    rfl
/-- what writeTo writes -/
def wpL (g : mG) (m : mM) (p nn tt ss hh : Nat) : List Int32 := dl nn ++ [(gI m 289 p).toInt8.toInt32] ++ [58] ++ dl tt ++ [47] ++ dl ss ++ [47] ++ dl hh ++ (if gI m 293 p = 0 then [] else [42]) ++ (if gI m 294 p = 0 then [] else [113]) ++ (if gR m 295 p = some (vdA g 1) then [43] else []) ++ (if gR m 295 p = some (vdA g 2) then [45] else [])
theorem wp_LN {g : mG} {m0 m : mM} {p sb nn tt ss hh : Nat} (h : LN m0 m sb []) (h1 : nn < 10000) (h2 : tt < 10000) (h3 : ss < 10000) (h4 : hh < 10000) : LN m0 (X7_writeTo_m g m p sb nn tt ss hh) sb (wpL g m p nn tt ss hh) := by
  have d1 := digs_le nn
  have d2 := digs_le tt
  have d3 := digs_le ss
  have d4 := digs_le hh
  have e1 := h.I (g := g) (by simp) h1
  have e2 := e1.C (g := g) (a := gI m 289 p) (by simp [dl_len]; omega)
  have e3 := e2.C (g := g) (a := 58) (by simp [dl_len]; omega)
  have e4 := e3.I (g := g) (by simp [dl_len]; omega) h2
  have e5 := e4.C (g := g) (a := 47) (by simp [dl_len]; omega)
  have e6 := e5.I (g := g) (by simp [dl_len]; omega) h3
  have e7 := e6.C (g := g) (a := 47) (by simp [dl_len]; omega)
  have e8 := e7.I (g := g) (by simp [dl_len]; omega) h4
  rw [show (58 : Int32).toInt8.toInt32 = 58 by decide, show (47 : Int32).toInt8.toInt32 = 47 by decide, List.nil_append] at e8
  have hl8 : (dl nn ++ [(gI m 289 p).toInt8.toInt32] ++ [58] ++ dl tt ++ [47] ++ dl ss ++ [47] ++ dl hh).length ≤ 24 := by simp [dl_len]; omega
  unfold X7_writeTo_m wpL
  generalize dl nn ++ [(gI m 289 p).toInt8.toInt32] ++ [58] ++ dl tt ++ [47] ++ dl ss ++ [47] ++ dl hh = L8 at e8 hl8 ⊢
  generalize (apI g (apC g (apI g (apC g (apI g (apC g (apC g (apI g m sb nn) sb (gI m 289 p)) sb 58) sb tt) sb 47) sb ss) sb 47) sb hh) = M8 at e8 ⊢
  have f42 : ∀ {M : mM} {L : List Int32}, LN m0 M sb L → L.length ≤ 60 → LN m0 (apC g M sb 42) sb (L ++ [42]) := fun q hq => q.C hq
  have f113 : ∀ {M : mM} {L : List Int32}, LN m0 M sb L → L.length ≤ 60 → LN m0 (apC g M sb 113) sb (L ++ [113]) := fun q hq => q.C hq
  have f43 : ∀ {M : mM} {L : List Int32}, LN m0 M sb L → L.length ≤ 60 → LN m0 (apC g M sb 43) sb (L ++ [43]) := fun q hq => q.C hq
  have f45 : ∀ {M : mM} {L : List Int32}, LN m0 M sb L → L.length ≤ 60 → LN m0 (apC g M sb 45) sb (L ++ [45]) := fun q hq => q.C hq
  by_cases c1 : gI m 293 p = 0
  · simp only [if_pos c1, List.append_nil]
    by_cases c2 : gI m 294 p = 0
    · simp only [if_pos c2, List.append_nil]
      by_cases c3 : gR m 295 p = some (vdA g 1)
      · simp only [if_pos c3]
        by_cases c4 : gR m 295 p = some (vdA g 2)
        · simp only [if_pos c4]; exact f45 (f43 e8 (by omega)) (by simp; omega)
        · simp only [if_neg c4, List.append_nil]; exact f43 e8 (by omega)
      · simp only [if_neg c3, List.append_nil]
        by_cases c4 : gR m 295 p = some (vdA g 2)
        · simp only [if_pos c4]; exact f45 e8 (by omega)
        · simp only [if_neg c4, List.append_nil]; exact e8
    · simp only [if_neg c2]
      have e9 := f113 e8 (by omega)
      by_cases c3 : gR m 295 p = some (vdA g 1)
      · simp only [if_pos c3]
        by_cases c4 : gR m 295 p = some (vdA g 2)
        · simp only [if_pos c4]; exact f45 (f43 e9 (by simp; omega)) (by simp; omega)
        · simp only [if_neg c4, List.append_nil]; exact f43 e9 (by simp; omega)
      · simp only [if_neg c3, List.append_nil]
        by_cases c4 : gR m 295 p = some (vdA g 2)
        · simp only [if_pos c4]; exact f45 e9 (by simp; omega)
        · simp only [if_neg c4, List.append_nil]; exact e9
  · simp only [if_neg c1]
    have eA := f42 e8 (by omega)
    by_cases c2 : gI m 294 p = 0
    · simp only [if_pos c2, List.append_nil]
      by_cases c3 : gR m 295 p = some (vdA g 1)
      · simp only [if_pos c3]
        by_cases c4 : gR m 295 p = some (vdA g 2)
        · simp only [if_pos c4]; exact f45 (f43 eA (by simp; omega)) (by simp; omega)
        · simp only [if_neg c4, List.append_nil]; exact f43 eA (by simp; omega)
      · simp only [if_neg c3, List.append_nil]
        by_cases c4 : gR m 295 p = some (vdA g 2)
        · simp only [if_pos c4]; exact f45 eA (by simp; omega)
        · simp only [if_neg c4, List.append_nil]; exact eA
    · simp only [if_neg c2]
      have e9 := f113 eA (by simp; omega)
      by_cases c3 : gR m 295 p = some (vdA g 1)
      · simp only [if_pos c3]
        by_cases c4 : gR m 295 p = some (vdA g 2)
        · simp only [if_pos c4]; exact f45 (f43 e9 (by simp; omega)) (by simp; omega)
        · simp only [if_neg c4, List.append_nil]; exact f43 e9 (by simp; omega)
      · simp only [if_neg c3, List.append_nil]
        by_cases c4 : gR m 295 p = some (vdA g 2)
        · simp only [if_pos c4]; exact f45 e9 (by simp; omega)
        · simp only [if_neg c4, List.append_nil]; exact e9
theorem wp_len {g : mG} {m : mM} {p nn tt ss hh : Nat} : (wpL g m p nn tt ss hh).length ≤ 60 := by
  have d1 := digs_le nn
  have d2 := digs_le tt
  have d3 := digs_le ss
  have d4 := digs_le hh
  unfold wpL
  simp only [List.length_append, dl_len, List.length_cons, List.length_nil]
  split <;> split <;> split <;> split <;> simp <;> omega
/-- what writeFurnaceTo writes of the pieces -/
def wfL (m : mM) (f : Nat) : Nat → Nat → List Int32
  | 0, _ => []
  | n + 1, j => (if gI m 293 (pa m f j) = 0 then [] else [32] ++ dl (gI m 288 (pa m f j)).toNatClampNeg) ++ wfL m f n (j + 1)
theorem wf_l {g : mG} {f sb N tt vv oo : Nat} {m0 : mM} (hs : SF m0 f) (hN8 : N ≤ 8) : ∀ (n j : Nat) (m : mM) (L : List Int32), j + n = N → LN m0 m sb L → L.length ≤ 14 + 5 * j → (∀ i, i < N → okI (gI m0 288 (pa m0 f i)) 9999) → LN m0 (X3_writeFurnaceTo_l1 g f sb N tt vv oo n j m) sb (L ++ wfL m0 f n j) := by
  intro n
  induction n with
  | zero =>
    intro j m L hj h hl hnum
    rw [X3_writeFurnaceTo_l1, wfL, List.append_nil]
    exact h
  | succ n ih =>
    intro j m L hj h hl hnum
    have k := h.2.2.1
    have e : pa m f j = pa m0 f j := by unfold pa; rw [k.Q hs.k2 (by decide)]
    have hk := hs.kp (i := j) (by omega)
    rw [X3_writeFurnaceTo_l1, wfL, e, k.I hk (by decide), k.I hk (by decide)]
    by_cases c : gI m0 293 (pa m0 f j) = 0
    · rw [if_pos c, if_pos c, List.nil_append]
      exact ih (j + 1) m L (by omega) h (by omega) hnum
    · rw [if_neg c, if_neg c, ← List.append_assoc]
      have d := digs_le (gI m0 288 (pa m0 f j)).toNatClampNeg
      have e2 := (h.C (g := g) (a := 32) (by omega)).I (g := g) (n := (gI m0 288 (pa m0 f j)).toNatClampNeg) (by simp; omega) (by have := (hnum j (by omega)).2; omega)
      refine ih (j + 1) _ _ (by omega) ?_ (by simp [dl_len]; omega) hnum
      rw [← List.append_assoc]
      exact e2
theorem wf_LN {g : mG} {m0 m : mM} {f sb N tt vv oo : Nat} (hs : SF m0 f) (hN8 : N ≤ 8) (h : LN m0 m sb []) (h1 : tt < 10000) (h2 : vv < 10000) (h3 : oo < 10000) (hnum : ∀ i, i < N → okI (gI m0 288 (pa m0 f i)) 9999) : LN m0 (X3_writeFurnaceTo_m g m f sb N tt vv oo) sb (dl tt ++ [64] ++ dl vv ++ [35] ++ dl oo ++ wfL m0 f N 0) := by
  have d1 := digs_le tt
  have d2 := digs_le vv
  have d3 := digs_le oo
  have e1 := h.I (g := g) (by simp) h1
  have e2 := e1.C (g := g) (a := 64) (by simp [dl_len]; omega)
  have e3 := e2.I (g := g) (by simp [dl_len]; omega) h2
  have e4 := e3.C (g := g) (a := 35) (by simp [dl_len]; omega)
  have e5 := e4.I (g := g) (by simp [dl_len]; omega) h3
  rw [show (64 : Int32).toInt8.toInt32 = 64 by decide, show (35 : Int32).toInt8.toInt32 = 35 by decide, List.nil_append] at e5
  exact wf_l hs hN8 N 0 _ _ (by omega) e5 (by simp [dl_len]; omega) hnum
theorem wfL_len {m : mM} {f : Nat} : ∀ (n j : Nat), (wfL m f n j).length ≤ 5 * n := by
  intro n
  induction n with
  | zero => intro j; rw [wfL]; simp
  | succ n ih =>
    intro j
    have d := digs_le (gI m 288 (pa m f j)).toNatClampNeg
    have := ih (j + 1)
    rw [wfL, List.length_append]
    split
    · simp only [List.length_nil]; omega
    · simp only [List.length_append, List.length_cons, List.length_nil, dl_len]; omega
def slO (g : mG) (m : mM) (sb : Nat) : mM := J4_setLength_d00df_m g m sb 0 (vaO m sb) (caO m sb) (cnO m sb)
theorem slO_LN {g : mG} {m : mM} {sb : Nat} (s : SLo m sb) (hF : mF m) : LN m (slO g m sb) sb [] := by
  have key : ∀ m1, KF m m1 → gK m1 = gK m → gN m1 = gN m → SL m1 sb (vaO m sb) (caO m sb) 0 → LN m m1 sb [] := by
    intro m1 k e1 e2 s1
    refine ⟨?_, fun a kd e => by rw [e1] at e; rw [e2]; exact hF a kd e, k, s1.cn, fun i hi => by simp at hi⟩
    unfold SLo
    rw [s1.va, s1.ca, s1.cn]
    exact s1
  unfold slO J4_setLength_d00df_m J5_setLength_d00df_m
  split
  · refine key _ (KF.sbI s.k) rfl rfl ⟨s.k, s.r, s.kv, ?_, ?_, Nat.zero_le _, ⟨s.lo, s.hi⟩, s.ft⟩
    · simp [mm, s.cd]
    · simp [mm]
  · refine key _ ((KF.sbI s.k).tr (KF.sbI s.k)) rfl rfl ⟨s.k, s.r, s.kv, ?_, ?_, Nat.zero_le _, ⟨s.lo, s.hi⟩, s.ft⟩
    · simp [mm, s.cd]
    · simp [mm]
theorem c_slO {l : Launch} {g : mG} (hO : mO l g) (m : mM) (sb : Nat) (s : SLo m sb) : mT l g yJ4_setLength_d00df (.code yJ4_setLength_d00df cJ4_setLength_d00df 2 (Option.none : Option FieldType)) 5 112 1 262 [.ref sb, .int 0] m (fun r m' => r = none ∧ m' = slO g m sb) nX :=
  mT_imp (c_J4_setLength_d00df hO m sb 0 _ _ _ s (Nat.zero_le _) (by decide)) (fun r m' q => ⟨q.1, q.2⟩) (fun E m' q => q)
def chO (m : mM) (sb j : Nat) : Int32 := (((byO m sb j) &&& 255).toUInt32 % 65536).toInt32
theorem c_chO {l : Launch} {g : mG} (hO : mO l g) (m : mM) (sb : Nat) (a : Int32) (j : Nat) (ha : a = nI j) (s : SLo m sb) (hj : j < cnO m sb) : mT l g yJ4_charAt_5068e (.code yJ4_charAt_5068e cJ4_charAt_5068e 2 (Option.some FieldType.char)) 4 87 0 0 [.ref sb, .int a] m (fun r m' => r = some (.int (chO m sb j)) ∧ m' = m) nX := by
  subst ha
  exact mT_imp (c_J4_charAt_5068e hO m sb j _ _ _ s hj) (fun r m' q => ⟨q.1, q.2⟩) (fun E m' q => q)
