theorem cpy_at {f q : Nat → Int32} {n i : Nat} (h : i < n) : va_cpy f q 0 0 n i = f i := by
  unfold va_cpy
  rw [if_pos ⟨Nat.zero_le _, by omega⟩]
  congr 1
  omega
theorem cpy_ft {f q : Nat → Int32} {n : Nat} (h1 : ∀ i, fits .byte (.int (f i)) = true) (h2 : ∀ i, fits .byte (.int (q i)) = true) (i : Nat) : fits .byte (.int (va_cpy f q 0 0 n i)) = true := by
  unfold va_cpy
  split
  · exact h1 _
  · exact h2 _
theorem ens_SL {g : mG} {m : mM} {sb va cap c k : Nat} (hs : SL m sb va cap c) (hF : mF m) (h1 : k ≤ 65) (h2 : k ≤ 2 * cap + 2) : SL (J5_ensureCapacityInternal_d00df_m g m sb k va cap c) sb (vaO (J5_ensureCapacityInternal_d00df_m g m sb k va cap c) sb) (caO (J5_ensureCapacityInternal_d00df_m g m sb k va cap c) sb) c ∧ k ≤ caO (J5_ensureCapacityInternal_d00df_m g m sb k va cap c) sb ∧ KF m (J5_ensureCapacityInternal_d00df_m g m sb k va cap c) ∧ (∀ i, i < c → gA (J5_ensureCapacityInternal_d00df_m g m sb k va cap c) (vaO (J5_ensureCapacityInternal_d00df_m g m sb k va cap c) sb) i = gA m va i) := by
  unfold J5_ensureCapacityInternal_d00df_m
  split
  · rename_i c1
    have h3 := ge_of_sub c1 (by omega) (by have := hs.hi; omega)
    rw [hs.va, hs.ca]
    exact ⟨hs, h3, KF.rf, fun _ _ => rfl⟩
  · rename_i c1
    have h3 := lt_of_sub c1 (by omega) (by have := hs.hi; omega)
    have hl := hs.le
    have hh := hs.hi
    have hlo := hs.lo
    have fs := hF _ _ hs.k
    have fv := hF _ _ hs.kv
    have hne : sb ≠ gN m := by omega
    have hnv : va ≠ gN m := by omega
    have s2 : SL (sR (J7_copyOf_9075b_m g m va (2 * cap + 2) cap) 32 sb (some (gN m))) sb (gN m) (2 * cap + 2) c := by
      refine ⟨cp_k (g := g) (v := va) (n := cap) hF hs.k, by simp [mm], ?_, ?_, ?_, by omega, ⟨by omega, by omega⟩, fun i => ?_⟩
      · show gK (J7_copyOf_9075b_m g m va (2 * cap + 2) cap) (gN m) = _
        unfold J7_copyOf_9075b_m
        simp [mw, mm]
      · simp only [mm]
        unfold J7_copyOf_9075b_m
        simp [mw, mm, hne, hs.cd]
      · simp only [mm]
        unfold J7_copyOf_9075b_m
        simp [mw, mm, hne, hs.ct]
      · simp only [mm]
        unfold J7_copyOf_9075b_m
        simp only [mw, if_true]
        refine cpy_ft (fun i => ?_) (fun i => ?_) i
        · simp only [mm, if_neg hnv]
          exact hs.ft i
        · simp only [mm, if_true]
          decide
    rw [s2.va, s2.ca]
    refine ⟨s2, by omega, ⟨?_, fun a kd e1 e2 e3 => ?_⟩, fun i hi => ?_⟩
    · simp only [mm]
      unfold J7_copyOf_9075b_m
      simp only [mw, mm]
      omega
    · have fa := hF a kd e1
      have ha : a ≠ gN m := by omega
      have hb : a ≠ sb := fun q => by rw [q, hs.k] at e1; exact e3 (Option.some.inj e1).symm
      refine ⟨cp_k (g := g) (v := va) (n := cap) hF e1, ?_⟩
      unfold J7_copyOf_9075b_m
      refine ⟨fun k => ?_, fun k => ?_, fun k => ?_, ?_, ?_, ?_, ?_⟩
      · simp only [mm, mw, if_neg ha]
      · simp only [mm, mw, if_neg ha]
      · simp only [mm, mw, if_neg ha]
        rw [if_neg (fun q => hb q.2)]
      · simp only [mm, mw, if_neg ha]
        funext i
        simp only [mm, if_neg ha]
      · simp only [mm, mw, if_neg ha]
        funext i
        simp only [mm, if_neg ha]
      · simp only [mm, mw, if_neg ha]
        funext i
        simp only [mm, if_neg ha]
      · simp only [mm, mw, if_neg ha]
        funext i
        simp only [mm, if_neg ha]
    · simp only [mm]
      unfold J7_copyOf_9075b_m
      simp only [mw, if_true]
      rw [cpy_at (by omega)]
      simp only [mm, if_neg hnv]
theorem nar_b (x : Int32) : narrow .byte (.int x.toInt8.toInt32) = .int x.toInt8.toInt32 := by
  show Value.int _ = Value.int _
  simp
theorem fit_b (x : Int32) : fits .byte (.int x.toInt8.toInt32) = true := by
  show (decide _ && decide _) = true
  have h1 := Int8.le_toInt x.toInt8
  have h2 := Int8.toInt_lt x.toInt8
  rw [Bool.and_eq_true, decide_eq_true_eq, decide_eq_true_eq, Int32.le_iff_toInt_le, Int32.le_iff_toInt_le, Int8.toInt_toInt32, show (-128 : Int32).toInt = -128 by decide, show (127 : Int32).toInt = 127 by decide]
  omega
def J5_append_3fe6f_r (g : mG) (m : mM) (sb : Nat) (a : Int32) (va : Nat) (cap : Nat) (c : Nat) : Option Nat := some sb
def J5_append_3fe6f_m (g : mG) (m : mM) (sb : Nat) (a : Int32) (va : Nat) (cap : Nat) (c : Nat) : mM := (sA (sI (J5_ensureCapacityInternal_d00df_m g m sb (c + 1) va cap c) 35 sb (nI (c + 1))) (vaO (J5_ensureCapacityInternal_d00df_m g m sb (c + 1) va cap c) sb) c a.toInt8.toInt32)

set_option maxHeartbeats 4000000 in
set_option maxRecDepth 100000 in
theorem c_J5_append_3fe6f {l : Launch} {g : mG} (hO : mO l g) (m : mM) (sb : Nat) (a : Int32) (va : Nat) (cap : Nat) (c : Nat) (hs : SL m sb va cap c) (hc : c ≤ 64) (hch : ¬ 255 < a) : mT l g yJ5_append_3fe6f (.code yJ5_append_3fe6f cJ5_append_3fe6f 2 (Option.some (FieldType.object "java/lang/AbstractStringBuilder"))) 4 91 1 262 [.ref sb, .int a] m (fun r m' => r = some (va_rf (J5_append_3fe6f_r g m sb a va cap c)) ∧ m' = J5_append_3fe6f_m g m sb a va cap c) nX := by
  refine mT_of hO (by decide) (Nat.le_of_ble_eq_true rfl) (fun x hX hZ => ?_)
  show mV g x m 0 0 0 [(0, .ref sb), (1, .int a)] []
  refine mV_fresh (fun hF => ?_)
  have e1 := ens_SL (g := g) (k := c + 1) hs hF (by omega) (by have := hs.le; omega)
  refine v_aload_n (pc := 0) hX dJ5_append_3fe6f_0 rfl ?_
  refine v_aload_n (pc := 1) hX dJ5_append_3fe6f_1 rfl ?_
  refine v_get (v := .int (nI c)) (pc := 2) hX dJ5_append_3fe6f_2 hs.k (ci := 1) (r := vwC1) rfl 3 (by decide) wd_295 (congrArg Value.int hs.ct) ?_
  refine v_iconst (v := 1) (pc := 5) hX dJ5_append_3fe6f_5 (by decide) ?_
  refine v_iadd (pc := 6) hX dJ5_append_3fe6f_6 ?_
  rw [nI_1]
  refine v_callUP (z := yJ5_ensureCapacityInternal_d00df) (pc := 7) hX dJ5_append_3fe6f_7 (c_J5_ensureCapacityInternal_d00df hO m sb (c + 1) va cap c hs (by omega) (by have := hs.le; omega)) (C := "java/lang/StringBuilder") hs.k rfl wd_496 wd_1966 wd_530 rfl wd_497 wd_498 wd_12 wd_499 ⟨by decide, by decide, (by decide +kernel : (parseMethodDescriptor "(I)V").map (fun d => d.parameters.length) = some 1)⟩ rfl (Nat.le_of_ble_eq_true rfl) ⟨⟨by decide, by decide⟩, by decide, by decide⟩ (fun E m9 h9 => h9.elim) (fun r9 m9 h9 => ?_)
  obtain ⟨rfl, h8⟩ := h9
  replace h8 := h8.symm
  subst h8
  show mV g x _ _ _ _ _ []
  refine v_aload_n (pc := 10) hX dJ5_append_3fe6f_10 rfl ?_
  refine v_callU (z := yJ5_isLatin1_aae02) (pc := 11) hX dJ5_append_3fe6f_11 (c_J5_isLatin1_aae02 hO ((J5_ensureCapacityInternal_d00df_m g m sb (c + 1) va cap c)) sb ((vaO (J5_ensureCapacityInternal_d00df_m g m sb (c + 1) va cap c) sb)) ((caO (J5_ensureCapacityInternal_d00df_m g m sb (c + 1) va cap c) sb)) c e1.1) (C := "java/lang/StringBuilder") (xm := ⟨"java/lang/AbstractStringBuilder", "isLatin1", "()Z"⟩) e1.1.k rfl wd_527 wd_529 wd_530 wd_528 wd_12 wd_531 rfl ⟨by decide, by decide, (by decide +kernel : (parseMethodDescriptor "()Z").map (fun d => d.parameters.length) = some 0)⟩ rfl (Nat.le_of_ble_eq_true rfl) ⟨⟨by decide, by decide⟩, by decide, by decide⟩ (fun E m9 h9 => h9.elim) (fun r9 m9 h9 => ?_)
  obtain ⟨rfl, h8⟩ := h9
  replace h8 := h8.symm
  subst h8
  show mV g x _ _ _ _ _ [.int (J5_isLatin1_aae02_r g ((J5_ensureCapacityInternal_d00df_m g m sb (c + 1) va cap c)) sb ((vaO (J5_ensureCapacityInternal_d00df_m g m sb (c + 1) va cap c) sb)) ((caO (J5_ensureCapacityInternal_d00df_m g m sb (c + 1) va cap c) sb)) c)]
  refine v_if_eq (tgt := 45) (pc := 14) hX dJ5_append_3fe6f_14 (by decide) (fun c1 => ?_) (fun c1 => ?_)
  · exact absurd c1 (show ¬ (1 : Int32) = 0 by decide)
  ·
    refine v_iload_n (pc := 17) hX dJ5_append_3fe6f_17 rfl ?_
    refine v_callS (z := yJ1_canEncode_fc78d) (pc := 18) hX dJ5_append_3fe6f_18 (c_J1_canEncode_fc78d hO ((J5_ensureCapacityInternal_d00df_m g m sb (c + 1) va cap c)) a  hch) wd_825 wd_826 wd_28 wd_827 ⟨by decide, by decide, (by decide +kernel : (parseMethodDescriptor yJ1_canEncode_fc78d.desc).map (fun d => d.parameters.length) = some 1)⟩ rfl (Nat.le_of_ble_eq_true rfl) ⟨⟨by decide, by decide⟩, by decide, by decide⟩ (fun E m9 h9 => h9.elim) (fun r9 m9 h9 => ?_)
    obtain ⟨rfl, h8⟩ := h9
    replace h8 := h8.symm
    subst h8
    show mV g x _ _ _ _ _ [.int (J1_canEncode_fc78d_r g ((J5_ensureCapacityInternal_d00df_m g m sb (c + 1) va cap c)) a )]
    refine v_if_eq (tgt := 45) (pc := 21) hX dJ5_append_3fe6f_21 (by decide) (fun c2 => ?_) (fun c2 => ?_)
    · exact absurd c2 (show ¬ (1 : Int32) = 0 by decide)
    ·
      refine v_aload_n (pc := 24) hX dJ5_append_3fe6f_24 rfl ?_
      refine v_get (v := .ref (vaO (J5_ensureCapacityInternal_d00df_m g m sb (c + 1) va cap c) sb)) (pc := 25) hX dJ5_append_3fe6f_25 e1.1.k (ci := 1) (r := vwC1) rfl 0 (by decide) wd_291 (fvR e1.1.r) ?_
      refine v_aload_n (pc := 28) hX dJ5_append_3fe6f_28 rfl ?_
      refine v_dup (pc := 29) hX dJ5_append_3fe6f_29 rfl ?_
      refine v_get (v := .int (nI c)) (pc := 30) hX dJ5_append_3fe6f_30 e1.1.k (ci := 1) (r := vwC1) rfl 3 (by decide) wd_295 (congrArg Value.int e1.1.ct) ?_
      refine v_dup_x1 (pc := 33) hX dJ5_append_3fe6f_33 rfl rfl ?_
      refine v_iconst (v := 1) (pc := 34) hX dJ5_append_3fe6f_34 (by decide) ?_
      refine v_iadd (pc := 35) hX dJ5_append_3fe6f_35 ?_
      rw [nI_1]
      refine v_put (m1 := (sI (J5_ensureCapacityInternal_d00df_m g m sb (c + 1) va cap c) 35 sb (nI (c + 1)))) (pc := 36) hX dJ5_append_3fe6f_36 e1.1.k (ci := 1) (r := vwC1) rfl 3 (by decide) wd_295 rfl rfl rfl rfl ?_
      refine v_iload_n (pc := 39) hX dJ5_append_3fe6f_39 rfl ?_
      refine v_i2b (v := a.toInt8.toInt32) (pc := 40) hX dJ5_append_3fe6f_40 rfl ?_
      refine v_bast (v := a.toInt8.toInt32) (pc := 41) hX dJ5_append_3fe6f_41 (by simp only [mm]; exact e1.1.kv) rfl (by have := e1.2.1; omega) (by have := e1.1.hi; omega) (nar_b a) ?_
      refine v_goto (tgt := 75) (pc := 42) hX dJ5_append_3fe6f_42 (by decide) ?_
      refine v_aload_n (pc := 75) hX dJ5_append_3fe6f_75 rfl ?_
      exact v_aret (v := some sb) (pc := 76) hX hZ dJ5_append_3fe6f_76 (Or.inl ⟨_, rfl⟩) (by decide) (by decide) ⟨(by rw [J5_append_3fe6f_r]), (by rw [J5_append_3fe6f_m])⟩
def J4_append_cf468_r (g : mG) (m : mM) (sb : Nat) (a : Int32) (va : Nat) (cap : Nat) (c : Nat) : Option Nat := some sb
def J4_append_cf468_m (g : mG) (m : mM) (sb : Nat) (a : Int32) (va : Nat) (cap : Nat) (c : Nat) : mM := (J5_append_3fe6f_m g m sb a va cap c)

set_option maxHeartbeats 4000000 in
set_option maxRecDepth 100000 in
theorem c_J4_append_cf468 {l : Launch} {g : mG} (hO : mO l g) (m : mM) (sb : Nat) (a : Int32) (va : Nat) (cap : Nat) (c : Nat) (hs : SL m sb va cap c) (hc : c ≤ 64) (hch : ¬ 255 < a) : mT l g yJ4_append_cf468 (.code yJ4_append_cf468 cJ4_append_cf468 2 (Option.some (FieldType.object "java/lang/StringBuilder"))) 5 112 1 262 [.ref sb, .int a] m (fun r m' => r = some (va_rf (J4_append_cf468_r g m sb a va cap c)) ∧ m' = J4_append_cf468_m g m sb a va cap c) nX := by
  refine mT_of hO (by decide) (Nat.le_of_ble_eq_true rfl) (fun x hX hZ => ?_)
  show mV g x m 0 0 0 [(0, .ref sb), (1, .int a)] []
  refine v_aload_n (pc := 0) hX dJ4_append_cf468_0 rfl ?_
  refine v_iload_n (pc := 1) hX dJ4_append_cf468_1 rfl ?_
  refine v_callSU (z := yJ5_append_3fe6f) (pc := 2) hX dJ4_append_cf468_2 (c_J5_append_3fe6f hO m sb a va cap c hs hc hch) hs.k (C := "java/lang/StringBuilder") rfl wd_822 wd_1973 wd_304 wd_823 wd_12 wd_824 ⟨by decide, (by decide +kernel : (parseMethodDescriptor yJ5_append_3fe6f.desc).map (fun d => d.parameters.length) = some 1)⟩ rfl (Nat.le_of_ble_eq_true rfl) ⟨⟨by decide, by decide⟩, by decide, by decide⟩ (fun E m9 h9 => h9.elim) (fun r9 m9 h9 => ?_)
  obtain ⟨rfl, h8⟩ := h9
  replace h8 := h8.symm
  subst h8
  show mV g x _ _ _ _ _ [.ref sb]
  refine v_pop (pc := 5) hX dJ4_append_cf468_5 rfl ?_
  refine v_aload_n (pc := 6) hX dJ4_append_cf468_6 rfl ?_
  exact v_aret (v := some sb) (pc := 7) hX hZ dJ4_append_cf468_7 (Or.inl ⟨_, rfl⟩) (by decide) (by decide) ⟨(by rw [J4_append_cf468_r]), (by rw [J4_append_cf468_m])⟩
