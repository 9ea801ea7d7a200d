theorem gc_K {g : mG} {m : mM} {n k v cap : Nat} : gK (J6_getChars_ba4f3_m g m n k v cap) = gK m := by
  unfold J6_getChars_ba4f3_m
  repeat' split
  all_goals rfl
def J5_append_c97b9_r (g : mG) (m : mM) (sb : Nat) (n : Nat) (va : Nat) (cap : Nat) (c : Nat) : Option Nat := some sb
def J5_append_c97b9_m (g : mG) (m : mM) (sb : Nat) (n : Nat) (va : Nat) (cap : Nat) (c : Nat) : mM := (sI (J6_getChars_ba4f3_m g ((J5_ensureCapacityInternal_d00df_m g m sb (c + digs n) va cap c)) n (c + digs n) (vaO (J5_ensureCapacityInternal_d00df_m g m sb (c + digs n) va cap c) sb) ((caO (J5_ensureCapacityInternal_d00df_m g m sb (c + digs n) va cap c) sb))) 35 sb (nI (c + digs n)))

set_option maxHeartbeats 4000000 in
set_option maxRecDepth 100000 in
theorem c_J5_append_c97b9 {l : Launch} {g : mG} (hO : mO l g) (m : mM) (sb : Nat) (n : Nat) (va : Nat) (cap : Nat) (c : Nat) (hs : SL m sb va cap c) (hc : c ≤ 60) (hn : n < 10000) : mT l g yJ5_append_c97b9 (.code yJ5_append_c97b9 cJ5_append_c97b9 4 (Option.some (FieldType.object "java/lang/AbstractStringBuilder"))) 4 91 1 262 [.ref sb, .int (nI n)] m (fun r m' => r = some (va_rf (J5_append_c97b9_r g m sb n va cap c)) ∧ m' = J5_append_c97b9_m g m sb n va cap c) nX := by
  refine mT_of hO (by decide) (Nat.le_of_ble_eq_true rfl) (fun x hX hZ => ?_)
  show mV g x m 0 0 0 [(0, .ref sb), (1, .int (nI n))] []
  refine mV_fresh (fun hF => ?_)
  have e1 := ens_SL (g := g) (k := c + digs n) hs hF (by have := (digs_le n).2.1; omega) (by have := hs.le; have := hs.lo; have := (digs_le n).2.1; omega)
  refine v_aload_n (pc := 0) hX dJ5_append_c97b9_0 rfl ?_
  refine v_get (v := .int (nI c)) (pc := 1) hX dJ5_append_c97b9_1 hs.k (ci := 1) (r := vwC1) rfl 3 (by decide) wd_295 (congrArg Value.int hs.ct) ?_
  refine v_istore_n (pc := 4) hX dJ5_append_c97b9_4 (by decide) rfl ?_
  refine v_iload_n (pc := 5) hX dJ5_append_c97b9_5 rfl ?_
  refine v_iload_n (pc := 6) hX dJ5_append_c97b9_6 rfl ?_
  refine v_callS (z := yJ6_stringSize_0f7a4) (pc := 7) hX dJ5_append_c97b9_7 (c_J6_stringSize_0f7a4 hO m n  hn) wd_608 wd_609 wd_36 wd_610 ⟨by decide, by decide, (by decide +kernel : (parseMethodDescriptor yJ6_stringSize_0f7a4.desc).map (fun d => d.parameters.length) = some 1)⟩ rfl (Nat.le_of_ble_eq_true rfl) ⟨⟨by decide, by decide⟩, by decide, by decide⟩ (fun E m9 h9 => h9.elim) (fun r9 m9 h9 => ?_)
  obtain ⟨rfl, h8⟩ := h9
  replace h8 := h8.symm
  subst h8
  show mV g x _ _ _ _ _ [.int (J6_stringSize_0f7a4_r g m n ), .int (nI c)]
  rw [ss_eq hn]
  refine v_iadd (pc := 10) hX dJ5_append_c97b9_10 ?_
  rw [nI_add]
  refine v_istore_n (pc := 11) hX dJ5_append_c97b9_11 (by decide) rfl ?_
  refine v_aload_n (pc := 12) hX dJ5_append_c97b9_12 rfl ?_
  refine v_iload_n (pc := 13) hX dJ5_append_c97b9_13 rfl ?_
  refine v_callUP (z := yJ5_ensureCapacityInternal_d00df) (pc := 14) hX dJ5_append_c97b9_14 (c_J5_ensureCapacityInternal_d00df hO m sb (c + digs n) va cap c hs (by have := (digs_le n).2.1; omega) (by have := hs.le; have := hs.lo; have := (digs_le n).2.1; omega)) (C := "java/lang/StringBuilder") hs.k rfl wd_496 wd_1966 wd_530 rfl wd_497 wd_498 wd_12 wd_499 ⟨by decide, by decide, (by decide +kernel : (parseMethodDescriptor "(I)V").map (fun d => d.parameters.length) = some 1)⟩ rfl (Nat.le_of_ble_eq_true rfl) ⟨⟨by decide, by decide⟩, by decide, by decide⟩ (fun E m9 h9 => h9.elim) (fun r9 m9 h9 => ?_)
  obtain ⟨rfl, h8⟩ := h9
  replace h8 := h8.symm
  subst h8
  show mV g x _ _ _ _ _ []
  refine v_aload_n (pc := 17) hX dJ5_append_c97b9_17 rfl ?_
  refine v_callU (z := yJ5_isLatin1_aae02) (pc := 18) hX dJ5_append_c97b9_18 (c_J5_isLatin1_aae02 hO ((J5_ensureCapacityInternal_d00df_m g m sb (c + digs n) va cap c)) sb ((vaO (J5_ensureCapacityInternal_d00df_m g m sb (c + digs n) va cap c) sb)) ((caO (J5_ensureCapacityInternal_d00df_m g m sb (c + digs n) va cap c) sb)) c e1.1) (C := "java/lang/StringBuilder") (xm := ⟨"java/lang/AbstractStringBuilder", "isLatin1", "()Z"⟩) e1.1.k rfl wd_527 wd_529 wd_530 wd_528 wd_12 wd_531 rfl ⟨by decide, by decide, (by decide +kernel : (parseMethodDescriptor "()Z").map (fun d => d.parameters.length) = some 0)⟩ rfl (Nat.le_of_ble_eq_true rfl) ⟨⟨by decide, by decide⟩, by decide, by decide⟩ (fun E m9 h9 => h9.elim) (fun r9 m9 h9 => ?_)
  obtain ⟨rfl, h8⟩ := h9
  replace h8 := h8.symm
  subst h8
  show mV g x _ _ _ _ _ [.int (J5_isLatin1_aae02_r g ((J5_ensureCapacityInternal_d00df_m g m sb (c + digs n) va cap c)) sb ((vaO (J5_ensureCapacityInternal_d00df_m g m sb (c + digs n) va cap c) sb)) ((caO (J5_ensureCapacityInternal_d00df_m g m sb (c + digs n) va cap c) sb)) c)]
  refine v_if_eq (tgt := 37) (pc := 21) hX dJ5_append_c97b9_21 (by decide) (fun c1 => ?_) (fun c1 => ?_)
  · exact absurd c1 (show ¬ (1 : Int32) = 0 by decide)
  ·
    refine v_iload_n (pc := 24) hX dJ5_append_c97b9_24 rfl ?_
    refine v_iload_n (pc := 25) hX dJ5_append_c97b9_25 rfl ?_
    refine v_aload_n (pc := 26) hX dJ5_append_c97b9_26 rfl ?_
    refine v_get (v := .ref (vaO (J5_ensureCapacityInternal_d00df_m g m sb (c + digs n) va cap c) sb)) (pc := 27) hX dJ5_append_c97b9_27 e1.1.k (ci := 1) (r := vwC1) rfl 0 (by decide) wd_291 (fvR e1.1.r) ?_
    refine v_callS (z := yJ6_getChars_ba4f3) (pc := 30) hX dJ5_append_c97b9_30 (c_J6_getChars_ba4f3 hO ((J5_ensureCapacityInternal_d00df_m g m sb (c + digs n) va cap c)) n (c + digs n) (vaO (J5_ensureCapacityInternal_d00df_m g m sb (c + digs n) va cap c) sb) ((caO (J5_ensureCapacityInternal_d00df_m g m sb (c + digs n) va cap c) sb)) hn e1.1.kv e1.2.1 (by have := e1.1.hi; omega) (by omega)) wd_611 wd_612 wd_36 wd_613 ⟨by decide, by decide, (by decide +kernel : (parseMethodDescriptor yJ6_getChars_ba4f3.desc).map (fun d => d.parameters.length) = some 3)⟩ rfl (Nat.le_of_ble_eq_true rfl) ⟨⟨by decide, by decide⟩, by decide, by decide⟩ (fun E m9 h9 => h9.elim) (fun r9 m9 h9 => ?_)
    obtain ⟨rfl, h8⟩ := h9
    replace h8 := h8.symm
    subst h8
    show mV g x _ _ _ _ _ [.int (J6_getChars_ba4f3_r g ((J5_ensureCapacityInternal_d00df_m g m sb (c + digs n) va cap c)) n (c + digs n) (vaO (J5_ensureCapacityInternal_d00df_m g m sb (c + digs n) va cap c) sb) ((caO (J5_ensureCapacityInternal_d00df_m g m sb (c + digs n) va cap c) sb)))]
    refine v_pop (pc := 33) hX dJ5_append_c97b9_33 rfl ?_
    refine v_goto (tgt := 48) (pc := 34) hX dJ5_append_c97b9_34 (by decide) ?_
    refine v_aload_n (pc := 48) hX dJ5_append_c97b9_48 rfl ?_
    refine v_iload_n (pc := 49) hX dJ5_append_c97b9_49 rfl ?_
    refine v_put (m1 := (sI (J6_getChars_ba4f3_m g ((J5_ensureCapacityInternal_d00df_m g m sb (c + digs n) va cap c)) n (c + digs n) (vaO (J5_ensureCapacityInternal_d00df_m g m sb (c + digs n) va cap c) sb) ((caO (J5_ensureCapacityInternal_d00df_m g m sb (c + digs n) va cap c) sb))) 35 sb (nI (c + digs n)))) (pc := 50) hX dJ5_append_c97b9_50 (by rw [gc_K]; exact e1.1.k) (ci := 1) (r := vwC1) rfl 3 (by decide) wd_295 rfl rfl rfl rfl ?_
    refine v_aload_n (pc := 53) hX dJ5_append_c97b9_53 rfl ?_
    exact v_aret (v := some sb) (pc := 54) hX hZ dJ5_append_c97b9_54 (Or.inl ⟨_, rfl⟩) (by decide) (by decide) ⟨(by rw [J5_append_c97b9_r]), (by rw [J5_append_c97b9_m])⟩
def J4_append_bf812_r (g : mG) (m : mM) (sb : Nat) (n : Nat) (va : Nat) (cap : Nat) (c : Nat) : Option Nat := some sb
def J4_append_bf812_m (g : mG) (m : mM) (sb : Nat) (n : Nat) (va : Nat) (cap : Nat) (c : Nat) : mM := (J5_append_c97b9_m g m sb n va cap c)

set_option maxHeartbeats 4000000 in
set_option maxRecDepth 100000 in
theorem c_J4_append_bf812 {l : Launch} {g : mG} (hO : mO l g) (m : mM) (sb : Nat) (n : Nat) (va : Nat) (cap : Nat) (c : Nat) (hs : SL m sb va cap c) (hc : c ≤ 60) (hn : n < 10000) : mT l g yJ4_append_bf812 (.code yJ4_append_bf812 cJ4_append_bf812 2 (Option.some (FieldType.object "java/lang/StringBuilder"))) 5 114 1 262 [.ref sb, .int (nI n)] m (fun r m' => r = some (va_rf (J4_append_bf812_r g m sb n va cap c)) ∧ m' = J4_append_bf812_m g m sb n va cap c) nX := by
  refine mT_of hO (by decide) (Nat.le_of_ble_eq_true rfl) (fun x hX hZ => ?_)
  show mV g x m 0 0 0 [(0, .ref sb), (1, .int (nI n))] []
  refine v_aload_n (pc := 0) hX dJ4_append_bf812_0 rfl ?_
  refine v_iload_n (pc := 1) hX dJ4_append_bf812_1 rfl ?_
  refine v_callSU (z := yJ5_append_c97b9) (pc := 2) hX dJ4_append_bf812_2 (c_J5_append_c97b9 hO m sb n va cap c hs hc hn) hs.k (C := "java/lang/StringBuilder") rfl wd_605 wd_1971 wd_304 wd_606 wd_12 wd_607 ⟨by decide, (by decide +kernel : (parseMethodDescriptor yJ5_append_c97b9.desc).map (fun d => d.parameters.length) = some 1)⟩ rfl (Nat.le_of_ble_eq_true rfl) ⟨⟨by decide, by decide⟩, by decide, by decide⟩ (fun E m9 h9 => h9.elim) (fun r9 m9 h9 => ?_)
  obtain ⟨rfl, h8⟩ := h9
  replace h8 := h8.symm
  subst h8
  show mV g x _ _ _ _ _ [.ref sb]
  refine v_pop (pc := 5) hX dJ4_append_bf812_5 rfl ?_
  refine v_aload_n (pc := 6) hX dJ4_append_bf812_6 rfl ?_
  exact v_aret (v := some sb) (pc := 7) hX hZ dJ4_append_bf812_7 (Or.inl ⟨_, rfl⟩) (by decide) (by decide) ⟨(by rw [J4_append_bf812_r]), (by rw [J4_append_bf812_m])⟩
theorem ens_0 {g : mG} {m : mM} {sb va cap c k : Nat} (hs : SL m sb va cap c) (hk : k ≤ c) : J5_ensureCapacityInternal_d00df_m g m sb k va cap c = m := by
  unfold J5_ensureCapacityInternal_d00df_m
  rw [if_pos (le_sub0 (Nat.le_trans hk hs.le) (by have := hs.hi; omega))]
theorem c_ens0 {l : Launch} {g : mG} (hO : mO l g) (m : mM) (sb k va cap c : Nat) (hs : SL m sb va cap c) (hk : k ≤ c) (h65 : k ≤ 65) : mT l g yJ5_ensureCapacityInternal_d00df (.code yJ5_ensureCapacityInternal_d00df cJ5_ensureCapacityInternal_d00df 3 (Option.none : Option FieldType)) 3 69 1 262 [.ref sb, .int (nI k)] m (fun r m' => r = none ∧ m' = m) nX :=
  mT_imp (c_J5_ensureCapacityInternal_d00df hO m sb k va cap c hs h65 (by have := hs.le; omega)) (fun r m' h => ⟨h.1, h.2.trans (ens_0 hs hk)⟩) (fun E m' h => h)
def J5_setLength_d00df_m (g : mG) (m : mM) (sb : Nat) (k : Nat) (va : Nat) (cap : Nat) (c : Nat) : mM := if (nI c) ≤ (nI k) then ((sI m 35 sb (nI k))) else ((sI (sI m 34 sb 1) 35 sb (nI k)))

set_option maxHeartbeats 4000000 in
set_option maxRecDepth 100000 in
theorem c_J5_setLength_d00df {l : Launch} {g : mG} (hO : mO l g) (m : mM) (sb : Nat) (k : Nat) (va : Nat) (cap : Nat) (c : Nat) (hs : SL m sb va cap c) (hk : k ≤ c) (h65 : k ≤ 65) : mT l g yJ5_setLength_d00df (.code yJ5_setLength_d00df cJ5_setLength_d00df 2 (Option.none : Option FieldType)) 4 91 1 262 [.ref sb, .int (nI k)] m (fun r m' => r = none ∧ m' = J5_setLength_d00df_m g m sb k va cap c) nX := by
  refine mT_of hO (by decide) (Nat.le_of_ble_eq_true rfl) (fun x hX hZ => ?_)
  show mV g x m 0 0 0 [(0, .ref sb), (1, .int (nI k))] []
  refine v_iload_n (pc := 0) hX dJ5_setLength_d00df_0 rfl ?_
  refine v_if_ge (tgt := 13) (pc := 1) hX dJ5_setLength_d00df_1 (by decide) (fun c1 => ?_) (fun c1 => ?_)
  ·
    refine v_aload_n (pc := 13) hX dJ5_setLength_d00df_13 rfl ?_
    refine v_iload_n (pc := 14) hX dJ5_setLength_d00df_14 rfl ?_
    refine v_callUP (z := yJ5_ensureCapacityInternal_d00df) (pc := 15) hX dJ5_setLength_d00df_15 (c_ens0 hO m sb k va cap c hs hk h65) (C := "java/lang/StringBuilder") hs.k rfl wd_496 wd_1966 wd_530 rfl wd_497 wd_498 wd_12 wd_499 ⟨by decide, by decide, (by decide +kernel : (parseMethodDescriptor "(I)V").map (fun d => d.parameters.length) = some 1)⟩ rfl (Nat.le_of_ble_eq_true rfl) ⟨⟨by decide, by decide⟩, by decide, by decide⟩ (fun E m9 h9 => h9.elim) (fun r9 m9 h9 => ?_)
    obtain ⟨rfl, h8⟩ := h9
    replace h8 := h8.symm
    subst h8
    show mV g x _ _ _ _ _ []
    refine v_aload_n (pc := 18) hX dJ5_setLength_d00df_18 rfl ?_
    refine v_get (v := .int (nI c)) (pc := 19) hX dJ5_setLength_d00df_19 hs.k (ci := 1) (r := vwC1) rfl 3 (by decide) wd_295 (congrArg Value.int hs.ct) ?_
    refine v_iload_n (pc := 22) hX dJ5_setLength_d00df_22 rfl ?_
    refine v_icmp_ge (tgt := 63) (pc := 23) hX dJ5_setLength_d00df_23 (by decide) (fun c2 => ?_) (fun c2 => ?_)
    ·
      refine v_aload_n (pc := 63) hX dJ5_setLength_d00df_63 rfl ?_
      refine v_get (v := .int (nI c)) (pc := 64) hX dJ5_setLength_d00df_64 hs.k (ci := 1) (r := vwC1) rfl 3 (by decide) wd_295 (congrArg Value.int hs.ct) ?_
      refine v_iload_n (pc := 67) hX dJ5_setLength_d00df_67 rfl ?_
      refine v_icmp_le (tgt := 76) (pc := 68) hX dJ5_setLength_d00df_68 (by decide) (fun c3 => ?_) (fun c3 => ?_)
      ·
        refine v_aload_n (pc := 76) hX dJ5_setLength_d00df_76 rfl ?_
        refine v_iload_n (pc := 77) hX dJ5_setLength_d00df_77 rfl ?_
        refine v_put (m1 := (sI m 35 sb (nI k))) (pc := 78) hX dJ5_setLength_d00df_78 hs.k (ci := 1) (r := vwC1) rfl 3 (by decide) wd_295 rfl rfl rfl rfl ?_
        exact v_vret (pc := 81) hX hZ dJ5_setLength_d00df_81 (by decide) (by decide) ⟨rfl, (by rw [J5_setLength_d00df_m, if_pos c3])⟩
      ·
        refine v_aload_n (pc := 71) hX dJ5_setLength_d00df_71 rfl ?_
        refine v_iconst (v := 1) (pc := 72) hX dJ5_setLength_d00df_72 (by decide) ?_
        refine v_put (m1 := (sI m 34 sb 1)) (pc := 73) hX dJ5_setLength_d00df_73 hs.k (ci := 1) (r := vwC1) rfl 2 (by decide) wd_293 rfl (by decide) (by decide) rfl ?_
        refine v_aload_n (pc := 76) hX dJ5_setLength_d00df_76 rfl ?_
        refine v_iload_n (pc := 77) hX dJ5_setLength_d00df_77 rfl ?_
        refine v_put (m1 := (sI (sI m 34 sb 1) 35 sb (nI k))) (pc := 78) hX dJ5_setLength_d00df_78 (by simp only [mm]; exact hs.k) (ci := 1) (r := vwC1) rfl 3 (by decide) wd_295 rfl rfl rfl rfl ?_
        exact v_vret (pc := 81) hX hZ dJ5_setLength_d00df_81 (by decide) (by decide) ⟨rfl, (by rw [J5_setLength_d00df_m, if_neg c3])⟩
    · exact absurd (nI_le hk (by have := hs.le; have := hs.hi; omega)) c2
  · exact absurd (nI_pos' (by omega)) c1
def J4_setLength_d00df_m (g : mG) (m : mM) (sb : Nat) (k : Nat) (va : Nat) (cap : Nat) (c : Nat) : mM := (J5_setLength_d00df_m g m sb k va cap c)

set_option maxHeartbeats 4000000 in
set_option maxRecDepth 100000 in
theorem c_J4_setLength_d00df {l : Launch} {g : mG} (hO : mO l g) (m : mM) (sb : Nat) (k : Nat) (va : Nat) (cap : Nat) (c : Nat) (hs : SL m sb va cap c) (hk : k ≤ c) (h65 : k ≤ 65) : mT l g yJ4_setLength_d00df (.code yJ4_setLength_d00df cJ4_setLength_d00df 2 (Option.none : Option FieldType)) 5 112 1 262 [.ref sb, .int (nI k)] m (fun r m' => r = none ∧ m' = J4_setLength_d00df_m g m sb k va cap c) nX := by
  refine mT_of hO (by decide) (Nat.le_of_ble_eq_true rfl) (fun x hX hZ => ?_)
  show mV g x m 0 0 0 [(0, .ref sb), (1, .int (nI k))] []
  refine v_aload_n (pc := 0) hX dJ4_setLength_d00df_0 rfl ?_
  refine v_iload_n (pc := 1) hX dJ4_setLength_d00df_1 rfl ?_
  refine v_callSU (z := yJ5_setLength_d00df) (pc := 2) hX dJ4_setLength_d00df_2 (c_J5_setLength_d00df hO m sb k va cap c hs hk h65) hs.k (C := "java/lang/StringBuilder") rfl wd_474 wd_1963 wd_304 wd_475 wd_12 wd_476 ⟨by decide, (by decide +kernel : (parseMethodDescriptor yJ5_setLength_d00df.desc).map (fun d => d.parameters.length) = some 1)⟩ rfl (Nat.le_of_ble_eq_true rfl) ⟨⟨by decide, by decide⟩, by decide, by decide⟩ (fun E m9 h9 => h9.elim) (fun r9 m9 h9 => ?_)
  obtain ⟨rfl, h8⟩ := h9
  replace h8 := h8.symm
  subst h8
  show mV g x _ _ _ _ _ []
  exact v_vret (pc := 5) hX hZ dJ4_setLength_d00df_5 (by decide) (by decide) ⟨rfl, (by rw [J4_setLength_d00df_m])⟩
theorem min_ci {c cap : Nat} (h : c ≤ cap) (h2 : cap ≤ 130) : imin (nI c) (nI cap) = nI c := by
  unfold imin
  rw [if_neg (nI_nlt h (by omega))]
def J5_charAt_5068e_r (g : mG) (m : mM) (sb : Nat) (j : Nat) (va : Nat) (cap : Nat) (c : Nat) : Int32 := (((gA m va j) &&& 255).toUInt32 % 65536).toInt32

set_option maxHeartbeats 4000000 in
set_option maxRecDepth 100000 in
theorem c_J5_charAt_5068e {l : Launch} {g : mG} (hO : mO l g) (m : mM) (sb : Nat) (j : Nat) (va : Nat) (cap : Nat) (c : Nat) (hs : SL m sb va cap c) (hj : j < c) : mT l g yJ5_charAt_5068e (.code yJ5_charAt_5068e cJ5_charAt_5068e 5 (Option.some FieldType.char)) 3 63 0 0 [.ref sb, .int (nI j)] m (fun r m' => r = some (.int (J5_charAt_5068e_r g m sb j va cap c)) ∧ m' = m) nX := by
  refine mT_of hO (by decide) (Nat.le_of_ble_eq_true rfl) (fun x hX hZ => ?_)
  show mV g x m 0 0 0 [(0, .ref sb), (1, .int (nI j))] []
  refine v_aload_n (pc := 0) hX dJ5_charAt_5068e_0 rfl ?_
  refine v_get (v := .int 0) (pc := 1) hX dJ5_charAt_5068e_1 hs.k (ci := 1) (r := vwC1) rfl 1 (by decide) wd_292 (congrArg Value.int hs.cd) ?_
  refine v_istore_n (pc := 4) hX dJ5_charAt_5068e_4 (by decide) rfl ?_
  refine v_aload_n (pc := 5) hX dJ5_charAt_5068e_5 rfl ?_
  refine v_get (v := .ref va) (pc := 6) hX dJ5_charAt_5068e_6 hs.k (ci := 1) (r := vwC1) rfl 0 (by decide) wd_291 (fvR hs.r) ?_
  refine v_astore_n (pc := 9) hX dJ5_charAt_5068e_9 (by decide) rfl ?_
  refine v_aload_n (pc := 10) hX dJ5_charAt_5068e_10 rfl ?_
  refine v_get (v := .int (nI c)) (pc := 11) hX dJ5_charAt_5068e_11 hs.k (ci := 1) (r := vwC1) rfl 3 (by decide) wd_295 (congrArg Value.int hs.ct) ?_
  refine v_aload_n (pc := 14) hX dJ5_charAt_5068e_14 rfl ?_
  refine v_alen (pc := 15) hX dJ5_charAt_5068e_15 hs.kv (by decide) ?_
  refine v_iload_n (pc := 16) hX dJ5_charAt_5068e_16 rfl ?_
  refine v_ishr (pc := 17) hX dJ5_charAt_5068e_17 ?_
  rw [shr0]
  refine v_mmin (pc := 18) hX dJ5_charAt_5068e_18 wd_1472 (Nat.le_of_ble_eq_true rfl) ⟨by decide, by decide, by decide⟩ ?_
  rw [min_ci hs.le hs.hi]
  refine v_istore (pc := 21) hX dJ5_charAt_5068e_21 (by decide) rfl ?_
  refine v_iload_n (pc := 23) hX dJ5_charAt_5068e_23 rfl ?_
  refine v_iload (pc := 24) hX dJ5_charAt_5068e_24 rfl ?_
  refine v_callS (z := yJ0_checkIndex_df160) (pc := 26) hX dJ5_charAt_5068e_26 (c_J0_checkIndex_df160 hO m (nI j) (nI c)  (nI_pos (by have := hs.le; have := hs.hi; omega)) (nI_lt hj (by have := hs.le; have := hs.hi; omega))) wd_1473 wd_835 wd_14 wd_836 ⟨by decide, by decide, (by decide +kernel : (parseMethodDescriptor yJ0_checkIndex_df160.desc).map (fun d => d.parameters.length) = some 2)⟩ rfl (Nat.le_of_ble_eq_true rfl) ⟨⟨by decide, by decide⟩, by decide, by decide⟩ (fun E m9 h9 => h9.elim) (fun r9 m9 h9 => ?_)
  obtain ⟨rfl, h8⟩ := h9
  replace h8 := h8.symm
  subst h8
  show mV g x _ _ _ _ _ []
  refine v_iload_n (pc := 29) hX dJ5_charAt_5068e_29 rfl ?_
  refine v_if_ne (tgt := 42) (pc := 30) hX dJ5_charAt_5068e_30 (by decide) (fun c1 => ?_) (fun c1 => ?_)
  · exact absurd (by decide) c1
  ·
    refine v_aload_n (pc := 33) hX dJ5_charAt_5068e_33 rfl ?_
    refine v_iload_n (pc := 34) hX dJ5_charAt_5068e_34 rfl ?_
    refine v_bald (j := j) (v := gA m va j) (pc := 35) hX dJ5_charAt_5068e_35 hs.kv rfl (by have := hs.le; omega) (by have := hs.hi; omega) rfl ?_
    refine v_sipush (v := 255) (pc := 36) hX dJ5_charAt_5068e_36 (by decide) ?_
    refine v_iand (pc := 39) hX dJ5_charAt_5068e_39 ?_
    refine v_i2c (v := (((gA m va j) &&& 255).toUInt32 % 65536).toInt32) (pc := 40) hX dJ5_charAt_5068e_40 rfl ?_
    exact v_zret (pc := 41) hX hZ dJ5_charAt_5068e_41 (nar_c _) (by decide) (by decide) ⟨(by rw [J5_charAt_5068e_r]), rfl⟩
def J4_charAt_5068e_r (g : mG) (m : mM) (sb : Nat) (j : Nat) (va : Nat) (cap : Nat) (c : Nat) : Int32 := J5_charAt_5068e_r g m sb j va cap c

set_option maxHeartbeats 4000000 in
set_option maxRecDepth 100000 in
theorem c_J4_charAt_5068e {l : Launch} {g : mG} (hO : mO l g) (m : mM) (sb : Nat) (j : Nat) (va : Nat) (cap : Nat) (c : Nat) (hs : SL m sb va cap c) (hj : j < c) : mT l g yJ4_charAt_5068e (.code yJ4_charAt_5068e cJ4_charAt_5068e 2 (Option.some FieldType.char)) 4 87 0 0 [.ref sb, .int (nI j)] m (fun r m' => r = some (.int (J4_charAt_5068e_r g m sb j va cap c)) ∧ m' = m) nX := by
  refine mT_of hO (by decide) (Nat.le_of_ble_eq_true rfl) (fun x hX hZ => ?_)
  show mV g x m 0 0 0 [(0, .ref sb), (1, .int (nI j))] []
  refine v_aload_n (pc := 0) hX dJ4_charAt_5068e_0 rfl ?_
  refine v_iload_n (pc := 1) hX dJ4_charAt_5068e_1 rfl ?_
  refine v_callSU (z := yJ5_charAt_5068e) (pc := 2) hX dJ4_charAt_5068e_2 (c_J5_charAt_5068e hO m sb j va cap c hs hj) hs.k (C := "java/lang/StringBuilder") rfl wd_1469 wd_1975 wd_304 wd_1470 wd_12 wd_1471 ⟨by decide, (by decide +kernel : (parseMethodDescriptor yJ5_charAt_5068e.desc).map (fun d => d.parameters.length) = some 1)⟩ rfl (Nat.le_of_ble_eq_true rfl) ⟨⟨by decide, by decide⟩, by decide, by decide⟩ (fun E m9 h9 => h9.elim) (fun r9 m9 h9 => ?_)
  obtain ⟨rfl, h8⟩ := h9
  replace h8 := h8.symm
  subst h8
  show mV g x _ _ _ _ _ [.int (J5_charAt_5068e_r g m sb j va cap c)]
  exact v_zret (pc := 5) hX hZ dJ4_charAt_5068e_5 (nar_c _) (by decide) (by decide) ⟨(by rw [J4_charAt_5068e_r]), rfl⟩
