/-! A StringBuilder at sb: its bytes at va (cap places), c of them used -/
def SL (m : mM) (sb va cap c : Nat) : Prop := gK m sb = some (.inl 1) ∧ gR m 32 sb = some va ∧ gK m va = some (.inr (2, cap)) ∧ gI m 33 sb = 0 ∧ gI m 35 sb = nI c ∧ c ≤ cap ∧ (16 ≤ cap ∧ cap ≤ 130) ∧ ∀ i, fits .byte (.int (gA m va i)) = true
section
variable {m m1 : mM} {sb va cap c : Nat}
theorem SL.k (s : SL m sb va cap c) : gK m sb = some (.inl 1) := s.1
theorem SL.r (s : SL m sb va cap c) : gR m 32 sb = some va := s.2.1
theorem SL.kv (s : SL m sb va cap c) : gK m va = some (.inr (2, cap)) := s.2.2.1
theorem SL.cd (s : SL m sb va cap c) : gI m 33 sb = 0 := s.2.2.2.1
theorem SL.ct (s : SL m sb va cap c) : gI m 35 sb = nI c := s.2.2.2.2.1
theorem SL.le (s : SL m sb va cap c) : c ≤ cap := s.2.2.2.2.2.1
theorem SL.lo (s : SL m sb va cap c) : 16 ≤ cap := s.2.2.2.2.2.2.1.1
theorem SL.hi (s : SL m sb va cap c) : cap ≤ 130 := s.2.2.2.2.2.2.1.2
theorem SL.ft (s : SL m sb va cap c) (i : Nat) : fits .byte (.int (gA m va i)) = true := s.2.2.2.2.2.2.2 i
end
theorem shr0 (x : Int32) : x >>> ((0 : Int32) &&& 31) = x := by simp
theorem shl0 (x : Int32) : x <<< ((0 : Int32) &&& 31) = x := by simp
theorem lt_of_sub {k cap : Nat} (h : ¬ nI k - nI cap ≤ 0) (hk : k < 2 ^ 30) (hc : cap < 2 ^ 30) : cap < k := by
  rcases Nat.lt_or_ge cap k with q | q
  · exact q
  · refine absurd ?_ h
    rw [Int32.le_iff_toInt_le, Int32.toInt_sub, nI_toInt (by omega), nI_toInt (by omega), show (0 : Int32).toInt = 0 by decide, Int.bmod_def]
    omega
theorem ge_of_sub {k cap : Nat} (h : nI k - nI cap ≤ 0) (hk : k < 2 ^ 30) (hc : cap < 2 ^ 30) : k ≤ cap := by
  rcases Nat.lt_or_ge cap k with q | q
  · rw [Int32.le_iff_toInt_le, Int32.toInt_sub, nI_toInt (by omega), nI_toInt (by omega), show (0 : Int32).toInt = 0 by decide, Int.bmod_def] at h
    omega
  · exact q
theorem le_sub0 {k cap : Nat} (h : k ≤ cap) (hc : cap < 2 ^ 30) : nI k - nI cap ≤ 0 := by
  rw [Int32.le_iff_toInt_le, Int32.toInt_sub, nI_toInt (by omega), nI_toInt (by omega), show (0 : Int32).toInt = 0 by decide, Int.bmod_def]
  omega
theorem sub_nI {a b : Nat} (h : b ≤ a) : nI a - nI b = nI (a - b) := by
  obtain ⟨d, rfl⟩ := Nat.exists_eq_add_of_le h
  rw [← nI_add, Nat.add_sub_cancel_left, Int32.add_comm, Int32.add_sub_cancel]
theorem ncap_eq {k cap : Nat} (h1 : cap < k) (h2 : k ≤ 2 * cap + 2) (h3 : cap ≤ 130) : nI cap + imax (nI k - nI cap) (nI cap + 2) = nI (2 * cap + 2) := by
  rw [sub_nI (by omega), show nI cap + 2 = nI (cap + 2) from nI_add cap 2, show imax (nI (k - cap)) (nI (cap + 2)) = nI (cap + 2) from ?_, nI_add]
  · congr 1; omega
  · unfold imax
    split
    · rfl
    · rename_i c
      have h5 : ¬ (k - cap < cap + 2) := fun q => c (nI_lt q (by omega))
      have h4 : k - cap = cap + 2 := by omega
      rw [h4]
theorem ncap_0 {n : Nat} (h : 0 < n) (h2 : n < 2 ^ 30) : ¬ nI n ≤ 0 ∧ ¬ (2147483639 : Int32) < nI n ∧ ¬ nI n = 2147483647 := by
  refine ⟨nI_nle h (by omega), ?_, ?_⟩
  · rw [Int32.lt_iff_toInt_lt, nI_toInt (by omega), show (2147483639 : Int32).toInt = 2147483639 by decide]; omega
  · intro q
    have := congrArg Int32.toInt q
    rw [nI_toInt (by omega), show (2147483647 : Int32).toInt = 2147483647 by decide] at this
    omega
def J5_isLatin1_aae02_r (g : mG) (m : mM) (sb : Nat) (va : Nat) (cap : Nat) (c : Nat) : Int32 := 1

set_option maxHeartbeats 4000000 in
set_option maxRecDepth 100000 in
theorem c_J5_isLatin1_aae02 {l : Launch} {g : mG} (hO : mO l g) (m : mM) (sb : Nat) (va : Nat) (cap : Nat) (c : Nat) (hs : SL m sb va cap c) : mT l g yJ5_isLatin1_aae02 (.code yJ5_isLatin1_aae02 cJ5_isLatin1_aae02 1 (Option.some FieldType.boolean)) 1 20 0 0 [.ref sb] m (fun r m' => r = some (.int (J5_isLatin1_aae02_r g m sb va cap c)) ∧ m' = m) nX := by
  refine mT_of hO (by decide) (Nat.le_of_ble_eq_true rfl) (fun x hX hZ => ?_)
  show mV g x m 0 0 0 [(0, .ref sb)] []
  refine v_gets (v := .int 1) (pc := 0) hX dJ5_isLatin1_aae02_0 (cs_Z hO) wd_282 ?_
  refine v_if_eq (tgt := 17) (pc := 3) hX dJ5_isLatin1_aae02_3 (by decide) (fun c1 => ?_) (fun c1 => ?_)
  · exact absurd c1 (by decide)
  ·
    refine v_aload_n (pc := 6) hX dJ5_isLatin1_aae02_6 rfl ?_
    refine v_get (v := .int 0) (pc := 7) hX dJ5_isLatin1_aae02_7 hs.k (ci := 1) (r := vwC1) rfl 1 (by decide) wd_292 (congrArg Value.int hs.cd) ?_
    refine v_if_ne (tgt := 17) (pc := 10) hX dJ5_isLatin1_aae02_10 (by decide) (fun c2 => ?_) (fun c2 => ?_)
    · exact absurd (by decide) c2
    ·
      refine v_iconst (v := 1) (pc := 13) hX dJ5_isLatin1_aae02_13 (by decide) ?_
      refine v_goto (tgt := 18) (pc := 14) hX dJ5_isLatin1_aae02_14 (by decide) ?_
      exact v_zret (pc := 18) hX hZ dJ5_isLatin1_aae02_18 rfl (by decide) (by decide) ⟨(by rw [J5_isLatin1_aae02_r]), rfl⟩
def J5_length_8abf5_r (g : mG) (m : mM) (sb : Nat) (va : Nat) (cap : Nat) (c : Nat) : Int32 := nI c

set_option maxHeartbeats 4000000 in
set_option maxRecDepth 100000 in
theorem c_J5_length_8abf5 {l : Launch} {g : mG} (hO : mO l g) (m : mM) (sb : Nat) (va : Nat) (cap : Nat) (c : Nat) (hs : SL m sb va cap c) : mT l g yJ5_length_8abf5 (.code yJ5_length_8abf5 cJ5_length_8abf5 1 (Option.some FieldType.int)) 1 20 0 0 [.ref sb] m (fun r m' => r = some (.int (J5_length_8abf5_r g m sb va cap c)) ∧ m' = m) nX := by
  refine mT_of hO (by decide) (Nat.le_of_ble_eq_true rfl) (fun x hX hZ => ?_)
  show mV g x m 0 0 0 [(0, .ref sb)] []
  refine v_aload_n (pc := 0) hX dJ5_length_8abf5_0 rfl ?_
  refine v_get (v := .int (nI c)) (pc := 1) hX dJ5_length_8abf5_1 hs.k (ci := 1) (r := vwC1) rfl 3 (by decide) wd_295 (congrArg Value.int hs.ct) ?_
  exact v_iret (pc := 4) hX hZ dJ5_length_8abf5_4 (by decide) (by decide) ⟨(by rw [J5_length_8abf5_r]), rfl⟩
def J4_length_8abf5_r (g : mG) (m : mM) (sb : Nat) (va : Nat) (cap : Nat) (c : Nat) : Int32 := J5_length_8abf5_r g m sb va cap c

set_option maxHeartbeats 4000000 in
set_option maxRecDepth 100000 in
theorem c_J4_length_8abf5 {l : Launch} {g : mG} (hO : mO l g) (m : mM) (sb : Nat) (va : Nat) (cap : Nat) (c : Nat) (hs : SL m sb va cap c) : mT l g yJ4_length_8abf5 (.code yJ4_length_8abf5 cJ4_length_8abf5 1 (Option.some FieldType.int)) 2 40 0 0 [.ref sb] m (fun r m' => r = some (.int (J4_length_8abf5_r g m sb va cap c)) ∧ m' = m) nX := by
  refine mT_of hO (by decide) (Nat.le_of_ble_eq_true rfl) (fun x hX hZ => ?_)
  show mV g x m 0 0 0 [(0, .ref sb)] []
  refine v_aload_n (pc := 0) hX dJ4_length_8abf5_0 rfl ?_
  refine v_callSU (z := yJ5_length_8abf5) (pc := 1) hX dJ4_length_8abf5_1 (c_J5_length_8abf5 hO m sb va cap c hs) hs.k (C := "java/lang/StringBuilder") rfl wd_650 wd_646 wd_304 wd_645 wd_12 wd_651 ⟨by decide, (by decide +kernel : (parseMethodDescriptor yJ5_length_8abf5.desc).map (fun d => d.parameters.length) = some 0)⟩ rfl (Nat.le_of_ble_eq_true rfl) ⟨⟨by decide, by decide⟩, by decide, by decide⟩ (fun E m9 h9 => h9.elim) (fun r9 m9 h9 => ?_)
  obtain ⟨rfl, h8⟩ := h9
  replace h8 := h8.symm
  subst h8
  show mV g x _ _ _ _ _ [.int (J5_length_8abf5_r g m sb va cap c)]
  exact v_iret (pc := 4) hX hZ dJ4_length_8abf5_4 (by decide) (by decide) ⟨(by rw [J4_length_8abf5_r]), rfl⟩
def J1_canEncode_fc78d_r (g : mG) (m : mM) (a : Int32)  : Int32 := 1

set_option maxHeartbeats 4000000 in
set_option maxRecDepth 100000 in
theorem c_J1_canEncode_fc78d {l : Launch} {g : mG} (hO : mO l g) (m : mM) (a : Int32)  (hce : ¬ 255 < a) : mT l g yJ1_canEncode_fc78d (.code yJ1_canEncode_fc78d cJ1_canEncode_fc78d 1 (Option.some FieldType.boolean)) 1 20 0 0 [.int a] m (fun r m' => r = some (.int (J1_canEncode_fc78d_r g m a )) ∧ m' = m) nX := by
  refine mT_of hO (by decide) (Nat.le_of_ble_eq_true rfl) (fun x hX hZ => ?_)
  show mV g x m 0 0 0 [(0, .int a)] []
  refine v_iload_n (pc := 0) hX dJ1_canEncode_fc78d_0 rfl ?_
  refine v_sipush (v := 255) (pc := 1) hX dJ1_canEncode_fc78d_1 (by decide) ?_
  refine v_icmp_gt (tgt := 11) (pc := 4) hX dJ1_canEncode_fc78d_4 (by decide) (fun c1 => ?_) (fun c1 => ?_)
  · exact absurd c1 (hce)
  ·
    refine v_iconst (v := 1) (pc := 7) hX dJ1_canEncode_fc78d_7 (by decide) ?_
    refine v_goto (tgt := 12) (pc := 8) hX dJ1_canEncode_fc78d_8 (by decide) ?_
    exact v_zret (pc := 12) hX hZ dJ1_canEncode_fc78d_12 rfl (by decide) (by decide) ⟨(by rw [J1_canEncode_fc78d_r]), rfl⟩
def J8_newLength_cabcc_r (g : mG) (m : mM) (a : Int32) (b : Int32) (d : Int32)  : Int32 := a + (imax b d)

set_option maxHeartbeats 4000000 in
set_option maxRecDepth 100000 in
theorem c_J8_newLength_cabcc {l : Launch} {g : mG} (hO : mO l g) (m : mM) (a : Int32) (b : Int32) (d : Int32)  (h0 : ¬ a + imax b d ≤ 0) (h1 : ¬ 2147483639 < a + imax b d) : mT l g yJ8_newLength_cabcc (.code yJ8_newLength_cabcc cJ8_newLength_cabcc 4 (Option.some FieldType.int)) 1 21 0 0 [.int a, .int b, .int d] m (fun r m' => r = some (.int (J8_newLength_cabcc_r g m a b d )) ∧ m' = m) nX := by
  refine mT_of hO (by decide) (Nat.le_of_ble_eq_true rfl) (fun x hX hZ => ?_)
  show mV g x m 0 0 0 [(0, .int a), (1, .int b), (2, .int d)] []
  refine v_iload_n (pc := 0) hX dJ8_newLength_cabcc_0 rfl ?_
  refine v_iload_n (pc := 1) hX dJ8_newLength_cabcc_1 rfl ?_
  refine v_iload_n (pc := 2) hX dJ8_newLength_cabcc_2 rfl ?_
  refine v_mmax (pc := 3) hX dJ8_newLength_cabcc_3 wd_507 (Nat.le_of_ble_eq_true rfl) ⟨by decide, by decide, by decide⟩ ?_
  refine v_iadd (pc := 6) hX dJ8_newLength_cabcc_6 ?_
  refine v_istore_n (pc := 7) hX dJ8_newLength_cabcc_7 (by decide) rfl ?_
  refine v_iconst (v := 0) (pc := 8) hX dJ8_newLength_cabcc_8 (by decide) ?_
  refine v_iload_n (pc := 9) hX dJ8_newLength_cabcc_9 rfl ?_
  refine v_icmp_ge (tgt := 21) (pc := 10) hX dJ8_newLength_cabcc_10 (by decide) (fun c1 => ?_) (fun c1 => ?_)
  · exact absurd c1 (h0)
  ·
    refine v_iload_n (pc := 13) hX dJ8_newLength_cabcc_13 rfl ?_
    refine v_ldc (v := 2147483639) (pc := 14) hX dJ8_newLength_cabcc_14 wd_508 ?_
    refine v_icmp_gt (tgt := 21) (pc := 16) hX dJ8_newLength_cabcc_16 (by decide) (fun c2 => ?_) (fun c2 => ?_)
    · exact absurd c2 (h1)
    ·
      refine v_iload_n (pc := 19) hX dJ8_newLength_cabcc_19 rfl ?_
      exact v_iret (pc := 20) hX hZ dJ8_newLength_cabcc_20 (by decide) (by decide) ⟨(by rw [J8_newLength_cabcc_r]), rfl⟩
def J5_newCapacity_0f7a4_r (g : mG) (m : mM) (sb : Nat) (k : Nat) (va : Nat) (cap : Nat) (c : Nat) : Int32 := J8_newLength_cabcc_r g m (nI cap) ((nI k) - (nI cap)) ((nI cap) + 2) 

set_option maxHeartbeats 4000000 in
set_option maxRecDepth 100000 in
theorem c_J5_newCapacity_0f7a4 {l : Launch} {g : mG} (hO : mO l g) (m : mM) (sb : Nat) (k : Nat) (va : Nat) (cap : Nat) (c : Nat) (hs : SL m sb va cap c) (h1 : cap < k) (h2 : k ≤ 2 * cap + 2) : mT l g yJ5_newCapacity_0f7a4 (.code yJ5_newCapacity_0f7a4 cJ5_newCapacity_0f7a4 6 (Option.some FieldType.int)) 2 44 0 0 [.ref sb, .int (nI k)] m (fun r m' => r = some (.int (J5_newCapacity_0f7a4_r g m sb k va cap c)) ∧ m' = m) nX := by
  refine mT_of hO (by decide) (Nat.le_of_ble_eq_true rfl) (fun x hX hZ => ?_)
  show mV g x m 0 0 0 [(0, .ref sb), (1, .int (nI k))] []
  refine v_aload_n (pc := 0) hX dJ5_newCapacity_0f7a4_0 rfl ?_
  refine v_get (v := .ref va) (pc := 1) hX dJ5_newCapacity_0f7a4_1 hs.k (ci := 1) (r := vwC1) rfl 0 (by decide) wd_291 (fvR hs.r) ?_
  refine v_alen (pc := 4) hX dJ5_newCapacity_0f7a4_4 hs.kv (by decide) ?_
  refine v_istore_n (pc := 5) hX dJ5_newCapacity_0f7a4_5 (by decide) rfl ?_
  refine v_iload_n (pc := 6) hX dJ5_newCapacity_0f7a4_6 rfl ?_
  refine v_aload_n (pc := 7) hX dJ5_newCapacity_0f7a4_7 rfl ?_
  refine v_get (v := .int 0) (pc := 8) hX dJ5_newCapacity_0f7a4_8 hs.k (ci := 1) (r := vwC1) rfl 1 (by decide) wd_292 (congrArg Value.int hs.cd) ?_
  refine v_ishl (pc := 11) hX dJ5_newCapacity_0f7a4_11 ?_
  rw [shl0]
  refine v_istore_n (pc := 12) hX dJ5_newCapacity_0f7a4_12 (by decide) rfl ?_
  refine v_iload_n (pc := 13) hX dJ5_newCapacity_0f7a4_13 rfl ?_
  refine v_iload_n (pc := 14) hX dJ5_newCapacity_0f7a4_14 rfl ?_
  refine v_isub (pc := 15) hX dJ5_newCapacity_0f7a4_15 ?_
  refine v_istore (pc := 16) hX dJ5_newCapacity_0f7a4_16 (by decide) rfl ?_
  refine v_iload_n (pc := 18) hX dJ5_newCapacity_0f7a4_18 rfl ?_
  refine v_iload (pc := 19) hX dJ5_newCapacity_0f7a4_19 rfl ?_
  refine v_iload_n (pc := 21) hX dJ5_newCapacity_0f7a4_21 rfl ?_
  refine v_iconst (v := 2) (pc := 22) hX dJ5_newCapacity_0f7a4_22 (by decide) ?_
  refine v_aload_n (pc := 23) hX dJ5_newCapacity_0f7a4_23 rfl ?_
  refine v_get (v := .int 0) (pc := 24) hX dJ5_newCapacity_0f7a4_24 hs.k (ci := 1) (r := vwC1) rfl 1 (by decide) wd_292 (congrArg Value.int hs.cd) ?_
  refine v_ishl (pc := 27) hX dJ5_newCapacity_0f7a4_27 ?_
  rw [shl0]
  refine v_iadd (pc := 28) hX dJ5_newCapacity_0f7a4_28 ?_
  refine v_callS (z := yJ8_newLength_cabcc) (pc := 29) hX dJ5_newCapacity_0f7a4_29 (c_J8_newLength_cabcc hO m (nI cap) ((nI k) - (nI cap)) ((nI cap) + 2)  (by rw [ncap_eq h1 h2 hs.hi]; exact (ncap_0 (by omega) (by have := hs.hi; omega)).1) (by rw [ncap_eq h1 h2 hs.hi]; exact (ncap_0 (by omega) (by have := hs.hi; omega)).2.1)) wd_504 wd_505 wd_32 wd_506 ⟨by decide, by decide, (by decide +kernel : (parseMethodDescriptor yJ8_newLength_cabcc.desc).map (fun d => d.parameters.length) = some 3)⟩ rfl (Nat.le_of_ble_eq_true rfl) ⟨⟨by decide, by decide⟩, by decide, by decide⟩ (fun E m9 h9 => h9.elim) (fun r9 m9 h9 => ?_)
  obtain ⟨rfl, h8⟩ := h9
  replace h8 := h8.symm
  subst h8
  show mV g x _ _ _ _ _ [.int (J8_newLength_cabcc_r g m (nI cap) ((nI k) - (nI cap)) ((nI cap) + 2) )]
  refine v_istore (pc := 32) hX dJ5_newCapacity_0f7a4_32 (by decide) rfl ?_
  refine v_iload (pc := 34) hX dJ5_newCapacity_0f7a4_34 rfl ?_
  refine v_ldc (v := 2147483647) (pc := 36) hX dJ5_newCapacity_0f7a4_36 wd_512 ?_
  refine v_icmp_ne (tgt := 51) (pc := 38) hX dJ5_newCapacity_0f7a4_38 (by decide) (fun c1 => ?_) (fun c1 => ?_)
  ·
    refine v_iload (pc := 51) hX dJ5_newCapacity_0f7a4_51 rfl ?_
    refine v_aload_n (pc := 53) hX dJ5_newCapacity_0f7a4_53 rfl ?_
    refine v_get (v := .int 0) (pc := 54) hX dJ5_newCapacity_0f7a4_54 hs.k (ci := 1) (r := vwC1) rfl 1 (by decide) wd_292 (congrArg Value.int hs.cd) ?_
    refine v_ishr (pc := 57) hX dJ5_newCapacity_0f7a4_57 ?_
    rw [shr0]
    exact v_iret (pc := 58) hX hZ dJ5_newCapacity_0f7a4_58 (by decide) (by decide) ⟨(by rw [J5_newCapacity_0f7a4_r]), rfl⟩
  · exact absurd c1 ((show ¬ nI cap + imax (nI k - nI cap) (nI cap + 2) = 2147483647 by rw [ncap_eq h1 h2 hs.hi]; exact (ncap_0 (by omega) (by have := hs.hi; omega)).2.2))
theorem min_l {n k : Nat} (h : n < k) (hk : k ≤ 262 := by omega) : imin (nI n) (nI k) = nI n := by
  unfold imin
  rw [if_neg (nI_nlt (by omega) (by omega))]
theorem ne_nI {n k : Nat} (h : n < k) (hk : k ≤ 262) : ¬ nI k = nI n := fun q => by have := (nI_eq (by omega) (by omega)).mp q; omega
def J7_copyOf_9075b_r (g : mG) (m : mM) (v : Nat) (k : Nat) (n : Nat) : Option Nat := some (gN m)
def J7_copyOf_9075b_m (g : mG) (m : mM) (v : Nat) (k : Nat) (n : Nat) : mM := (sW ((nw m (.inr (2, k)))) (gN m) (va_cpy (gA ((nw m (.inr (2, k)))) v) (gA ((nw m (.inr (2, k)))) (gN m)) 0 0 n))

set_option maxHeartbeats 4000000 in
set_option maxRecDepth 100000 in
theorem c_J7_copyOf_9075b {l : Launch} {g : mG} (hO : mO l g) (m : mM) (v : Nat) (k : Nat) (n : Nat) (hv : gK m v = some (.inr (2, n))) (hn : n < k) (hk : k ≤ 262) (hf : ∀ i, fits .byte (.int (gA m v i)) = true) (hF : mF m) : mT l g yJ7_copyOf_9075b (.code yJ7_copyOf_9075b cJ7_copyOf_9075b 3 (Option.some (FieldType.array FieldType.byte))) 1 40 1 262 [.ref v, .int (nI k)] m (fun r m' => r = some (va_rf (J7_copyOf_9075b_r g m v k n)) ∧ m' = J7_copyOf_9075b_m g m v k n) nX := by
  refine mT_of hO (by decide) (Nat.le_of_ble_eq_true rfl) (fun x hX hZ => ?_)
  show mV g x m 0 0 0 [(0, .ref v), (1, .int (nI k))] []
  refine v_iload_n (pc := 0) hX dJ7_copyOf_9075b_0 rfl ?_
  refine v_aload_n (pc := 1) hX dJ7_copyOf_9075b_1 rfl ?_
  refine v_alen (pc := 2) hX dJ7_copyOf_9075b_2 hv (by decide) ?_
  refine v_icmp_ne (tgt := 14) (pc := 3) hX dJ7_copyOf_9075b_3 (by decide) (fun c1 => ?_) (fun c1 => ?_)
  ·
    refine v_iload_n (pc := 14) hX dJ7_copyOf_9075b_14 rfl ?_
    refine v_newarr (t := 2) (n := k) (pc := 15) hX dJ7_copyOf_9075b_15 rfl (by decide) wd_305 rfl (by omega) (by show 0 + 1 ≤ 1; omega) (by show 0 + k ≤ 262; omega) ?_
    refine v_astore_n (pc := 17) hX dJ7_copyOf_9075b_17 (by decide) rfl ?_
    refine v_aload_n (pc := 18) hX dJ7_copyOf_9075b_18 rfl ?_
    refine v_iconst (v := 0) (pc := 19) hX dJ7_copyOf_9075b_19 (by decide) ?_
    refine v_aload_n (pc := 20) hX dJ7_copyOf_9075b_20 rfl ?_
    refine v_iconst (v := 0) (pc := 21) hX dJ7_copyOf_9075b_21 (by decide) ?_
    refine v_aload_n (pc := 22) hX dJ7_copyOf_9075b_22 rfl ?_
    refine v_alen (pc := 23) hX dJ7_copyOf_9075b_23 (by rw [show gK (nw m (.inr (2, k))) v = gK m v from by simp [mm]; intro e; exact absurd (hF v _ hv) (by omega)]; exact hv) (by decide) ?_
    refine v_iload_n (pc := 24) hX dJ7_copyOf_9075b_24 rfl ?_
    refine v_mmin (pc := 25) hX dJ7_copyOf_9075b_25 wd_523 (Nat.le_of_ble_eq_true rfl) ⟨by decide, by decide, (by show 0 + k ≤ 262; omega)⟩ ?_
    refine v_acopy (n := n) (pc := 28) hX dJ7_copyOf_9075b_28 wd_524 wd_526 wd_525 wd_34 (by rw [show gK (nw m (.inr (2, k))) v = gK m v from by simp [mm]; intro e; exact absurd (hF v _ hv) (by omega)]; exact hv) (by simp [mm] : gK (nw m (.inr (2, k))) (gN m) = some (.inr (2, k))) (min_l hn) (Nat.le_refl _) (by omega) (by omega) (fun i => by rw [show gA (nw m (.inr (2, k))) v i = gA m v i from by simp [mm]; intro e; exact absurd (hF v _ hv) (by omega)]; exact hf i) (Nat.le_of_ble_eq_true rfl) ⟨by decide, by decide⟩ ?_
    refine v_aload_n (pc := 31) hX dJ7_copyOf_9075b_31 rfl ?_
    exact v_aret (v := some (gN m)) (pc := 32) hX hZ dJ7_copyOf_9075b_32 (Or.inr ⟨_, rfl⟩) (by decide) (by omega) ⟨(by rw [J7_copyOf_9075b_r]), (by rw [J7_copyOf_9075b_m])⟩
  · exact absurd c1 (ne_nI hn hk)
theorem ncap_r {g : mG} {m : mM} {sb k va cap c : Nat} (hs : SL m sb va cap c) (h1 : cap < k) (h2 : k ≤ 2 * cap + 2) : J5_newCapacity_0f7a4_r g m sb k va cap c = nI (2 * cap + 2) := ncap_eq h1 h2 hs.hi
/-- where the bytes of a StringBuilder lie, how many fit, how many there are -/
def vaO (m : mM) (sb : Nat) : Nat := (gR m 32 sb).getD 0
def caO (m : mM) (sb : Nat) : Nat := match gK m (vaO m sb) with
  | some (.inr (_, n)) => n
  | _ => 0
def cnO (m : mM) (sb : Nat) : Nat := (gI m 35 sb).toNatClampNeg
theorem SL.va {m : mM} {sb va cap c : Nat} (s : SL m sb va cap c) : vaO m sb = va := by
  unfold vaO
  rw [s.r]
  rfl
theorem SL.ca {m : mM} {sb va cap c : Nat} (s : SL m sb va cap c) : caO m sb = cap := by
  unfold caO
  rw [s.va, s.kv]
theorem SL.cn {m : mM} {sb va cap c : Nat} (s : SL m sb va cap c) : cnO m sb = c := by
  unfold cnO
  rw [s.ct, nI_clamp (by have := s.le; have := s.hi; omega)]
theorem SL.o {m : mM} {sb va cap c : Nat} (s : SL m sb va cap c) : SL m sb (vaO m sb) (caO m sb) c := by
  rw [s.va, s.ca]
  exact s
/-- what is neither text nor bytes stays -/
def KF (m m1 : mM) : Prop := gN m ≤ gN m1 ∧ ∀ (a : Nat) (kd : mK), gK m a = some kd → (∀ n, kd ≠ .inr (2, n)) → kd ≠ .inl 1 → gK m1 a = some kd ∧ mS m m1 a
theorem KF.rf {m : mM} : KF m m := ⟨Nat.le_refl _, fun _ _ h _ _ => ⟨h, mS_rf⟩⟩
theorem KF.tr {m m1 m2 : mM} (h : KF m m1) (q : KF m1 m2) : KF m m2 := ⟨Nat.le_trans h.1 q.1, fun a kd e1 e2 e3 => ⟨(q.2 a kd (h.2 a kd e1 e2 e3).1 e2 e3).1, mS_tr (h.2 a kd e1 e2 e3).2 (q.2 a kd (h.2 a kd e1 e2 e3).1 e2 e3).2⟩⟩
theorem cp_k {g : mG} {m : mM} {v k n a : Nat} {kd : mK} (hF : mF m) (h : gK m a = some kd) : gK (J7_copyOf_9075b_m g m v k n) a = some kd := by
  have h1 := hF a kd h
  show (if a = gN m then _ else gK m a) = some kd
  rw [if_neg (by omega)]
  exact h
def J5_ensureCapacityInternal_d00df_m (g : mG) (m : mM) (sb : Nat) (k : Nat) (va : Nat) (cap : Nat) (c : Nat) : mM := if ((nI k) - (nI cap)) ≤ 0 then m else ((sR (J7_copyOf_9075b_m g m va (2 * cap + 2) cap) 32 sb (some (gN m))))

set_option maxHeartbeats 4000000 in
set_option maxRecDepth 100000 in
theorem c_J5_ensureCapacityInternal_d00df {l : Launch} {g : mG} (hO : mO l g) (m : mM) (sb : Nat) (k : Nat) (va : Nat) (cap : Nat) (c : Nat) (hs : SL m sb va cap c) (h1 : k ≤ 65) (h2 : k ≤ 2 * cap + 2) : mT l g yJ5_ensureCapacityInternal_d00df (.code yJ5_ensureCapacityInternal_d00df cJ5_ensureCapacityInternal_d00df 3 (Option.none : Option FieldType)) 3 69 1 262 [.ref sb, .int (nI k)] m (fun r m' => r = none ∧ m' = J5_ensureCapacityInternal_d00df_m g m sb k va cap c) nX := by
  refine mT_of hO (by decide) (Nat.le_of_ble_eq_true rfl) (fun x hX hZ => ?_)
  show mV g x m 0 0 0 [(0, .ref sb), (1, .int (nI k))] []
  refine v_aload_n (pc := 0) hX dJ5_ensureCapacityInternal_d00df_0 rfl ?_
  refine v_get (v := .ref va) (pc := 1) hX dJ5_ensureCapacityInternal_d00df_1 hs.k (ci := 1) (r := vwC1) rfl 0 (by decide) wd_291 (fvR hs.r) ?_
  refine v_alen (pc := 4) hX dJ5_ensureCapacityInternal_d00df_4 hs.kv (by decide) ?_
  refine v_aload_n (pc := 5) hX dJ5_ensureCapacityInternal_d00df_5 rfl ?_
  refine v_get (v := .int 0) (pc := 6) hX dJ5_ensureCapacityInternal_d00df_6 hs.k (ci := 1) (r := vwC1) rfl 1 (by decide) wd_292 (congrArg Value.int hs.cd) ?_
  refine v_ishr (pc := 9) hX dJ5_ensureCapacityInternal_d00df_9 ?_
  rw [shr0]
  refine v_istore_n (pc := 10) hX dJ5_ensureCapacityInternal_d00df_10 (by decide) rfl ?_
  refine v_iload_n (pc := 11) hX dJ5_ensureCapacityInternal_d00df_11 rfl ?_
  refine v_iload_n (pc := 12) hX dJ5_ensureCapacityInternal_d00df_12 rfl ?_
  refine v_isub (pc := 13) hX dJ5_ensureCapacityInternal_d00df_13 ?_
  refine v_if_le (tgt := 38) (pc := 14) hX dJ5_ensureCapacityInternal_d00df_14 (by decide) (fun c1 => ?_) (fun c1 => ?_)
  ·
    exact v_vret (pc := 38) hX hZ dJ5_ensureCapacityInternal_d00df_38 (by decide) (by decide) ⟨rfl, (by rw [J5_ensureCapacityInternal_d00df_m, if_pos c1])⟩
  ·
    have hlt : cap < k := lt_of_sub c1 (by omega) (by have := hs.hi; omega)
    refine mV_fresh (fun hF => ?_)
    refine v_aload_n (pc := 17) hX dJ5_ensureCapacityInternal_d00df_17 rfl ?_
    refine v_aload_n (pc := 18) hX dJ5_ensureCapacityInternal_d00df_18 rfl ?_
    refine v_get (v := .ref va) (pc := 19) hX dJ5_ensureCapacityInternal_d00df_19 hs.k (ci := 1) (r := vwC1) rfl 0 (by decide) wd_291 (fvR hs.r) ?_
    refine v_aload_n (pc := 22) hX dJ5_ensureCapacityInternal_d00df_22 rfl ?_
    refine v_iload_n (pc := 23) hX dJ5_ensureCapacityInternal_d00df_23 rfl ?_
    refine v_callUP (z := yJ5_newCapacity_0f7a4) (pc := 24) hX dJ5_ensureCapacityInternal_d00df_24 (c_J5_newCapacity_0f7a4 hO m sb k va cap c hs hlt h2) (C := "java/lang/StringBuilder") hs.k rfl wd_500 wd_1967 wd_530 rfl wd_501 wd_502 wd_12 wd_503 ⟨by decide, by decide, (by decide +kernel : (parseMethodDescriptor "(I)I").map (fun d => d.parameters.length) = some 1)⟩ rfl (Nat.le_of_ble_eq_true rfl) ⟨⟨by decide, by decide⟩, by decide, by decide⟩ (fun E m9 h9 => h9.elim) (fun r9 m9 h9 => ?_)
    obtain ⟨rfl, h8⟩ := h9
    replace h8 := h8.symm
    subst h8
    show mV g x _ _ _ _ _ [.int (J5_newCapacity_0f7a4_r g m sb k va cap c), .ref va, .ref sb]
    rw [ncap_r hs hlt h2]
    refine v_aload_n (pc := 27) hX dJ5_ensureCapacityInternal_d00df_27 rfl ?_
    refine v_get (v := .int 0) (pc := 28) hX dJ5_ensureCapacityInternal_d00df_28 hs.k (ci := 1) (r := vwC1) rfl 1 (by decide) wd_292 (congrArg Value.int hs.cd) ?_
    refine v_ishl (pc := 31) hX dJ5_ensureCapacityInternal_d00df_31 ?_
    rw [shl0]
    refine v_callS (z := yJ7_copyOf_9075b) (pc := 32) hX dJ5_ensureCapacityInternal_d00df_32 (c_J7_copyOf_9075b hO m va (2 * cap + 2) cap hs.kv (by omega) (by have := hs.hi; omega) hs.ft hF) wd_513 wd_514 wd_33 wd_515 ⟨by decide, by decide, (by decide +kernel : (parseMethodDescriptor yJ7_copyOf_9075b.desc).map (fun d => d.parameters.length) = some 2)⟩ rfl (Nat.le_of_ble_eq_true rfl) ⟨⟨by decide, by decide⟩, by decide, by decide⟩ (fun E m9 h9 => h9.elim) (fun r9 m9 h9 => ?_)
    obtain ⟨rfl, h8⟩ := h9
    replace h8 := h8.symm
    subst h8
    show mV g x _ _ _ _ _ [.ref (gN m), .ref sb]
    refine v_put (m1 := (sR (J7_copyOf_9075b_m g m va (2 * cap + 2) cap) 32 sb (some (gN m)))) (pc := 35) hX dJ5_ensureCapacityInternal_d00df_35 (cp_k hF hs.k) (ci := 1) (r := vwC1) rfl 0 (by decide) wd_291 rfl rfl rfl rfl ?_
    exact v_vret (pc := 38) hX hZ dJ5_ensureCapacityInternal_d00df_38 (by decide) (by decide) ⟨rfl, (by rw [J5_ensureCapacityInternal_d00df_m, if_neg c1])⟩
