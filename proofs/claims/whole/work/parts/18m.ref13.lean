theorem dv_nI {x T : Nat} (hx : x < 10000) (hT : 0 < T ∧ T ≤ 1000) : nI x / nI T = nI (x / T) := by
  have h1 : x / T < 10000 := Nat.lt_of_le_of_lt (Nat.div_le_self _ _) hx
  apply i32_ext
  rw [nI_toInt (by omega), Int32.toInt_div, nI_toInt (by omega), nI_toInt (by omega), Int.bmod_def]
  have h2 : ((x : Int).tdiv (T : Int)) = ((x / T : Nat) : Int) := by rw [Int.tdiv_eq_ediv_of_nonneg (by omega)]; rfl
  rw [h2]
  clear h2
  generalize x / T = z at *
  rw [show ((2 ^ 32 : Nat) : Int) = 4294967296 from rfl]
  omega
theorem dv_lt {x : Nat} (hx : x < 10000) (h : x < 10000) : nI x / nI 1000 < 10 := by
  rw [dv_nI hx (by decide)]
  exact nI_lt (b := 10) (by omega) (by decide)
theorem wd_eq {x T : Nat} {t : Int32} (ht : t = nI T) (hT : 0 < T ∧ T ≤ 1000) (hx : x < 10000) : 48 + (nI x / t - nI x / t / 10 * 10) = nI (48 + x / T % 10) := by
  subst ht
  have h1 : x / T < 10000 := Nat.lt_of_le_of_lt (Nat.div_le_self _ _) hx
  rw [dv_nI hx hT, show (10 : Int32) = nI 10 from rfl, dv_nI h1 (by decide), show nI (x / T / 10) * nI 10 = nI (x / T / 10 * 10) from (Int32.ofNat_mul _ _).symm, sub_nI (by omega)]
  show nI 48 + _ = _
  rw [nI_add]
  congr 1
  omega
def X11_writes_m (g : mG) (m : mM) (r : Nat) (a : Int32)  : mM := (sI (sA m (r + 7) ((gI m 403 r).toNatClampNeg) a) 403 r ((gI m 403 r) + 1))
theorem kK_X11_writes (g : mG) (m : mM) (r : Nat) (a : Int32)  : gK (X11_writes_m g m r a ) = gK m := by
  unfold X11_writes_m
  repeat' split
  all_goals simp only [mm]
theorem kN_X11_writes (g : mG) (m : mM) (r : Nat) (a : Int32)  : gN (X11_writes_m g m r a ) = gN m := by
  unfold X11_writes_m
  repeat' split
  all_goals simp only [mm]
theorem kI_X11_writes (g : mG) (m : mM) (r : Nat) (a : Int32)  (k a9 : Nat) (h0 : k ≠ 403) : gI (X11_writes_m g m r a ) k a9 = gI m k a9 := by
  unfold X11_writes_m
  repeat' split
  all_goals simp [mm, h0]
theorem kJ_X11_writes (g : mG) (m : mM) (r : Nat) (a : Int32)  : gJ (X11_writes_m g m r a ) = gJ m := by
  unfold X11_writes_m
  repeat' split
  all_goals simp only [mm]
theorem kR_X11_writes (g : mG) (m : mM) (r : Nat) (a : Int32)  : gR (X11_writes_m g m r a ) = gR m := by
  unfold X11_writes_m
  repeat' split
  all_goals simp only [mm]
theorem kQ_X11_writes (g : mG) (m : mM) (r : Nat) (a : Int32)  : gQ (X11_writes_m g m r a ) = gQ m := by
  unfold X11_writes_m
  repeat' split
  all_goals simp only [mm]
theorem kL_X11_writes (g : mG) (m : mM) (r : Nat) (a : Int32)  : gL (X11_writes_m g m r a ) = gL m := by
  unfold X11_writes_m
  repeat' split
  all_goals simp only [mm]
theorem kD_X11_writes (g : mG) (m : mM) (r : Nat) (a : Int32)  : gD (X11_writes_m g m r a ) = gD m := by
  unfold X11_writes_m
  repeat' split
  all_goals simp only [mm]
theorem kA_X11_writes (g : mG) (m : mM) (r : Nat) (a : Int32)  (c9 i9 : Nat) (h0 : c9 ≠ r + 7) : gA (X11_writes_m g m r a ) c9 i9 = gA m c9 i9 := by
  unfold X11_writes_m
  repeat' split
  all_goals simp [mm, h0]
set_option maxHeartbeats 4000000 in
set_option maxRecDepth 100000 in
theorem c_X11_writes {l : Launch} {g : mG} (hO : mO l g) (m : mM) (r : Nat) (a : Int32)  (hs : SR m r) (hLn : okI (gI m 403 r) 49) : mT l g yX11_writes (.code yX11_writes cX11_writes 2 (Option.none : Option FieldType)) 1 20 0 0 [.ref r, .int a] m (fun u m' => u = none ∧ m' = X11_writes_m g m r a ) nX := by
  refine mT_of hO (by decide) (Nat.le_of_ble_eq_true rfl) (fun x hX hZ => ?_)
  show mV g x m 0 0 0 [(0, .ref r), (1, .int a)] []
  have hLn2 := hLn.2
  refine v_aload_n (pc := 0) hX dX11_writes_0 rfl ?_
  refine v_get (v := .ref (r + 7)) (pc := 1) hX dX11_writes_1 hs.k (ci := 12) (r := vwC12) rfl 11 (by decide) wd_1517 (fvA rfl hs.r7) ?_
  refine v_aload_n (pc := 4) hX dX11_writes_4 rfl ?_
  refine v_get (v := .int (gI m 403 r)) (pc := 5) hX dX11_writes_5 hs.k (ci := 12) (r := vwC12) rfl 19 (by decide) wd_1525 rfl ?_
  refine v_iload_n (pc := 8) hX dX11_writes_8 rfl ?_
  refine v_iast (j := (gI m 403 r).toNatClampNeg) (pc := 9) hX dX11_writes_9 hs.k7 hLn.1 (by omega) (by decide) ?_
  refine v_aload_n (pc := 10) hX dX11_writes_10 rfl ?_
  refine v_dup (pc := 11) hX dX11_writes_11 rfl ?_
  refine v_get (v := .int (gI m 403 r)) (pc := 12) hX dX11_writes_12 (by simp only [mm]; exact hs.k) (ci := 12) (r := vwC12) rfl 19 (by decide) wd_1525 (by show Value.int _ = Value.int _; simp [mm]) ?_
  refine v_iconst (v := 1) (pc := 15) hX dX11_writes_15 (by decide) ?_
  refine v_iadd (pc := 16) hX dX11_writes_16 ?_
  refine v_put (m1 := (sI (sA m (r + 7) ((gI m 403 r).toNatClampNeg) a) 403 r ((gI m 403 r) + 1))) (pc := 17) hX dX11_writes_17 (by simp only [mm]; exact hs.k) (ci := 12) (r := vwC12) rfl 19 (by decide) wd_1525 rfl rfl rfl rfl ?_
  exact v_vret (pc := 20) hX hZ dX11_writes_20 (by decide) (by decide) ⟨rfl, (by rw [X11_writes_m])⟩
theorem okI_mono {x : Int32} {A B : Nat} (h : okI x A) (hab : A ≤ B) : okI x B := ⟨h.1, Nat.le_trans h.2 hab⟩
theorem wr_Ln {g : mG} {m : mM} {r B : Nat} {a : Int32} (h : okI (gI m 403 r) B) (hB : B < 2 ^ 30 := by decide) : okI (gI (X11_writes_m g m r a) 403 r) (B + 1) := by
  unfold X11_writes_m
  simp [mm]
  have e : gI m 403 r + 1 = nI ((gI m 403 r).toNatClampNeg + 1) := by
    have h1 := h.1
    generalize gI m 403 r = z at *
    rw [← nI_1, ← h1]
  rw [e]
  exact okI_nI (by have := h.2; omega) (by omega)
def X11_writesNumber_m (g : mG) (m : mM) (r : Nat) (nn : Nat)  : mM := if ((nI nn) / 1) < 10 then ((X11_writes_m g m r (nI (48 + nn / 1 % 10)) )) else (if ((nI nn) / (1 * 10)) < 10 then ((X11_writes_m g ((X11_writes_m g m r (nI (48 + nn / 10 % 10)) )) r (nI (48 + nn / 1 % 10)) )) else (if ((nI nn) / ((1 * 10) * 10)) < 10 then ((X11_writes_m g ((X11_writes_m g ((X11_writes_m g m r (nI (48 + nn / 100 % 10)) )) r (nI (48 + nn / 10 % 10)) )) r (nI (48 + nn / 1 % 10)) )) else ((X11_writes_m g ((X11_writes_m g ((X11_writes_m g ((X11_writes_m g m r (nI (48 + nn / 1000 % 10)) )) r (nI (48 + nn / 100 % 10)) )) r (nI (48 + nn / 10 % 10)) )) r (nI (48 + nn / 1 % 10)) ))))
theorem kK_X11_writesNumber (g : mG) (m : mM) (r : Nat) (nn : Nat)  : gK (X11_writesNumber_m g m r nn ) = gK m := by
  unfold X11_writesNumber_m
  repeat' split
  all_goals simp only [mm, kK_X11_writes]
theorem kN_X11_writesNumber (g : mG) (m : mM) (r : Nat) (nn : Nat)  : gN (X11_writesNumber_m g m r nn ) = gN m := by
  unfold X11_writesNumber_m
  repeat' split
  all_goals simp only [mm, kN_X11_writes]
theorem kI_X11_writesNumber (g : mG) (m : mM) (r : Nat) (nn : Nat)  (k a9 : Nat) (h0 : k ≠ 403) : gI (X11_writesNumber_m g m r nn ) k a9 = gI m k a9 := by
  unfold X11_writesNumber_m
  repeat' split
  all_goals simp [mm, kI_X11_writes, h0]
theorem kJ_X11_writesNumber (g : mG) (m : mM) (r : Nat) (nn : Nat)  : gJ (X11_writesNumber_m g m r nn ) = gJ m := by
  unfold X11_writesNumber_m
  repeat' split
  all_goals simp only [mm, kJ_X11_writes]
theorem kR_X11_writesNumber (g : mG) (m : mM) (r : Nat) (nn : Nat)  : gR (X11_writesNumber_m g m r nn ) = gR m := by
  unfold X11_writesNumber_m
  repeat' split
  all_goals simp only [mm, kR_X11_writes]
theorem kQ_X11_writesNumber (g : mG) (m : mM) (r : Nat) (nn : Nat)  : gQ (X11_writesNumber_m g m r nn ) = gQ m := by
  unfold X11_writesNumber_m
  repeat' split
  all_goals simp only [mm, kQ_X11_writes]
theorem kL_X11_writesNumber (g : mG) (m : mM) (r : Nat) (nn : Nat)  : gL (X11_writesNumber_m g m r nn ) = gL m := by
  unfold X11_writesNumber_m
  repeat' split
  all_goals simp only [mm, kL_X11_writes]
theorem kD_X11_writesNumber (g : mG) (m : mM) (r : Nat) (nn : Nat)  : gD (X11_writesNumber_m g m r nn ) = gD m := by
  unfold X11_writesNumber_m
  repeat' split
  all_goals simp only [mm, kD_X11_writes]
theorem kA_X11_writesNumber (g : mG) (m : mM) (r : Nat) (nn : Nat)  (c9 i9 : Nat) (h0 : c9 ≠ r + 7) : gA (X11_writesNumber_m g m r nn ) c9 i9 = gA m c9 i9 := by
  unfold X11_writesNumber_m
  repeat' split
  all_goals simp [mm, kA_X11_writes, h0]
set_option maxHeartbeats 4000000 in
set_option maxRecDepth 100000 in
theorem c_X11_writesNumber {l : Launch} {g : mG} (hO : mO l g) (m : mM) (r : Nat) (nn : Nat)  (hs : SR m r) (hx : nn < 10000) (hLn : okI (gI m 403 r) 45) : mT l g yX11_writesNumber (.code yX11_writesNumber cX11_writesNumber 3 (Option.none : Option FieldType)) 2 41 0 0 [.ref r, .int (nI nn)] m (fun u m' => u = none ∧ m' = X11_writesNumber_m g m r nn ) nX := by
  refine mT_of hO (by decide) (Nat.le_of_ble_eq_true rfl) (fun x hX hZ => ?_)
  show mV g x m 0 0 0 [(0, .ref r), (1, .int (nI nn))] []
  refine v_iconst (v := 1) (pc := 0) hX dX11_writesNumber_0 (by decide) ?_
  refine v_istore_n (pc := 1) hX dX11_writesNumber_1 (by decide) rfl ?_
  refine v_iload_n (pc := 2) hX dX11_writesNumber_2 rfl ?_
  refine v_iload_n (pc := 3) hX dX11_writesNumber_3 rfl ?_
  refine v_idiv (pc := 4) hX dX11_writesNumber_4 (by decide) ?_
  refine v_bipush (v := 10) (pc := 5) hX dX11_writesNumber_5 (by decide) ?_
  refine v_icmp_lt (tgt := 18) (pc := 7) hX dX11_writesNumber_7 (by decide) (fun c1 => ?_) (fun c1 => ?_)
  ·
    refine v_iload_n (pc := 18) hX dX11_writesNumber_18 rfl ?_
    refine v_if_le (tgt := 43) (pc := 19) hX dX11_writesNumber_19 (by decide) (fun c2 => ?_) (fun c2 => ?_)
    · exact absurd c2 (by decide)
    ·
      refine v_aload_n (pc := 22) hX dX11_writesNumber_22 rfl ?_
      refine v_bipush (v := 48) (pc := 23) hX dX11_writesNumber_23 (by decide) ?_
      refine v_iload_n (pc := 25) hX dX11_writesNumber_25 rfl ?_
      refine v_iload_n (pc := 26) hX dX11_writesNumber_26 rfl ?_
      refine v_idiv (pc := 27) hX dX11_writesNumber_27 (by decide) ?_
      refine v_bipush (v := 10) (pc := 28) hX dX11_writesNumber_28 (by decide) ?_
      refine v_irem (pc := 30) hX dX11_writesNumber_30 (by decide) ?_
      refine v_iadd (pc := 31) hX dX11_writesNumber_31 ?_
      rw [wd_eq (T := 1) (by decide) (by decide) hx]
      refine v_callV (z := yX11_writes) (pc := 32) hX dX11_writesNumber_32 (c_X11_writes hO m r (nI (48 + nn / 1 % 10))  hs (okI_mono hLn (by decide))) hs.k rfl wd_1937 wd_1939 wp_55 wd_16 wd_1940 ⟨by decide, by decide, (by decide +kernel : (parseMethodDescriptor yX11_writes.desc).map (fun d => d.parameters.length) = some 1)⟩ rfl (Nat.le_of_ble_eq_true rfl) ⟨⟨by decide, by decide⟩, by decide, by decide⟩ (fun E m9 h9 => h9.elim) (fun r9 m9 h9 => ?_)
      obtain ⟨rfl, h8⟩ := h9
      replace h8 := h8.symm
      subst h8
      show mV g x _ _ _ _ _ []
      refine v_iload_n (pc := 35) hX dX11_writesNumber_35 rfl ?_
      refine v_bipush (v := 10) (pc := 36) hX dX11_writesNumber_36 (by decide) ?_
      refine v_idiv (pc := 38) hX dX11_writesNumber_38 (by decide) ?_
      refine v_istore_n (pc := 39) hX dX11_writesNumber_39 (by decide) rfl ?_
      refine v_goto (tgt := 18) (pc := 40) hX dX11_writesNumber_40 (by decide) ?_
      refine v_iload_n (pc := 18) hX dX11_writesNumber_18 rfl ?_
      refine v_if_le (tgt := 43) (pc := 19) hX dX11_writesNumber_19 (by decide) (fun c3 => ?_) (fun c3 => ?_)
      ·
        exact v_vret (pc := 43) hX hZ dX11_writesNumber_43 (by decide) (by decide) ⟨rfl, (by rw [X11_writesNumber_m, if_pos c1])⟩
      · exact absurd (by decide) c3
  ·
    refine v_iload_n (pc := 10) hX dX11_writesNumber_10 rfl ?_
    refine v_bipush (v := 10) (pc := 11) hX dX11_writesNumber_11 (by decide) ?_
    refine v_imul (pc := 13) hX dX11_writesNumber_13 ?_
    refine v_istore_n (pc := 14) hX dX11_writesNumber_14 (by decide) rfl ?_
    refine v_goto (tgt := 2) (pc := 15) hX dX11_writesNumber_15 (by decide) ?_
    refine v_iload_n (pc := 2) hX dX11_writesNumber_2 rfl ?_
    refine v_iload_n (pc := 3) hX dX11_writesNumber_3 rfl ?_
    refine v_idiv (pc := 4) hX dX11_writesNumber_4 (by decide) ?_
    refine v_bipush (v := 10) (pc := 5) hX dX11_writesNumber_5 (by decide) ?_
    refine v_icmp_lt (tgt := 18) (pc := 7) hX dX11_writesNumber_7 (by decide) (fun c4 => ?_) (fun c4 => ?_)
    ·
      refine v_iload_n (pc := 18) hX dX11_writesNumber_18 rfl ?_
      refine v_if_le (tgt := 43) (pc := 19) hX dX11_writesNumber_19 (by decide) (fun c5 => ?_) (fun c5 => ?_)
      · exact absurd c5 (by decide)
      ·
        refine v_aload_n (pc := 22) hX dX11_writesNumber_22 rfl ?_
        refine v_bipush (v := 48) (pc := 23) hX dX11_writesNumber_23 (by decide) ?_
        refine v_iload_n (pc := 25) hX dX11_writesNumber_25 rfl ?_
        refine v_iload_n (pc := 26) hX dX11_writesNumber_26 rfl ?_
        refine v_idiv (pc := 27) hX dX11_writesNumber_27 (by decide) ?_
        refine v_bipush (v := 10) (pc := 28) hX dX11_writesNumber_28 (by decide) ?_
        refine v_irem (pc := 30) hX dX11_writesNumber_30 (by decide) ?_
        refine v_iadd (pc := 31) hX dX11_writesNumber_31 ?_
        rw [wd_eq (T := 10) (by decide) (by decide) hx]
        refine v_callV (z := yX11_writes) (pc := 32) hX dX11_writesNumber_32 (c_X11_writes hO m r (nI (48 + nn / 10 % 10))  hs (okI_mono hLn (by decide))) hs.k rfl wd_1937 wd_1939 wp_55 wd_16 wd_1940 ⟨by decide, by decide, (by decide +kernel : (parseMethodDescriptor yX11_writes.desc).map (fun d => d.parameters.length) = some 1)⟩ rfl (Nat.le_of_ble_eq_true rfl) ⟨⟨by decide, by decide⟩, by decide, by decide⟩ (fun E m9 h9 => h9.elim) (fun r9 m9 h9 => ?_)
        obtain ⟨rfl, h8⟩ := h9
        replace h8 := h8.symm
        subst h8
        show mV g x _ _ _ _ _ []
        refine v_iload_n (pc := 35) hX dX11_writesNumber_35 rfl ?_
        refine v_bipush (v := 10) (pc := 36) hX dX11_writesNumber_36 (by decide) ?_
        refine v_idiv (pc := 38) hX dX11_writesNumber_38 (by decide) ?_
        refine v_istore_n (pc := 39) hX dX11_writesNumber_39 (by decide) rfl ?_
        refine v_goto (tgt := 18) (pc := 40) hX dX11_writesNumber_40 (by decide) ?_
        refine v_iload_n (pc := 18) hX dX11_writesNumber_18 rfl ?_
        refine v_if_le (tgt := 43) (pc := 19) hX dX11_writesNumber_19 (by decide) (fun c6 => ?_) (fun c6 => ?_)
        · exact absurd c6 (by decide)
        ·
          refine v_aload_n (pc := 22) hX dX11_writesNumber_22 rfl ?_
          refine v_bipush (v := 48) (pc := 23) hX dX11_writesNumber_23 (by decide) ?_
          refine v_iload_n (pc := 25) hX dX11_writesNumber_25 rfl ?_
          refine v_iload_n (pc := 26) hX dX11_writesNumber_26 rfl ?_
          refine v_idiv (pc := 27) hX dX11_writesNumber_27 (by decide) ?_
          refine v_bipush (v := 10) (pc := 28) hX dX11_writesNumber_28 (by decide) ?_
          refine v_irem (pc := 30) hX dX11_writesNumber_30 (by decide) ?_
          refine v_iadd (pc := 31) hX dX11_writesNumber_31 ?_
          rw [wd_eq (T := 1) (by decide) (by decide) hx]
          refine v_callV (z := yX11_writes) (pc := 32) hX dX11_writesNumber_32 (c_X11_writes hO ((X11_writes_m g m r (nI (48 + nn / 10 % 10)) )) r (nI (48 + nn / 1 % 10))  (hs.to (by simp only [mm, kK_X11_writes]) (by simp only [mm, kR_X11_writes])) (okI_mono (wr_Ln hLn) (by decide))) (by simp only [mm, kK_X11_writes]; exact hs.k) rfl wd_1937 wd_1939 wp_55 wd_16 wd_1940 ⟨by decide, by decide, (by decide +kernel : (parseMethodDescriptor yX11_writes.desc).map (fun d => d.parameters.length) = some 1)⟩ rfl (Nat.le_of_ble_eq_true rfl) ⟨⟨by decide, by decide⟩, by decide, by decide⟩ (fun E m9 h9 => h9.elim) (fun r9 m9 h9 => ?_)
          obtain ⟨rfl, h8⟩ := h9
          replace h8 := h8.symm
          subst h8
          show mV g x _ _ _ _ _ []
          refine v_iload_n (pc := 35) hX dX11_writesNumber_35 rfl ?_
          refine v_bipush (v := 10) (pc := 36) hX dX11_writesNumber_36 (by decide) ?_
          refine v_idiv (pc := 38) hX dX11_writesNumber_38 (by decide) ?_
          refine v_istore_n (pc := 39) hX dX11_writesNumber_39 (by decide) rfl ?_
          refine v_goto (tgt := 18) (pc := 40) hX dX11_writesNumber_40 (by decide) ?_
          refine v_iload_n (pc := 18) hX dX11_writesNumber_18 rfl ?_
          refine v_if_le (tgt := 43) (pc := 19) hX dX11_writesNumber_19 (by decide) (fun c7 => ?_) (fun c7 => ?_)
          ·
            exact v_vret (pc := 43) hX hZ dX11_writesNumber_43 (by decide) (by decide) ⟨rfl, (by rw [X11_writesNumber_m, if_neg c1, if_pos c4])⟩
          · exact absurd (by decide) c7
    ·
      refine v_iload_n (pc := 10) hX dX11_writesNumber_10 rfl ?_
      refine v_bipush (v := 10) (pc := 11) hX dX11_writesNumber_11 (by decide) ?_
      refine v_imul (pc := 13) hX dX11_writesNumber_13 ?_
      refine v_istore_n (pc := 14) hX dX11_writesNumber_14 (by decide) rfl ?_
      refine v_goto (tgt := 2) (pc := 15) hX dX11_writesNumber_15 (by decide) ?_
      refine v_iload_n (pc := 2) hX dX11_writesNumber_2 rfl ?_
      refine v_iload_n (pc := 3) hX dX11_writesNumber_3 rfl ?_
      refine v_idiv (pc := 4) hX dX11_writesNumber_4 (by decide) ?_
      refine v_bipush (v := 10) (pc := 5) hX dX11_writesNumber_5 (by decide) ?_
      refine v_icmp_lt (tgt := 18) (pc := 7) hX dX11_writesNumber_7 (by decide) (fun c8 => ?_) (fun c8 => ?_)
      ·
        refine v_iload_n (pc := 18) hX dX11_writesNumber_18 rfl ?_
        refine v_if_le (tgt := 43) (pc := 19) hX dX11_writesNumber_19 (by decide) (fun c9 => ?_) (fun c9 => ?_)
        · exact absurd c9 (by decide)
        ·
          refine v_aload_n (pc := 22) hX dX11_writesNumber_22 rfl ?_
          refine v_bipush (v := 48) (pc := 23) hX dX11_writesNumber_23 (by decide) ?_
          refine v_iload_n (pc := 25) hX dX11_writesNumber_25 rfl ?_
          refine v_iload_n (pc := 26) hX dX11_writesNumber_26 rfl ?_
          refine v_idiv (pc := 27) hX dX11_writesNumber_27 (by decide) ?_
          refine v_bipush (v := 10) (pc := 28) hX dX11_writesNumber_28 (by decide) ?_
          refine v_irem (pc := 30) hX dX11_writesNumber_30 (by decide) ?_
          refine v_iadd (pc := 31) hX dX11_writesNumber_31 ?_
          rw [wd_eq (T := 100) (by decide) (by decide) hx]
          refine v_callV (z := yX11_writes) (pc := 32) hX dX11_writesNumber_32 (c_X11_writes hO m r (nI (48 + nn / 100 % 10))  hs (okI_mono hLn (by decide))) hs.k rfl wd_1937 wd_1939 wp_55 wd_16 wd_1940 ⟨by decide, by decide, (by decide +kernel : (parseMethodDescriptor yX11_writes.desc).map (fun d => d.parameters.length) = some 1)⟩ rfl (Nat.le_of_ble_eq_true rfl) ⟨⟨by decide, by decide⟩, by decide, by decide⟩ (fun E m9 h9 => h9.elim) (fun r9 m9 h9 => ?_)
          obtain ⟨rfl, h8⟩ := h9
          replace h8 := h8.symm
          subst h8
          show mV g x _ _ _ _ _ []
          refine v_iload_n (pc := 35) hX dX11_writesNumber_35 rfl ?_
          refine v_bipush (v := 10) (pc := 36) hX dX11_writesNumber_36 (by decide) ?_
          refine v_idiv (pc := 38) hX dX11_writesNumber_38 (by decide) ?_
          refine v_istore_n (pc := 39) hX dX11_writesNumber_39 (by decide) rfl ?_
          refine v_goto (tgt := 18) (pc := 40) hX dX11_writesNumber_40 (by decide) ?_
          refine v_iload_n (pc := 18) hX dX11_writesNumber_18 rfl ?_
          refine v_if_le (tgt := 43) (pc := 19) hX dX11_writesNumber_19 (by decide) (fun c10 => ?_) (fun c10 => ?_)
          · exact absurd c10 (by decide)
          ·
            refine v_aload_n (pc := 22) hX dX11_writesNumber_22 rfl ?_
            refine v_bipush (v := 48) (pc := 23) hX dX11_writesNumber_23 (by decide) ?_
            refine v_iload_n (pc := 25) hX dX11_writesNumber_25 rfl ?_
            refine v_iload_n (pc := 26) hX dX11_writesNumber_26 rfl ?_
            refine v_idiv (pc := 27) hX dX11_writesNumber_27 (by decide) ?_
            refine v_bipush (v := 10) (pc := 28) hX dX11_writesNumber_28 (by decide) ?_
            refine v_irem (pc := 30) hX dX11_writesNumber_30 (by decide) ?_
            refine v_iadd (pc := 31) hX dX11_writesNumber_31 ?_
            rw [wd_eq (T := 10) (by decide) (by decide) hx]
            refine v_callV (z := yX11_writes) (pc := 32) hX dX11_writesNumber_32 (c_X11_writes hO ((X11_writes_m g m r (nI (48 + nn / 100 % 10)) )) r (nI (48 + nn / 10 % 10))  (hs.to (by simp only [mm, kK_X11_writes]) (by simp only [mm, kR_X11_writes])) (okI_mono (wr_Ln hLn) (by decide))) (by simp only [mm, kK_X11_writes]; exact hs.k) rfl wd_1937 wd_1939 wp_55 wd_16 wd_1940 ⟨by decide, by decide, (by decide +kernel : (parseMethodDescriptor yX11_writes.desc).map (fun d => d.parameters.length) = some 1)⟩ rfl (Nat.le_of_ble_eq_true rfl) ⟨⟨by decide, by decide⟩, by decide, by decide⟩ (fun E m9 h9 => h9.elim) (fun r9 m9 h9 => ?_)
            obtain ⟨rfl, h8⟩ := h9
            replace h8 := h8.symm
            subst h8
            show mV g x _ _ _ _ _ []
            refine v_iload_n (pc := 35) hX dX11_writesNumber_35 rfl ?_
            refine v_bipush (v := 10) (pc := 36) hX dX11_writesNumber_36 (by decide) ?_
            refine v_idiv (pc := 38) hX dX11_writesNumber_38 (by decide) ?_
            refine v_istore_n (pc := 39) hX dX11_writesNumber_39 (by decide) rfl ?_
            refine v_goto (tgt := 18) (pc := 40) hX dX11_writesNumber_40 (by decide) ?_
            refine v_iload_n (pc := 18) hX dX11_writesNumber_18 rfl ?_
            refine v_if_le (tgt := 43) (pc := 19) hX dX11_writesNumber_19 (by decide) (fun c11 => ?_) (fun c11 => ?_)
            · exact absurd c11 (by decide)
            ·
              refine v_aload_n (pc := 22) hX dX11_writesNumber_22 rfl ?_
              refine v_bipush (v := 48) (pc := 23) hX dX11_writesNumber_23 (by decide) ?_
              refine v_iload_n (pc := 25) hX dX11_writesNumber_25 rfl ?_
              refine v_iload_n (pc := 26) hX dX11_writesNumber_26 rfl ?_
              refine v_idiv (pc := 27) hX dX11_writesNumber_27 (by decide) ?_
              refine v_bipush (v := 10) (pc := 28) hX dX11_writesNumber_28 (by decide) ?_
              refine v_irem (pc := 30) hX dX11_writesNumber_30 (by decide) ?_
              refine v_iadd (pc := 31) hX dX11_writesNumber_31 ?_
              rw [wd_eq (T := 1) (by decide) (by decide) hx]
              refine v_callV (z := yX11_writes) (pc := 32) hX dX11_writesNumber_32 (c_X11_writes hO ((X11_writes_m g ((X11_writes_m g m r (nI (48 + nn / 100 % 10)) )) r (nI (48 + nn / 10 % 10)) )) r (nI (48 + nn / 1 % 10))  (hs.to (by simp only [mm, kK_X11_writes]) (by simp only [mm, kR_X11_writes])) (okI_mono (wr_Ln (wr_Ln hLn)) (by decide))) (by simp only [mm, kK_X11_writes]; exact hs.k) rfl wd_1937 wd_1939 wp_55 wd_16 wd_1940 ⟨by decide, by decide, (by decide +kernel : (parseMethodDescriptor yX11_writes.desc).map (fun d => d.parameters.length) = some 1)⟩ rfl (Nat.le_of_ble_eq_true rfl) ⟨⟨by decide, by decide⟩, by decide, by decide⟩ (fun E m9 h9 => h9.elim) (fun r9 m9 h9 => ?_)
              obtain ⟨rfl, h8⟩ := h9
              replace h8 := h8.symm
              subst h8
              show mV g x _ _ _ _ _ []
              refine v_iload_n (pc := 35) hX dX11_writesNumber_35 rfl ?_
              refine v_bipush (v := 10) (pc := 36) hX dX11_writesNumber_36 (by decide) ?_
              refine v_idiv (pc := 38) hX dX11_writesNumber_38 (by decide) ?_
              refine v_istore_n (pc := 39) hX dX11_writesNumber_39 (by decide) rfl ?_
              refine v_goto (tgt := 18) (pc := 40) hX dX11_writesNumber_40 (by decide) ?_
              refine v_iload_n (pc := 18) hX dX11_writesNumber_18 rfl ?_
              refine v_if_le (tgt := 43) (pc := 19) hX dX11_writesNumber_19 (by decide) (fun c12 => ?_) (fun c12 => ?_)
              ·
                exact v_vret (pc := 43) hX hZ dX11_writesNumber_43 (by decide) (by decide) ⟨rfl, (by rw [X11_writesNumber_m, if_neg c1, if_neg c4, if_pos c8])⟩
              · exact absurd (by decide) c12
      ·
        refine v_iload_n (pc := 10) hX dX11_writesNumber_10 rfl ?_
        refine v_bipush (v := 10) (pc := 11) hX dX11_writesNumber_11 (by decide) ?_
        refine v_imul (pc := 13) hX dX11_writesNumber_13 ?_
        refine v_istore_n (pc := 14) hX dX11_writesNumber_14 (by decide) rfl ?_
        refine v_goto (tgt := 2) (pc := 15) hX dX11_writesNumber_15 (by decide) ?_
        refine v_iload_n (pc := 2) hX dX11_writesNumber_2 rfl ?_
        refine v_iload_n (pc := 3) hX dX11_writesNumber_3 rfl ?_
        refine v_idiv (pc := 4) hX dX11_writesNumber_4 (by decide) ?_
        refine v_bipush (v := 10) (pc := 5) hX dX11_writesNumber_5 (by decide) ?_
        refine v_icmp_lt (tgt := 18) (pc := 7) hX dX11_writesNumber_7 (by decide) (fun c13 => ?_) (fun c13 => ?_)
        ·
          refine v_iload_n (pc := 18) hX dX11_writesNumber_18 rfl ?_
          refine v_if_le (tgt := 43) (pc := 19) hX dX11_writesNumber_19 (by decide) (fun c14 => ?_) (fun c14 => ?_)
          · exact absurd c14 (by decide)
          ·
            refine v_aload_n (pc := 22) hX dX11_writesNumber_22 rfl ?_
            refine v_bipush (v := 48) (pc := 23) hX dX11_writesNumber_23 (by decide) ?_
            refine v_iload_n (pc := 25) hX dX11_writesNumber_25 rfl ?_
            refine v_iload_n (pc := 26) hX dX11_writesNumber_26 rfl ?_
            refine v_idiv (pc := 27) hX dX11_writesNumber_27 (by decide) ?_
            refine v_bipush (v := 10) (pc := 28) hX dX11_writesNumber_28 (by decide) ?_
            refine v_irem (pc := 30) hX dX11_writesNumber_30 (by decide) ?_
            refine v_iadd (pc := 31) hX dX11_writesNumber_31 ?_
            rw [wd_eq (T := 1000) (by decide) (by decide) hx]
            refine v_callV (z := yX11_writes) (pc := 32) hX dX11_writesNumber_32 (c_X11_writes hO m r (nI (48 + nn / 1000 % 10))  hs (okI_mono hLn (by decide))) hs.k rfl wd_1937 wd_1939 wp_55 wd_16 wd_1940 ⟨by decide, by decide, (by decide +kernel : (parseMethodDescriptor yX11_writes.desc).map (fun d => d.parameters.length) = some 1)⟩ rfl (Nat.le_of_ble_eq_true rfl) ⟨⟨by decide, by decide⟩, by decide, by decide⟩ (fun E m9 h9 => h9.elim) (fun r9 m9 h9 => ?_)
            obtain ⟨rfl, h8⟩ := h9
            replace h8 := h8.symm
            subst h8
            show mV g x _ _ _ _ _ []
            refine v_iload_n (pc := 35) hX dX11_writesNumber_35 rfl ?_
            refine v_bipush (v := 10) (pc := 36) hX dX11_writesNumber_36 (by decide) ?_
            refine v_idiv (pc := 38) hX dX11_writesNumber_38 (by decide) ?_
            refine v_istore_n (pc := 39) hX dX11_writesNumber_39 (by decide) rfl ?_
            refine v_goto (tgt := 18) (pc := 40) hX dX11_writesNumber_40 (by decide) ?_
            refine v_iload_n (pc := 18) hX dX11_writesNumber_18 rfl ?_
            refine v_if_le (tgt := 43) (pc := 19) hX dX11_writesNumber_19 (by decide) (fun c15 => ?_) (fun c15 => ?_)
            · exact absurd c15 (by decide)
            ·
              refine v_aload_n (pc := 22) hX dX11_writesNumber_22 rfl ?_
              refine v_bipush (v := 48) (pc := 23) hX dX11_writesNumber_23 (by decide) ?_
              refine v_iload_n (pc := 25) hX dX11_writesNumber_25 rfl ?_
              refine v_iload_n (pc := 26) hX dX11_writesNumber_26 rfl ?_
              refine v_idiv (pc := 27) hX dX11_writesNumber_27 (by decide) ?_
              refine v_bipush (v := 10) (pc := 28) hX dX11_writesNumber_28 (by decide) ?_
              refine v_irem (pc := 30) hX dX11_writesNumber_30 (by decide) ?_
              refine v_iadd (pc := 31) hX dX11_writesNumber_31 ?_
              rw [wd_eq (T := 100) (by decide) (by decide) hx]
              refine v_callV (z := yX11_writes) (pc := 32) hX dX11_writesNumber_32 (c_X11_writes hO ((X11_writes_m g m r (nI (48 + nn / 1000 % 10)) )) r (nI (48 + nn / 100 % 10))  (hs.to (by simp only [mm, kK_X11_writes]) (by simp only [mm, kR_X11_writes])) (okI_mono (wr_Ln hLn) (by decide))) (by simp only [mm, kK_X11_writes]; exact hs.k) rfl wd_1937 wd_1939 wp_55 wd_16 wd_1940 ⟨by decide, by decide, (by decide +kernel : (parseMethodDescriptor yX11_writes.desc).map (fun d => d.parameters.length) = some 1)⟩ rfl (Nat.le_of_ble_eq_true rfl) ⟨⟨by decide, by decide⟩, by decide, by decide⟩ (fun E m9 h9 => h9.elim) (fun r9 m9 h9 => ?_)
              obtain ⟨rfl, h8⟩ := h9
              replace h8 := h8.symm
              subst h8
              show mV g x _ _ _ _ _ []
              refine v_iload_n (pc := 35) hX dX11_writesNumber_35 rfl ?_
              refine v_bipush (v := 10) (pc := 36) hX dX11_writesNumber_36 (by decide) ?_
              refine v_idiv (pc := 38) hX dX11_writesNumber_38 (by decide) ?_
              refine v_istore_n (pc := 39) hX dX11_writesNumber_39 (by decide) rfl ?_
              refine v_goto (tgt := 18) (pc := 40) hX dX11_writesNumber_40 (by decide) ?_
              refine v_iload_n (pc := 18) hX dX11_writesNumber_18 rfl ?_
              refine v_if_le (tgt := 43) (pc := 19) hX dX11_writesNumber_19 (by decide) (fun c16 => ?_) (fun c16 => ?_)
              · exact absurd c16 (by decide)
              ·
                refine v_aload_n (pc := 22) hX dX11_writesNumber_22 rfl ?_
                refine v_bipush (v := 48) (pc := 23) hX dX11_writesNumber_23 (by decide) ?_
                refine v_iload_n (pc := 25) hX dX11_writesNumber_25 rfl ?_
                refine v_iload_n (pc := 26) hX dX11_writesNumber_26 rfl ?_
                refine v_idiv (pc := 27) hX dX11_writesNumber_27 (by decide) ?_
                refine v_bipush (v := 10) (pc := 28) hX dX11_writesNumber_28 (by decide) ?_
                refine v_irem (pc := 30) hX dX11_writesNumber_30 (by decide) ?_
                refine v_iadd (pc := 31) hX dX11_writesNumber_31 ?_
                rw [wd_eq (T := 10) (by decide) (by decide) hx]
                refine v_callV (z := yX11_writes) (pc := 32) hX dX11_writesNumber_32 (c_X11_writes hO ((X11_writes_m g ((X11_writes_m g m r (nI (48 + nn / 1000 % 10)) )) r (nI (48 + nn / 100 % 10)) )) r (nI (48 + nn / 10 % 10))  (hs.to (by simp only [mm, kK_X11_writes]) (by simp only [mm, kR_X11_writes])) (okI_mono (wr_Ln (wr_Ln hLn)) (by decide))) (by simp only [mm, kK_X11_writes]; exact hs.k) rfl wd_1937 wd_1939 wp_55 wd_16 wd_1940 ⟨by decide, by decide, (by decide +kernel : (parseMethodDescriptor yX11_writes.desc).map (fun d => d.parameters.length) = some 1)⟩ rfl (Nat.le_of_ble_eq_true rfl) ⟨⟨by decide, by decide⟩, by decide, by decide⟩ (fun E m9 h9 => h9.elim) (fun r9 m9 h9 => ?_)
                obtain ⟨rfl, h8⟩ := h9
                replace h8 := h8.symm
                subst h8
                show mV g x _ _ _ _ _ []
                refine v_iload_n (pc := 35) hX dX11_writesNumber_35 rfl ?_
                refine v_bipush (v := 10) (pc := 36) hX dX11_writesNumber_36 (by decide) ?_
                refine v_idiv (pc := 38) hX dX11_writesNumber_38 (by decide) ?_
                refine v_istore_n (pc := 39) hX dX11_writesNumber_39 (by decide) rfl ?_
                refine v_goto (tgt := 18) (pc := 40) hX dX11_writesNumber_40 (by decide) ?_
                refine v_iload_n (pc := 18) hX dX11_writesNumber_18 rfl ?_
                refine v_if_le (tgt := 43) (pc := 19) hX dX11_writesNumber_19 (by decide) (fun c17 => ?_) (fun c17 => ?_)
                · exact absurd c17 (by decide)
                ·
                  refine v_aload_n (pc := 22) hX dX11_writesNumber_22 rfl ?_
                  refine v_bipush (v := 48) (pc := 23) hX dX11_writesNumber_23 (by decide) ?_
                  refine v_iload_n (pc := 25) hX dX11_writesNumber_25 rfl ?_
                  refine v_iload_n (pc := 26) hX dX11_writesNumber_26 rfl ?_
                  refine v_idiv (pc := 27) hX dX11_writesNumber_27 (by decide) ?_
                  refine v_bipush (v := 10) (pc := 28) hX dX11_writesNumber_28 (by decide) ?_
                  refine v_irem (pc := 30) hX dX11_writesNumber_30 (by decide) ?_
                  refine v_iadd (pc := 31) hX dX11_writesNumber_31 ?_
                  rw [wd_eq (T := 1) (by decide) (by decide) hx]
                  refine v_callV (z := yX11_writes) (pc := 32) hX dX11_writesNumber_32 (c_X11_writes hO ((X11_writes_m g ((X11_writes_m g ((X11_writes_m g m r (nI (48 + nn / 1000 % 10)) )) r (nI (48 + nn / 100 % 10)) )) r (nI (48 + nn / 10 % 10)) )) r (nI (48 + nn / 1 % 10))  (hs.to (by simp only [mm, kK_X11_writes]) (by simp only [mm, kR_X11_writes])) (okI_mono (wr_Ln (wr_Ln (wr_Ln hLn))) (by decide))) (by simp only [mm, kK_X11_writes]; exact hs.k) rfl wd_1937 wd_1939 wp_55 wd_16 wd_1940 ⟨by decide, by decide, (by decide +kernel : (parseMethodDescriptor yX11_writes.desc).map (fun d => d.parameters.length) = some 1)⟩ rfl (Nat.le_of_ble_eq_true rfl) ⟨⟨by decide, by decide⟩, by decide, by decide⟩ (fun E m9 h9 => h9.elim) (fun r9 m9 h9 => ?_)
                  obtain ⟨rfl, h8⟩ := h9
                  replace h8 := h8.symm
                  subst h8
                  show mV g x _ _ _ _ _ []
                  refine v_iload_n (pc := 35) hX dX11_writesNumber_35 rfl ?_
                  refine v_bipush (v := 10) (pc := 36) hX dX11_writesNumber_36 (by decide) ?_
                  refine v_idiv (pc := 38) hX dX11_writesNumber_38 (by decide) ?_
                  refine v_istore_n (pc := 39) hX dX11_writesNumber_39 (by decide) rfl ?_
                  refine v_goto (tgt := 18) (pc := 40) hX dX11_writesNumber_40 (by decide) ?_
                  refine v_iload_n (pc := 18) hX dX11_writesNumber_18 rfl ?_
                  refine v_if_le (tgt := 43) (pc := 19) hX dX11_writesNumber_19 (by decide) (fun c18 => ?_) (fun c18 => ?_)
                  ·
                    exact v_vret (pc := 43) hX hZ dX11_writesNumber_43 (by decide) (by decide) ⟨rfl, (by rw [X11_writesNumber_m, if_neg c1, if_neg c4, if_neg c8])⟩
                  · exact absurd (by decide) c18
        · exact absurd ((by rw [show ((((1 * 10) * 10) * 10) : Int32) = nI 1000 by decide]; exact dv_lt (by omega) (by omega))) c13
