/-- how many digits -/
def digs (n : Nat) : Nat := if n < 10 then 1 else if n < 100 then 2 else if n < 1000 then 3 else 4
theorem digs_le (n : Nat) : 1 ≤ digs n ∧ digs n ≤ 4 ∧ (10 ≤ n → 2 ≤ digs n) ∧ (100 ≤ n → 3 ≤ digs n) ∧ (1000 ≤ n → 4 ≤ digs n) := by
  unfold digs
  split
  · exact ⟨by omega, by omega, by omega, by omega, by omega⟩
  · split
    · exact ⟨by omega, by omega, by omega, by omega, by omega⟩
    · split <;> exact ⟨by omega, by omega, by omega, by omega, by omega⟩
theorem neg_i {n : Nat} (hn : n < 2 ^ 30) : (-(nI n)).toInt = -(n : Int) := by
  rw [Int32.toInt_neg, nI_toInt (by omega), Int.bmod_def]
  omega
theorem neg_le {n k : Nat} {x : Int32} (hn : n < 2 ^ 30) (hx : x.toInt = -(k : Int)) : -(nI n) ≤ x ↔ k ≤ n := by
  rw [Int32.le_iff_toInt_le, neg_i hn, hx]
  omega
theorem neg_lt {n k : Nat} {x : Int32} (hn : n < 2 ^ 30) (hx : x.toInt = -(k : Int)) : x < -(nI n) ↔ n < k := by
  rw [Int32.lt_iff_toInt_lt, neg_i hn, hx]
  omega
theorem neg_ge {n k : Nat} {x : Int32} (hn : n < 2 ^ 30) (hx : x.toInt = -(k : Int)) : x ≤ -(nI n) ↔ n ≤ k := by
  rw [Int32.le_iff_toInt_le, neg_i hn, hx]
  omega
theorem i32_ext {x y : Int32} (h : x.toInt = y.toInt) : x = y := Int32.toInt_inj.mp h
theorem nI_m1 {n : Nat} (h : 1 ≤ n) : nI n + (-1) = nI (n - 1) := by
  obtain ⟨d, rfl⟩ := Nat.exists_eq_add_of_le h
  rw [Nat.add_comm 1 d, Nat.add_sub_cancel, ← nI_1]
  have : (nI d + 1) + (-1 : Int32) = nI d := by
    rw [Int32.add_assoc, show (1 : Int32) + (-1) = 0 by decide, Int32.add_zero]
  exact this
theorem neg_div {n : Nat} (hn : n < 10000) : -(nI n) / 100 = -(nI (n / 100)) := by
  apply i32_ext
  rw [neg_i (by omega), Int32.toInt_div, neg_i (by omega), show (100 : Int32).toInt = 100 by decide, Int.neg_tdiv]
  have h1 : ((n : Int).tdiv 100) = ((n / 100 : Nat) : Int) := by
    rw [Int.tdiv_eq_ediv_of_nonneg (by omega)]
    omega
  rw [h1, Int.bmod_def]
  omega
theorem neg_rem {n : Nat} (hn : n < 10000) : -(nI (n / 100)) * 100 - -(nI n) = nI (n % 100) := by
  apply i32_ext
  rw [nI_toInt (by omega), Int32.toInt_sub, Int32.toInt_mul, neg_i (by omega), neg_i (by omega), show (100 : Int32).toInt = 100 by decide, Int.bmod_def, Int.bmod_def]
  omega
theorem neg_neg (x : Int32) : -(-x) = x := by simp
def J6_stringSize_0f7a4_r (g : mG) (m : mM) (n : Nat)  : Int32 := if (-(nI n)) ≤ ((-10)) then (if (-(nI n)) ≤ (10 * ((-10))) then (if (-(nI n)) ≤ (10 * (10 * ((-10)))) then ((((1 + 1) + 1) + 1) + 0) else (((1 + 1) + 1) + 0)) else ((1 + 1) + 0)) else (1 + 0)

set_option maxHeartbeats 4000000 in
set_option maxRecDepth 100000 in
theorem c_J6_stringSize_0f7a4 {l : Launch} {g : mG} (hO : mO l g) (m : mM) (n : Nat)  (hn : n < 10000) : mT l g yJ6_stringSize_0f7a4 (.code yJ6_stringSize_0f7a4 cJ6_stringSize_0f7a4 4 (Option.some FieldType.int)) 1 20 0 0 [.int (nI n)] m (fun r m' => r = some (.int (J6_stringSize_0f7a4_r g m n )) ∧ m' = m) nX := by
  refine mT_of hO (by decide) (Nat.le_of_ble_eq_true rfl) (fun x hX hZ => ?_)
  show mV g x m 0 0 0 [(0, .int (nI n))] []
  refine v_iconst (v := 1) (pc := 0) hX dJ6_stringSize_0f7a4_0 (by decide) ?_
  refine v_istore_n (pc := 1) hX dJ6_stringSize_0f7a4_1 (by decide) rfl ?_
  refine v_iload_n (pc := 2) hX dJ6_stringSize_0f7a4_2 rfl ?_
  refine v_if_lt (tgt := 11) (pc := 3) hX dJ6_stringSize_0f7a4_3 (by decide) (fun c1 => ?_) (fun c1 => ?_)
  · exact absurd c1 (nI_pos (by omega))
  ·
    refine v_iconst (v := 0) (pc := 6) hX dJ6_stringSize_0f7a4_6 (by decide) ?_
    refine v_istore_n (pc := 7) hX dJ6_stringSize_0f7a4_7 (by decide) rfl ?_
    refine v_iload_n (pc := 8) hX dJ6_stringSize_0f7a4_8 rfl ?_
    refine v_ineg (pc := 9) hX dJ6_stringSize_0f7a4_9 ?_
    refine v_istore_n (pc := 10) hX dJ6_stringSize_0f7a4_10 (by decide) rfl ?_
    refine v_bipush (v := (-10)) (pc := 11) hX dJ6_stringSize_0f7a4_11 (by decide) ?_
    refine v_istore_n (pc := 13) hX dJ6_stringSize_0f7a4_13 (by decide) rfl ?_
    refine v_iconst (v := 1) (pc := 14) hX dJ6_stringSize_0f7a4_14 (by decide) ?_
    refine v_istore_n (pc := 15) hX dJ6_stringSize_0f7a4_15 (by decide) rfl ?_
    refine v_iload_n (pc := 16) hX dJ6_stringSize_0f7a4_16 rfl ?_
    refine v_bipush (v := 10) (pc := 17) hX dJ6_stringSize_0f7a4_17 (by decide) ?_
    refine v_icmp_ge (tgt := 42) (pc := 19) hX dJ6_stringSize_0f7a4_19 (by decide) (fun c2 => ?_) (fun c2 => ?_)
    · exact absurd c2 (by decide)
    ·
      refine v_iload_n (pc := 22) hX dJ6_stringSize_0f7a4_22 rfl ?_
      refine v_iload_n (pc := 23) hX dJ6_stringSize_0f7a4_23 rfl ?_
      refine v_icmp_le (tgt := 31) (pc := 24) hX dJ6_stringSize_0f7a4_24 (by decide) (fun c3 => ?_) (fun c3 => ?_)
      ·
        refine v_bipush (v := 10) (pc := 31) hX dJ6_stringSize_0f7a4_31 (by decide) ?_
        refine v_iload_n (pc := 33) hX dJ6_stringSize_0f7a4_33 rfl ?_
        refine v_imul (pc := 34) hX dJ6_stringSize_0f7a4_34 ?_
        refine v_istore_n (pc := 35) hX dJ6_stringSize_0f7a4_35 (by decide) rfl ?_
        refine v_iinc (w := 1 + 1) (pc := 36) hX dJ6_stringSize_0f7a4_36 rfl rfl (by decide) rfl ?_
        refine v_goto (tgt := 16) (pc := 39) hX dJ6_stringSize_0f7a4_39 (by decide) ?_
        refine v_iload_n (pc := 16) hX dJ6_stringSize_0f7a4_16 rfl ?_
        refine v_bipush (v := 10) (pc := 17) hX dJ6_stringSize_0f7a4_17 (by decide) ?_
        refine v_icmp_ge (tgt := 42) (pc := 19) hX dJ6_stringSize_0f7a4_19 (by decide) (fun c4 => ?_) (fun c4 => ?_)
        · exact absurd c4 (by decide)
        ·
          refine v_iload_n (pc := 22) hX dJ6_stringSize_0f7a4_22 rfl ?_
          refine v_iload_n (pc := 23) hX dJ6_stringSize_0f7a4_23 rfl ?_
          refine v_icmp_le (tgt := 31) (pc := 24) hX dJ6_stringSize_0f7a4_24 (by decide) (fun c5 => ?_) (fun c5 => ?_)
          ·
            refine v_bipush (v := 10) (pc := 31) hX dJ6_stringSize_0f7a4_31 (by decide) ?_
            refine v_iload_n (pc := 33) hX dJ6_stringSize_0f7a4_33 rfl ?_
            refine v_imul (pc := 34) hX dJ6_stringSize_0f7a4_34 ?_
            refine v_istore_n (pc := 35) hX dJ6_stringSize_0f7a4_35 (by decide) rfl ?_
            refine v_iinc (w := (1 + 1) + 1) (pc := 36) hX dJ6_stringSize_0f7a4_36 rfl rfl (by decide) rfl ?_
            refine v_goto (tgt := 16) (pc := 39) hX dJ6_stringSize_0f7a4_39 (by decide) ?_
            refine v_iload_n (pc := 16) hX dJ6_stringSize_0f7a4_16 rfl ?_
            refine v_bipush (v := 10) (pc := 17) hX dJ6_stringSize_0f7a4_17 (by decide) ?_
            refine v_icmp_ge (tgt := 42) (pc := 19) hX dJ6_stringSize_0f7a4_19 (by decide) (fun c6 => ?_) (fun c6 => ?_)
            · exact absurd c6 (by decide)
            ·
              refine v_iload_n (pc := 22) hX dJ6_stringSize_0f7a4_22 rfl ?_
              refine v_iload_n (pc := 23) hX dJ6_stringSize_0f7a4_23 rfl ?_
              refine v_icmp_le (tgt := 31) (pc := 24) hX dJ6_stringSize_0f7a4_24 (by decide) (fun c7 => ?_) (fun c7 => ?_)
              ·
                refine v_bipush (v := 10) (pc := 31) hX dJ6_stringSize_0f7a4_31 (by decide) ?_
                refine v_iload_n (pc := 33) hX dJ6_stringSize_0f7a4_33 rfl ?_
                refine v_imul (pc := 34) hX dJ6_stringSize_0f7a4_34 ?_
                refine v_istore_n (pc := 35) hX dJ6_stringSize_0f7a4_35 (by decide) rfl ?_
                refine v_iinc (w := ((1 + 1) + 1) + 1) (pc := 36) hX dJ6_stringSize_0f7a4_36 rfl rfl (by decide) rfl ?_
                refine v_goto (tgt := 16) (pc := 39) hX dJ6_stringSize_0f7a4_39 (by decide) ?_
                refine v_iload_n (pc := 16) hX dJ6_stringSize_0f7a4_16 rfl ?_
                refine v_bipush (v := 10) (pc := 17) hX dJ6_stringSize_0f7a4_17 (by decide) ?_
                refine v_icmp_ge (tgt := 42) (pc := 19) hX dJ6_stringSize_0f7a4_19 (by decide) (fun c8 => ?_) (fun c8 => ?_)
                · exact absurd c8 (by decide)
                ·
                  refine v_iload_n (pc := 22) hX dJ6_stringSize_0f7a4_22 rfl ?_
                  refine v_iload_n (pc := 23) hX dJ6_stringSize_0f7a4_23 rfl ?_
                  refine v_icmp_le (tgt := 31) (pc := 24) hX dJ6_stringSize_0f7a4_24 (by decide) (fun c9 => ?_) (fun c9 => ?_)
                  · exact absurd c9 (fun q => by have := (neg_le (k := 10000) (by omega) (by decide)).mp q; omega)
                  ·
                    refine v_iload_n (pc := 27) hX dJ6_stringSize_0f7a4_27 rfl ?_
                    refine v_iload_n (pc := 28) hX dJ6_stringSize_0f7a4_28 rfl ?_
                    refine v_iadd (pc := 29) hX dJ6_stringSize_0f7a4_29 ?_
                    exact v_iret (pc := 30) hX hZ dJ6_stringSize_0f7a4_30 (by decide) (by decide) ⟨(by rw [J6_stringSize_0f7a4_r, if_pos c3, if_pos c5, if_pos c7]), rfl⟩
              ·
                refine v_iload_n (pc := 27) hX dJ6_stringSize_0f7a4_27 rfl ?_
                refine v_iload_n (pc := 28) hX dJ6_stringSize_0f7a4_28 rfl ?_
                refine v_iadd (pc := 29) hX dJ6_stringSize_0f7a4_29 ?_
                exact v_iret (pc := 30) hX hZ dJ6_stringSize_0f7a4_30 (by decide) (by decide) ⟨(by rw [J6_stringSize_0f7a4_r, if_pos c3, if_pos c5, if_neg c7]), rfl⟩
          ·
            refine v_iload_n (pc := 27) hX dJ6_stringSize_0f7a4_27 rfl ?_
            refine v_iload_n (pc := 28) hX dJ6_stringSize_0f7a4_28 rfl ?_
            refine v_iadd (pc := 29) hX dJ6_stringSize_0f7a4_29 ?_
            exact v_iret (pc := 30) hX hZ dJ6_stringSize_0f7a4_30 (by decide) (by decide) ⟨(by rw [J6_stringSize_0f7a4_r, if_pos c3, if_neg c5]), rfl⟩
      ·
        refine v_iload_n (pc := 27) hX dJ6_stringSize_0f7a4_27 rfl ?_
        refine v_iload_n (pc := 28) hX dJ6_stringSize_0f7a4_28 rfl ?_
        refine v_iadd (pc := 29) hX dJ6_stringSize_0f7a4_29 ?_
        exact v_iret (pc := 30) hX hZ dJ6_stringSize_0f7a4_30 (by decide) (by decide) ⟨(by rw [J6_stringSize_0f7a4_r, if_neg c3]), rfl⟩
theorem ss_eq {g : mG} {m : mM} {n : Nat} (hn : n < 10000) : J6_stringSize_0f7a4_r g m n = nI (digs n) := by
  unfold J6_stringSize_0f7a4_r digs
  by_cases h1 : n < 10
  · rw [if_neg (fun q => by have := (neg_le (k := 10) (by omega) (by decide)).mp q; omega), if_pos h1]; rfl
  · rw [if_pos ((neg_le (k := 10) (by omega) (by decide)).mpr (by omega)), if_neg h1]
    by_cases h2 : n < 100
    · rw [if_neg (fun q => by have := (neg_le (k := 100) (by omega) (by decide)).mp q; omega), if_pos h2]; rfl
    · rw [if_pos ((neg_le (k := 100) (by omega) (by decide)).mpr (by omega)), if_neg h2]
      by_cases h3 : n < 1000
      · rw [if_neg (fun q => by have := (neg_le (k := 1000) (by omega) (by decide)).mp q; omega), if_pos h3]; rfl
      · rw [if_pos ((neg_le (k := 1000) (by omega) (by decide)).mpr (by omega)), if_neg h3]; rfl
theorem nar_d1 (x : Nat) : narrow .byte (.int (d1V x)) = .int (d1V x) := by
  have h : ∀ k : Fin 10, narrow .byte (.int (nI (48 + k.1))) = .int (nI (48 + k.1)) := by decide
  exact h ⟨x % 10, Nat.mod_lt _ (by decide)⟩
theorem nar_d2 {x : Nat} (hx : x < 100) : narrow .byte (.int (d2V x)) = .int (d2V x) := by
  have h : ∀ k : Fin 10, narrow .byte (.int (nI (48 + k.1))) = .int (nI (48 + k.1)) := by decide
  exact h ⟨x / 10, by omega⟩
def J6_getChars_ba4f3_r (g : mG) (m : mM) (n : Nat) (k : Nat) (v : Nat) (cap : Nat) : Int32 := if ((-100)) < (-(nI n)) then (if ((-9)) ≤ (-(nI n)) then (nI (k - 1)) else (nI ((k - 1) - 1))) else (if ((-9)) ≤ (-(nI (n / 100))) then (nI (((k - 1) - 1) - 1)) else (nI ((((k - 1) - 1) - 1) - 1)))
def J6_getChars_ba4f3_m (g : mG) (m : mM) (n : Nat) (k : Nat) (v : Nat) (cap : Nat) : mM := if ((-100)) < (-(nI n)) then (if ((-9)) ≤ (-(nI n)) then ((sA m v (k - 1) (d1V n))) else ((sA (sA m v (k - 1) (d1V n)) v ((k - 1) - 1) (d2V n)))) else (if ((-9)) ≤ (-(nI (n / 100))) then ((sA (sA (sA m v (k - 1) (d1V (n % 100))) v ((k - 1) - 1) (d2V (n % 100))) v (((k - 1) - 1) - 1) (d1V (n / 100)))) else ((sA (sA (sA (sA m v (k - 1) (d1V (n % 100))) v ((k - 1) - 1) (d2V (n % 100))) v (((k - 1) - 1) - 1) (d1V (n / 100))) v ((((k - 1) - 1) - 1) - 1) (d2V (n / 100)))))

set_option maxHeartbeats 4000000 in
set_option maxRecDepth 100000 in
theorem c_J6_getChars_ba4f3 {l : Launch} {g : mG} (hO : mO l g) (m : mM) (n : Nat) (k : Nat) (v : Nat) (cap : Nat) (hn : n < 10000) (hv : gK m v = some (.inr (2, cap))) (hkc : k ≤ cap) (hcap : cap ≤ 300) (hdk : digs n ≤ k) : mT l g yJ6_getChars_ba4f3 (.code yJ6_getChars_ba4f3 cJ6_getChars_ba4f3 7 (Option.some FieldType.int)) 1 20 0 0 [.int (nI n), .int (nI k), .ref v] m (fun r m' => r = some (.int (J6_getChars_ba4f3_r g m n k v cap)) ∧ m' = J6_getChars_ba4f3_m g m n k v cap) nX := by
  refine mT_of hO (by decide) (Nat.le_of_ble_eq_true rfl) (fun x hX hZ => ?_)
  show mV g x m 0 0 0 [(0, .int (nI n)), (1, .int (nI k)), (2, .ref v)] []
  have hd := digs_le n
  have hk1 : 1 ≤ k := by omega
  refine v_iload_n (pc := 0) hX dJ6_getChars_ba4f3_0 rfl ?_
  refine v_istore (pc := 1) hX dJ6_getChars_ba4f3_1 (by decide) rfl ?_
  refine v_iload_n (pc := 3) hX dJ6_getChars_ba4f3_3 rfl ?_
  refine v_if_ge (tgt := 11) (pc := 4) hX dJ6_getChars_ba4f3_4 (by decide) (fun c1 => ?_) (fun c1 => ?_)
  ·
    refine v_iconst (v := 0) (pc := 11) hX dJ6_getChars_ba4f3_11 (by decide) ?_
    refine v_istore (pc := 12) hX dJ6_getChars_ba4f3_12 (by decide) rfl ?_
    refine v_iload (pc := 14) hX dJ6_getChars_ba4f3_14 rfl ?_
    refine v_if_ne (tgt := 22) (pc := 16) hX dJ6_getChars_ba4f3_16 (by decide) (fun c2 => ?_) (fun c2 => ?_)
    · exact absurd (by decide) c2
    ·
      refine v_iload_n (pc := 19) hX dJ6_getChars_ba4f3_19 rfl ?_
      refine v_ineg (pc := 20) hX dJ6_getChars_ba4f3_20 ?_
      refine v_istore_n (pc := 21) hX dJ6_getChars_ba4f3_21 (by decide) rfl ?_
      refine v_iload_n (pc := 22) hX dJ6_getChars_ba4f3_22 rfl ?_
      refine v_bipush (v := (-100)) (pc := 23) hX dJ6_getChars_ba4f3_23 (by decide) ?_
      refine v_icmp_gt (tgt := 72) (pc := 25) hX dJ6_getChars_ba4f3_25 (by decide) (fun c3 => ?_) (fun c3 => ?_)
      ·
        have hx : n < 100 := (neg_lt (n := n) (k := 100) (x := (-100)) (by omega) (by decide)).mp (by assumption)
        refine v_aload_n (pc := 72) hX dJ6_getChars_ba4f3_72 rfl ?_
        refine v_iinc (w := nI (k - 1)) (pc := 73) hX dJ6_getChars_ba4f3_73 rfl (nI_m1 (by omega)) (by decide) rfl ?_
        refine v_iload (pc := 76) hX dJ6_getChars_ba4f3_76 rfl ?_
        refine v_gets (v := .ref (d1A g)) (pc := 78) hX dJ6_getChars_ba4f3_78 (d1_TZ hO).2 wd_614 ?_
        refine v_iload_n (pc := 81) hX dJ6_getChars_ba4f3_81 rfl ?_
        refine v_ineg (pc := 82) hX dJ6_getChars_ba4f3_82 ?_
        rw [neg_neg]
        refine v_tbO (j := n) (pc := 83) hX dJ6_getChars_ba4f3_83 (d1_TZ hO).1 rfl (by omega) (by decide) ?_
        show mV g x _ _ _ _ _ [.int (d1V n), .int (nI (k - 1)), .ref v]
        refine v_bast (v := (d1V n)) (pc := 84) hX dJ6_getChars_ba4f3_84 hv (j := (k - 1)) rfl (by omega) (by omega) (nar_d1 _) ?_
        refine v_iload_n (pc := 85) hX dJ6_getChars_ba4f3_85 rfl ?_
        refine v_bipush (v := (-9)) (pc := 86) hX dJ6_getChars_ba4f3_86 (by decide) ?_
        refine v_icmp_ge (tgt := 104) (pc := 88) hX dJ6_getChars_ba4f3_88 (by decide) (fun c4 => ?_) (fun c4 => ?_)
        ·
          refine v_iload (pc := 104) hX dJ6_getChars_ba4f3_104 rfl ?_
          refine v_if_eq (tgt := 118) (pc := 106) hX dJ6_getChars_ba4f3_106 (by decide) (fun c5 => ?_) (fun c5 => ?_)
          ·
            refine v_iload (pc := 118) hX dJ6_getChars_ba4f3_118 rfl ?_
            exact v_iret (pc := 120) hX hZ dJ6_getChars_ba4f3_120 (by decide) (by decide) ⟨(by rw [J6_getChars_ba4f3_r, if_pos c3, if_pos c4]), (by rw [J6_getChars_ba4f3_m, if_pos c3, if_pos c4])⟩
          · exact absurd (by decide) c5
        ·
          have hy : 10 ≤ n := by
            rcases Nat.lt_or_ge (n) 10 with q | q
            · exact absurd ((neg_ge (n := n) (k := 9) (x := (-9)) (by omega) (by decide)).mpr (by omega)) (by assumption)
            · exact q
          have hk2 : 2 ≤ k := by have := hd.2.2.1 hy; omega
          refine v_aload_n (pc := 91) hX dJ6_getChars_ba4f3_91 rfl ?_
          refine v_iinc (w := nI ((k - 1) - 1)) (pc := 92) hX dJ6_getChars_ba4f3_92 rfl (nI_m1 (by omega)) (by decide) rfl ?_
          refine v_iload (pc := 95) hX dJ6_getChars_ba4f3_95 rfl ?_
          refine v_gets (v := .ref (d2A g)) (pc := 97) hX dJ6_getChars_ba4f3_97 (d2_TZ hO).2 wd_616 ?_
          refine v_iload_n (pc := 100) hX dJ6_getChars_ba4f3_100 rfl ?_
          refine v_ineg (pc := 101) hX dJ6_getChars_ba4f3_101 ?_
          rw [neg_neg]
          refine v_tbO (j := n) (pc := 102) hX dJ6_getChars_ba4f3_102 (d2_TZ hO).1 rfl (by omega) (by decide) ?_
          show mV g x _ _ _ _ _ [.int (d2V n), .int (nI ((k - 1) - 1)), .ref v]
          refine v_bast (v := (d2V n)) (pc := 103) hX dJ6_getChars_ba4f3_103 (by simp only [mm]; exact hv) (j := ((k - 1) - 1)) rfl (by omega) (by omega) (nar_d2 (by omega)) ?_
          refine v_iload (pc := 104) hX dJ6_getChars_ba4f3_104 rfl ?_
          refine v_if_eq (tgt := 118) (pc := 106) hX dJ6_getChars_ba4f3_106 (by decide) (fun c6 => ?_) (fun c6 => ?_)
          ·
            refine v_iload (pc := 118) hX dJ6_getChars_ba4f3_118 rfl ?_
            exact v_iret (pc := 120) hX hZ dJ6_getChars_ba4f3_120 (by decide) (by decide) ⟨(by rw [J6_getChars_ba4f3_r, if_pos c3, if_neg c4]), (by rw [J6_getChars_ba4f3_m, if_pos c3, if_neg c4])⟩
          · exact absurd (by decide) c6
      ·
        have hb : 100 ≤ n := by
          rcases Nat.lt_or_ge n 100 with q | q
          · exact absurd ((neg_lt (n := n) (k := 100) (x := (-100)) (by omega) (by decide)).mpr q) (by assumption)
          · exact q
        have hk3 : 3 ≤ k := by have := hd.2.2.2.1 hb; omega
        refine v_iload_n (pc := 28) hX dJ6_getChars_ba4f3_28 rfl ?_
        refine v_bipush (v := 100) (pc := 29) hX dJ6_getChars_ba4f3_29 (by decide) ?_
        refine v_idiv (pc := 31) hX dJ6_getChars_ba4f3_31 (by decide) ?_
        rw [neg_div hn]
        refine v_istore_n (pc := 32) hX dJ6_getChars_ba4f3_32 (by decide) rfl ?_
        refine v_iload_n (pc := 33) hX dJ6_getChars_ba4f3_33 rfl ?_
        refine v_bipush (v := 100) (pc := 34) hX dJ6_getChars_ba4f3_34 (by decide) ?_
        refine v_imul (pc := 36) hX dJ6_getChars_ba4f3_36 ?_
        refine v_iload_n (pc := 37) hX dJ6_getChars_ba4f3_37 rfl ?_
        refine v_isub (pc := 38) hX dJ6_getChars_ba4f3_38 ?_
        rw [neg_rem hn]
        refine v_istore (pc := 39) hX dJ6_getChars_ba4f3_39 (by decide) rfl ?_
        refine v_iload_n (pc := 41) hX dJ6_getChars_ba4f3_41 rfl ?_
        refine v_istore_n (pc := 42) hX dJ6_getChars_ba4f3_42 (by decide) rfl ?_
        refine v_aload_n (pc := 43) hX dJ6_getChars_ba4f3_43 rfl ?_
        refine v_iinc (w := nI (k - 1)) (pc := 44) hX dJ6_getChars_ba4f3_44 rfl (nI_m1 (by omega)) (by decide) rfl ?_
        refine v_iload (pc := 47) hX dJ6_getChars_ba4f3_47 rfl ?_
        refine v_gets (v := .ref (d1A g)) (pc := 49) hX dJ6_getChars_ba4f3_49 (d1_TZ hO).2 wd_614 ?_
        refine v_iload (pc := 52) hX dJ6_getChars_ba4f3_52 rfl ?_
        refine v_tbO (j := (n % 100)) (pc := 54) hX dJ6_getChars_ba4f3_54 (d1_TZ hO).1 rfl (by omega) (by decide) ?_
        show mV g x _ _ _ _ _ [.int (d1V (n % 100)), .int (nI (k - 1)), .ref v]
        refine v_bast (v := (d1V (n % 100))) (pc := 55) hX dJ6_getChars_ba4f3_55 hv (j := (k - 1)) rfl (by omega) (by omega) (nar_d1 _) ?_
        refine v_aload_n (pc := 56) hX dJ6_getChars_ba4f3_56 rfl ?_
        refine v_iinc (w := nI ((k - 1) - 1)) (pc := 57) hX dJ6_getChars_ba4f3_57 rfl (nI_m1 (by omega)) (by decide) rfl ?_
        refine v_iload (pc := 60) hX dJ6_getChars_ba4f3_60 rfl ?_
        refine v_gets (v := .ref (d2A g)) (pc := 62) hX dJ6_getChars_ba4f3_62 (d2_TZ hO).2 wd_616 ?_
        refine v_iload (pc := 65) hX dJ6_getChars_ba4f3_65 rfl ?_
        refine v_tbO (j := (n % 100)) (pc := 67) hX dJ6_getChars_ba4f3_67 (d2_TZ hO).1 rfl (by omega) (by decide) ?_
        show mV g x _ _ _ _ _ [.int (d2V (n % 100)), .int (nI ((k - 1) - 1)), .ref v]
        refine v_bast (v := (d2V (n % 100))) (pc := 68) hX dJ6_getChars_ba4f3_68 (by simp only [mm]; exact hv) (j := ((k - 1) - 1)) rfl (by omega) (by omega) (nar_d2 (by omega)) ?_
        refine v_goto (tgt := 22) (pc := 69) hX dJ6_getChars_ba4f3_69 (by decide) ?_
        refine v_iload_n (pc := 22) hX dJ6_getChars_ba4f3_22 rfl ?_
        refine v_bipush (v := (-100)) (pc := 23) hX dJ6_getChars_ba4f3_23 (by decide) ?_
        refine v_icmp_gt (tgt := 72) (pc := 25) hX dJ6_getChars_ba4f3_25 (by decide) (fun c7 => ?_) (fun c7 => ?_)
        ·
          have hx : n / 100 < 100 := by omega
          refine v_aload_n (pc := 72) hX dJ6_getChars_ba4f3_72 rfl ?_
          refine v_iinc (w := nI (((k - 1) - 1) - 1)) (pc := 73) hX dJ6_getChars_ba4f3_73 rfl (nI_m1 (by omega)) (by decide) rfl ?_
          refine v_iload (pc := 76) hX dJ6_getChars_ba4f3_76 rfl ?_
          refine v_gets (v := .ref (d1A g)) (pc := 78) hX dJ6_getChars_ba4f3_78 (d1_TZ hO).2 wd_614 ?_
          refine v_iload_n (pc := 81) hX dJ6_getChars_ba4f3_81 rfl ?_
          refine v_ineg (pc := 82) hX dJ6_getChars_ba4f3_82 ?_
          rw [neg_neg]
          refine v_tbO (j := (n / 100)) (pc := 83) hX dJ6_getChars_ba4f3_83 (d1_TZ hO).1 rfl (by omega) (by decide) ?_
          show mV g x _ _ _ _ _ [.int (d1V (n / 100)), .int (nI (((k - 1) - 1) - 1)), .ref v]
          refine v_bast (v := (d1V (n / 100))) (pc := 84) hX dJ6_getChars_ba4f3_84 (by simp only [mm]; exact hv) (j := (((k - 1) - 1) - 1)) rfl (by omega) (by omega) (nar_d1 _) ?_
          refine v_iload_n (pc := 85) hX dJ6_getChars_ba4f3_85 rfl ?_
          refine v_bipush (v := (-9)) (pc := 86) hX dJ6_getChars_ba4f3_86 (by decide) ?_
          refine v_icmp_ge (tgt := 104) (pc := 88) hX dJ6_getChars_ba4f3_88 (by decide) (fun c8 => ?_) (fun c8 => ?_)
          ·
            refine v_iload (pc := 104) hX dJ6_getChars_ba4f3_104 rfl ?_
            refine v_if_eq (tgt := 118) (pc := 106) hX dJ6_getChars_ba4f3_106 (by decide) (fun c9 => ?_) (fun c9 => ?_)
            ·
              refine v_iload (pc := 118) hX dJ6_getChars_ba4f3_118 rfl ?_
              exact v_iret (pc := 120) hX hZ dJ6_getChars_ba4f3_120 (by decide) (by decide) ⟨(by rw [J6_getChars_ba4f3_r, if_neg c3, if_pos c8]), (by rw [J6_getChars_ba4f3_m, if_neg c3, if_pos c8])⟩
            · exact absurd (by decide) c9
          ·
            have hy : 10 ≤ (n / 100) := by
              rcases Nat.lt_or_ge ((n / 100)) 10 with q | q
              · exact absurd ((neg_ge (n := (n / 100)) (k := 9) (x := (-9)) (by omega) (by decide)).mpr (by omega)) (by assumption)
              · exact q
            have hk4 : 4 ≤ k := by have := hd.2.2.2.2 (by omega); omega
            refine v_aload_n (pc := 91) hX dJ6_getChars_ba4f3_91 rfl ?_
            refine v_iinc (w := nI ((((k - 1) - 1) - 1) - 1)) (pc := 92) hX dJ6_getChars_ba4f3_92 rfl (nI_m1 (by omega)) (by decide) rfl ?_
            refine v_iload (pc := 95) hX dJ6_getChars_ba4f3_95 rfl ?_
            refine v_gets (v := .ref (d2A g)) (pc := 97) hX dJ6_getChars_ba4f3_97 (d2_TZ hO).2 wd_616 ?_
            refine v_iload_n (pc := 100) hX dJ6_getChars_ba4f3_100 rfl ?_
            refine v_ineg (pc := 101) hX dJ6_getChars_ba4f3_101 ?_
            rw [neg_neg]
            refine v_tbO (j := (n / 100)) (pc := 102) hX dJ6_getChars_ba4f3_102 (d2_TZ hO).1 rfl (by omega) (by decide) ?_
            show mV g x _ _ _ _ _ [.int (d2V (n / 100)), .int (nI ((((k - 1) - 1) - 1) - 1)), .ref v]
            refine v_bast (v := (d2V (n / 100))) (pc := 103) hX dJ6_getChars_ba4f3_103 (by simp only [mm]; exact hv) (j := ((((k - 1) - 1) - 1) - 1)) rfl (by omega) (by omega) (nar_d2 (by omega)) ?_
            refine v_iload (pc := 104) hX dJ6_getChars_ba4f3_104 rfl ?_
            refine v_if_eq (tgt := 118) (pc := 106) hX dJ6_getChars_ba4f3_106 (by decide) (fun c10 => ?_) (fun c10 => ?_)
            ·
              refine v_iload (pc := 118) hX dJ6_getChars_ba4f3_118 rfl ?_
              exact v_iret (pc := 120) hX hZ dJ6_getChars_ba4f3_120 (by decide) (by decide) ⟨(by rw [J6_getChars_ba4f3_r, if_neg c3, if_neg c8]), (by rw [J6_getChars_ba4f3_m, if_neg c3, if_neg c8])⟩
            · exact absurd (by decide) c10
        · exact absurd ((neg_lt (k := 100) (by omega) (by decide)).mpr (by omega)) c7
  · exact absurd (nI_pos' (by omega)) c1
