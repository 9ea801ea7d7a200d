/-! STRINGS of the start: t, its bytes vt, their number L, the bytes byt -/
def oS (g : mG) (t vt L : Nat) (byt : Nat → Int32) : Prop := oO g "java/lang/String" t ∧ oF g "java/lang/String" "coder" "B" (.int 0) t ∧ oF g "java/lang/String" "value" "[B" (.ref vt) t ∧ oT g .byte vt L (fun j => .int (byt j)) ∧ L < 2 ^ 31
section
variable {g : mG} {t vt L : Nat} {byt : Nat → Int32}
theorem oS.o (h : oS g t vt L byt) : oO g "java/lang/String" t := h.1
theorem oS.c (h : oS g t vt L byt) : oF g "java/lang/String" "coder" "B" (.int 0) t := h.2.1
theorem oS.v (h : oS g t vt L byt) : oF g "java/lang/String" "value" "[B" (.ref vt) t := h.2.2.1
theorem oS.b (h : oS g t vt L byt) : oT g .byte vt L (fun j => .int (byt j)) := h.2.2.2.1
theorem oS.l (h : oS g t vt L byt) : L < 2 ^ 31 := h.2.2.2.2
end
theorem st_int {l : Launch} {g : mG} {C n d : String} {z : Int32} (hO : mO l g) (hl : Cond.laysStatic C n d ∈ lw_tbl) (hi : Cond.initialized C ∈ gw) (hx : Cond.eq (.static C n d) (.int z) ∈ flatC (Jvm.Cond.and given_1 narrow_1)) : va_Z C n d (.int z) (fun a => (gH g).size ≤ a) g.2.2 (gH g) := by
  obtain ⟨-, -, b, h, hw⟩ := hO
  exact va_Zof (hw _ hl) (hw _ (gw_tbl hi)) (va_eqi (flat_of_before _ h _ hx)) (mO_old g)
theorem cs_Z {l : Launch} {g : mG} (hO : mO l g) : va_Z "java/lang/String" "COMPACT_STRINGS" "Z" (.int 1) (fun a => (gH g).size ≤ a) g.2.2 (gH g) := st_int hO wd_283 wd_14 (by decide +kernel)
theorem fm_Z {l : Launch} {g : mG} (hO : mO l g) : ∃ q : Option Nat, va_Z "jdk/internal/util/Preconditions" "SIOOBE_FORMATTER" "Ljava/util/function/BiFunction;" (va_rf q) (fun a => (gH g).size ≤ a) g.2.2 (gH g) := by
  obtain ⟨-, -, b, h, hw⟩ := hO
  rcases va_Zqof (hw _ wd_545) (hw _ (gw_tbl wd_29)) (flat_of_before _ h _ (by decide +kernel)) (mO_old g) with h | ⟨t, h⟩
  · exact ⟨none, h⟩
  · exact ⟨some t, h⟩
theorem nar_c (x : Int32) : narrow .char (.int ((x.toUInt32 % 65536).toInt32)) = .int ((x.toUInt32 % 65536).toInt32) := by
  have e : ∀ u : UInt32, (u % 65536).toUInt16.toUInt32 = u % 65536 := by
    intro u
    apply UInt32.toNat_inj.mp
    simp
  show Value.int _ = Value.int _
  congr 1
  rw [UInt32.toUInt32_toInt32]
  congr 1
  exact e _
def J0_coder_7d493_r (g : mG) (m : mM) (t : Nat) (vt : Nat) (L : Nat) (byt : Nat → Int32) : Int32 := 0

set_option maxHeartbeats 4000000 in
set_option maxRecDepth 100000 in
theorem c_J0_coder_7d493 {l : Launch} {g : mG} (hO : mO l g) (m : mM) (t : Nat) (vt : Nat) (L : Nat) (byt : Nat → Int32) (hS : oS g t vt L byt) : mT l g yJ0_coder_7d493 (.code yJ0_coder_7d493 cJ0_coder_7d493 1 (Option.some FieldType.byte)) 1 20 0 0 [.ref t] m (fun r m' => r = some (.int (J0_coder_7d493_r g m t vt L byt)) ∧ m' = m) nX := by
  refine mT_of hO (by decide) (Nat.le_of_ble_eq_true rfl) (fun x hX hZ => ?_)
  show mV g x m 0 0 0 [(0, .ref t)] []
  refine v_gets (v := .int 1) (pc := 0) hX dJ0_coder_7d493_0 (cs_Z hO) wd_566 ?_
  refine v_if_eq (tgt := 13) (pc := 3) hX dJ0_coder_7d493_3 (by decide) (fun c1 => ?_) (fun c1 => ?_)
  · exact absurd c1 (by decide)
  ·
    refine v_aload_n (pc := 6) hX dJ0_coder_7d493_6 rfl ?_
    refine v_getO (v := .int 0) (pc := 7) hX dJ0_coder_7d493_7 hS.c wd_753 ?_
    refine v_goto (tgt := 14) (pc := 10) hX dJ0_coder_7d493_10 (by decide) ?_
    exact v_zret (pc := 14) hX hZ dJ0_coder_7d493_14 rfl (by decide) (by decide) ⟨(by rw [J0_coder_7d493_r]), rfl⟩
def J0_isLatin1_aae02_r (g : mG) (m : mM) (t : Nat) (vt : Nat) (L : Nat) (byt : Nat → Int32) : Int32 := 1

set_option maxHeartbeats 4000000 in
set_option maxRecDepth 100000 in
theorem c_J0_isLatin1_aae02 {l : Launch} {g : mG} (hO : mO l g) (m : mM) (t : Nat) (vt : Nat) (L : Nat) (byt : Nat → Int32) (hS : oS g t vt L byt) : mT l g yJ0_isLatin1_aae02 (.code yJ0_isLatin1_aae02 cJ0_isLatin1_aae02 1 (Option.some FieldType.boolean)) 1 20 0 0 [.ref t] m (fun r m' => r = some (.int (J0_isLatin1_aae02_r g m t vt L byt)) ∧ m' = m) nX := by
  refine mT_of hO (by decide) (Nat.le_of_ble_eq_true rfl) (fun x hX hZ => ?_)
  show mV g x m 0 0 0 [(0, .ref t)] []
  refine v_gets (v := .int 1) (pc := 0) hX dJ0_isLatin1_aae02_0 (cs_Z hO) wd_566 ?_
  refine v_if_eq (tgt := 17) (pc := 3) hX dJ0_isLatin1_aae02_3 (by decide) (fun c1 => ?_) (fun c1 => ?_)
  · exact absurd c1 (by decide)
  ·
    refine v_aload_n (pc := 6) hX dJ0_isLatin1_aae02_6 rfl ?_
    refine v_getO (v := .int 0) (pc := 7) hX dJ0_isLatin1_aae02_7 hS.c wd_753 ?_
    refine v_if_ne (tgt := 17) (pc := 10) hX dJ0_isLatin1_aae02_10 (by decide) (fun c2 => ?_) (fun c2 => ?_)
    · exact absurd (by decide) c2
    ·
      refine v_iconst (v := 1) (pc := 13) hX dJ0_isLatin1_aae02_13 (by decide) ?_
      refine v_goto (tgt := 18) (pc := 14) hX dJ0_isLatin1_aae02_14 (by decide) ?_
      exact v_zret (pc := 18) hX hZ dJ0_isLatin1_aae02_18 rfl (by decide) (by decide) ⟨(by rw [J0_isLatin1_aae02_r]), rfl⟩
def J0_length_8abf5_r (g : mG) (m : mM) (t : Nat) (vt : Nat) (L : Nat) (byt : Nat → Int32) : Int32 := (nI L) >>> ((J0_coder_7d493_r g m t vt L byt) &&& 31)

set_option maxHeartbeats 4000000 in
set_option maxRecDepth 100000 in
theorem c_J0_length_8abf5 {l : Launch} {g : mG} (hO : mO l g) (m : mM) (t : Nat) (vt : Nat) (L : Nat) (byt : Nat → Int32) (hS : oS g t vt L byt) : mT l g yJ0_length_8abf5 (.code yJ0_length_8abf5 cJ0_length_8abf5 1 (Option.some FieldType.int)) 2 40 0 0 [.ref t] m (fun r m' => r = some (.int (J0_length_8abf5_r g m t vt L byt)) ∧ m' = m) nX := by
  refine mT_of hO (by decide) (Nat.le_of_ble_eq_true rfl) (fun x hX hZ => ?_)
  show mV g x m 0 0 0 [(0, .ref t)] []
  refine v_aload_n (pc := 0) hX dJ0_length_8abf5_0 rfl ?_
  refine v_getO (v := .ref vt) (pc := 1) hX dJ0_length_8abf5_1 hS.v wd_752 ?_
  refine v_tlO (pc := 4) hX dJ0_length_8abf5_4 hS.b ?_
  refine v_aload_n (pc := 5) hX dJ0_length_8abf5_5 rfl ?_
  refine v_callVO (z := yJ0_coder_7d493) (pc := 6) hX dJ0_length_8abf5_6 (c_J0_coder_7d493 hO m t vt L byt hS) hS.o wd_562 wd_563 wd_564 wd_14 wd_565 ⟨by decide, by decide, (by decide +kernel : (parseMethodDescriptor yJ0_coder_7d493.desc).map (fun d => d.parameters.length) = some 0)⟩ rfl (Nat.le_of_ble_eq_true rfl) ⟨⟨by decide, by decide⟩, by decide, by decide⟩ (fun E m9 h9 => h9.elim) (fun r9 m9 h9 => ?_)
  obtain ⟨rfl, h8⟩ := h9
  replace h8 := h8.symm
  subst h8
  show mV g x _ _ _ _ _ [.int (J0_coder_7d493_r g m t vt L byt), .int (nI L)]
  refine v_ishr (pc := 9) hX dJ0_length_8abf5_9 ?_
  exact v_iret (pc := 10) hX hZ dJ0_length_8abf5_10 (by decide) (by decide) ⟨(by rw [J0_length_8abf5_r]), rfl⟩
def J3_checkIndex_8e157_r (g : mG) (m : mM) (a : Int32) (b : Int32) (o : Option Nat)  : Int32 := a

set_option maxHeartbeats 4000000 in
set_option maxRecDepth 100000 in
theorem c_J3_checkIndex_8e157 {l : Launch} {g : mG} (hO : mO l g) (m : mM) (a : Int32) (b : Int32) (o : Option Nat)  (h0 : ¬ a < 0) (h1 : a < b) : mT l g yJ3_checkIndex_8e157 (.code yJ3_checkIndex_8e157 cJ3_checkIndex_8e157 3 (Option.some FieldType.int)) 1 20 0 0 [.int a, .int b, va_rf o] m (fun r m' => r = some (.int (J3_checkIndex_8e157_r g m a b o )) ∧ m' = m) nX := by
  refine mT_of hO (by decide) (by cases o <;> exact Nat.le_of_ble_eq_true rfl) (fun x hX hZ => ?_)
  show mV g x m 0 0 0 [(0, .int a), (1, .int b), (2, va_rf o)] []
  refine v_iload_n (pc := 0) hX dJ3_checkIndex_8e157_0 rfl ?_
  refine v_if_lt (tgt := 9) (pc := 1) hX dJ3_checkIndex_8e157_1 (by decide) (fun c1 => ?_) (fun c1 => ?_)
  · exact absurd c1 (h0)
  ·
    refine v_iload_n (pc := 4) hX dJ3_checkIndex_8e157_4 rfl ?_
    refine v_iload_n (pc := 5) hX dJ3_checkIndex_8e157_5 rfl ?_
    refine v_icmp_lt (tgt := 16) (pc := 6) hX dJ3_checkIndex_8e157_6 (by decide) (fun c2 => ?_) (fun c2 => ?_)
    ·
      refine v_iload_n (pc := 16) hX dJ3_checkIndex_8e157_16 rfl ?_
      exact v_iret (pc := 17) hX hZ dJ3_checkIndex_8e157_17 (by decide) (by decide) ⟨(by rw [J3_checkIndex_8e157_r]), rfl⟩
    · exact absurd (h1) c2

set_option maxHeartbeats 4000000 in
set_option maxRecDepth 100000 in
theorem c_J0_checkIndex_df160 {l : Launch} {g : mG} (hO : mO l g) (m : mM) (a : Int32) (b : Int32)  (h0 : ¬ a < 0) (h1 : a < b) : mT l g yJ0_checkIndex_df160 (.code yJ0_checkIndex_df160 cJ0_checkIndex_df160 2 (Option.none : Option FieldType)) 2 42 0 0 [.int a, .int b] m (fun r m' => r = none ∧ m' = m) nX := by
  refine mT_of hO (by decide) (Nat.le_of_ble_eq_true rfl) (fun x hX hZ => ?_)
  show mV g x m 0 0 0 [(0, .int a), (1, .int b)] []
  obtain ⟨o, ho⟩ := fm_Z hO
  refine v_iload_n (pc := 0) hX dJ0_checkIndex_df160_0 rfl ?_
  refine v_iload_n (pc := 1) hX dJ0_checkIndex_df160_1 rfl ?_
  refine v_gets (v := va_rf o) (pc := 2) hX dJ0_checkIndex_df160_2 ho wd_544 ?_
  refine v_callS (z := yJ3_checkIndex_8e157) (pc := 5) hX dJ0_checkIndex_df160_5 (c_J3_checkIndex_8e157 hO m a b o  h0 h1) wd_837 wd_838 wd_29 wd_839 ⟨by decide, by decide, (by decide +kernel : (parseMethodDescriptor yJ3_checkIndex_8e157.desc).map (fun d => d.parameters.length) = some 3)⟩ rfl (Nat.le_of_ble_eq_true rfl) ⟨⟨by decide, by decide⟩, by decide, by decide⟩ (fun E m9 h9 => h9.elim) (fun r9 m9 h9 => ?_)
  obtain ⟨rfl, h8⟩ := h9
  replace h8 := h8.symm
  subst h8
  show mV g x _ _ _ _ _ [.int (J3_checkIndex_8e157_r g m a b o )]
  refine v_pop (pc := 8) hX dJ0_checkIndex_df160_8 rfl ?_
  exact v_vret (pc := 9) hX hZ dJ0_checkIndex_df160_9 (by decide) (by decide) ⟨rfl, rfl⟩
def J1_charAt_3b067_r (g : mG) (m : mM) (v : Nat) (a : Int32) (L : Nat) (byt : Nat → Int32) (j : Nat) : Int32 := (((byt j) &&& 255).toUInt32 % 65536).toInt32

set_option maxHeartbeats 4000000 in
set_option maxRecDepth 100000 in
theorem c_J1_charAt_3b067 {l : Launch} {g : mG} (hO : mO l g) (m : mM) (v : Nat) (a : Int32) (L : Nat) (byt : Nat → Int32) (j : Nat) (hT : oT g .byte v L (fun j => .int (byt j))) (hj : a = nI j) (hj2 : j < L) (hL31 : L < 2 ^ 31) : mT l g yJ1_charAt_3b067 (.code yJ1_charAt_3b067 cJ1_charAt_3b067 2 (Option.some FieldType.char)) 3 63 0 0 [.ref v, .int a] m (fun r m' => r = some (.int (J1_charAt_3b067_r g m v a L byt j)) ∧ m' = m) nX := by
  refine mT_of hO (by decide) (Nat.le_of_ble_eq_true rfl) (fun x hX hZ => ?_)
  show mV g x m 0 0 0 [(0, .ref v), (1, .int a)] []
  refine v_iload_n (pc := 0) hX dJ1_charAt_3b067_0 rfl ?_
  refine v_aload_n (pc := 1) hX dJ1_charAt_3b067_1 rfl ?_
  refine v_tlO (pc := 2) hX dJ1_charAt_3b067_2 hT ?_
  refine v_callS (z := yJ0_checkIndex_df160) (pc := 3) hX dJ1_charAt_3b067_3 (c_J0_checkIndex_df160 hO m a (nI L)  (by rw [hj]; exact Int32.not_lt.mpr (show nI 0 ≤ nI j from nI_le (Nat.zero_le _) (by omega))) (by rw [hj]; exact nI_lt hj2 hL31)) wd_1372 wd_835 wd_14 wd_836 ⟨by decide, by decide, (by decide +kernel : (parseMethodDescriptor yJ0_checkIndex_df160.desc).map (fun d => d.parameters.length) = some 2)⟩ rfl (Nat.le_of_ble_eq_true rfl) ⟨⟨by decide, by decide⟩, by decide, by decide⟩ (fun E m9 h9 => h9.elim) (fun r9 m9 h9 => ?_)
  obtain ⟨rfl, h8⟩ := h9
  replace h8 := h8.symm
  subst h8
  show mV g x _ _ _ _ _ []
  refine v_aload_n (pc := 6) hX dJ1_charAt_3b067_6 rfl ?_
  refine v_iload_n (pc := 7) hX dJ1_charAt_3b067_7 rfl ?_
  refine v_tbO (j := j) (pc := 8) hX dJ1_charAt_3b067_8 hT hj hj2 hL31 ?_
  refine v_sipush (v := 255) (pc := 9) hX dJ1_charAt_3b067_9 (by decide) ?_
  refine v_iand (pc := 12) hX dJ1_charAt_3b067_12 ?_
  refine v_i2c (v := (((byt j) &&& 255).toUInt32 % 65536).toInt32) (pc := 13) hX dJ1_charAt_3b067_13 rfl ?_
  exact v_zret (pc := 14) hX hZ dJ1_charAt_3b067_14 (nar_c _) (by decide) (by decide) ⟨(by rw [J1_charAt_3b067_r]), rfl⟩
def J0_charAt_5068e_r (g : mG) (m : mM) (t : Nat) (a : Int32) (vt : Nat) (L : Nat) (byt : Nat → Int32) (j : Nat) : Int32 := J1_charAt_3b067_r g m vt a L byt j

set_option maxHeartbeats 4000000 in
set_option maxRecDepth 100000 in
theorem c_J0_charAt_5068e {l : Launch} {g : mG} (hO : mO l g) (m : mM) (t : Nat) (a : Int32) (vt : Nat) (L : Nat) (byt : Nat → Int32) (j : Nat) (hS : oS g t vt L byt) (hj : a = nI j) (hj2 : j < L) : mT l g yJ0_charAt_5068e (.code yJ0_charAt_5068e cJ0_charAt_5068e 2 (Option.some FieldType.char)) 4 84 0 0 [.ref t, .int a] m (fun r m' => r = some (.int (J0_charAt_5068e_r g m t a vt L byt j)) ∧ m' = m) nX := by
  refine mT_of hO (by decide) (Nat.le_of_ble_eq_true rfl) (fun x hX hZ => ?_)
  show mV g x m 0 0 0 [(0, .ref t), (1, .int a)] []
  refine v_aload_n (pc := 0) hX dJ0_charAt_5068e_0 rfl ?_
  refine v_callVO (z := yJ0_isLatin1_aae02) (pc := 1) hX dJ0_charAt_5068e_1 (c_J0_isLatin1_aae02 hO m t vt L byt hS) hS.o wd_1365 wd_1366 wd_1367 wd_14 wd_1368 ⟨by decide, by decide, (by decide +kernel : (parseMethodDescriptor yJ0_isLatin1_aae02.desc).map (fun d => d.parameters.length) = some 0)⟩ rfl (Nat.le_of_ble_eq_true rfl) ⟨⟨by decide, by decide⟩, by decide, by decide⟩ (fun E m9 h9 => h9.elim) (fun r9 m9 h9 => ?_)
  obtain ⟨rfl, h8⟩ := h9
  replace h8 := h8.symm
  subst h8
  show mV g x _ _ _ _ _ [.int (J0_isLatin1_aae02_r g m t vt L byt)]
  refine v_if_eq (tgt := 16) (pc := 4) hX dJ0_charAt_5068e_4 (by decide) (fun c1 => ?_) (fun c1 => ?_)
  · exact absurd c1 (show ¬ (1 : Int32) = 0 by decide)
  ·
    refine v_aload_n (pc := 7) hX dJ0_charAt_5068e_7 rfl ?_
    refine v_getO (v := .ref vt) (pc := 8) hX dJ0_charAt_5068e_8 hS.v wd_752 ?_
    refine v_iload_n (pc := 11) hX dJ0_charAt_5068e_11 rfl ?_
    refine v_callS (z := yJ1_charAt_3b067) (pc := 12) hX dJ0_charAt_5068e_12 (c_J1_charAt_3b067 hO m vt a L byt j hS.b hj hj2 hS.l) wd_1369 wd_1370 wd_28 wd_1371 ⟨by decide, by decide, (by decide +kernel : (parseMethodDescriptor yJ1_charAt_3b067.desc).map (fun d => d.parameters.length) = some 2)⟩ rfl (Nat.le_of_ble_eq_true rfl) ⟨⟨by decide, by decide⟩, by decide, by decide⟩ (fun E m9 h9 => h9.elim) (fun r9 m9 h9 => ?_)
    obtain ⟨rfl, h8⟩ := h9
    replace h8 := h8.symm
    subst h8
    show mV g x _ _ _ _ _ [.int (J1_charAt_3b067_r g m vt a L byt j)]
    exact v_zret (pc := 15) hX hZ dJ0_charAt_5068e_15 (nar_c _) (by decide) (by decide) ⟨(by rw [J0_charAt_5068e_r]), rfl⟩
