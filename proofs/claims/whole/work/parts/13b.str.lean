/-! STRINGS of the start: t, its bytes vt, their number L, the bytes byt -/
def oS (g : mG) (t vt L : Nat) (byt : Nat → Int32) : Prop := oO g "java/lang/String" t ∧ oF g "java/lang/String" "coder" "B" (.int 0) t ∧ oF g "java/lang/String" "value" "[B" (.ref vt) t ∧ oT g .byte vt L (fun j => .int (byt j)) ∧ L < 2 ^ 31
section
variable {g : mG} {t vt L : Nat} {byt : Nat → Int32}
theorem oS.o (h : oS g t vt L byt) : oO g "java/lang/String" t := h.1
theorem oS.c (h : oS g t vt L byt) : oF g "java/lang/String" "coder" "B" (.int 0) t := h.2.1
theorem oS.v (h : oS g t vt L byt) : oF g "java/lang/String" "value" "[B" (.ref vt) t := h.2.2.1
theorem oS.b (h : oS g t vt L byt) : oT g .byte vt L (fun j => .int (byt j)) := h.2.2.2.1
theorem oS.l (h : oS g t vt L byt) : L < 2 ^ 31 := h.2.2.2.2
end
theorem st_int {l : Launch} {g : mG} {C n d : String} {z : Int32} (hO : mO l g) (hl : Cond.laysStatic C n d ∈ lw_tbl) (hi : Cond.initialized C ∈ gw) (hx : Cond.eq (.static C n d) (.int z) ∈ flatC (Jvm.Cond.and given_1 narrow_1)) : va_Z C n d (.int z) (fun a => (gH g).size ≤ a) g.2.2 (gH g) := by
  obtain ⟨-, -, b, h, hw⟩ := hO
  exact va_Zof (hw _ hl) (hw _ (gw_tbl hi)) (va_eqi (flat_of_before _ h _ hx)) (mO_old g)
theorem cs_Z {l : Launch} {g : mG} (hO : mO l g) : va_Z "java/lang/String" "COMPACT_STRINGS" "Z" (.int 1) (fun a => (gH g).size ≤ a) g.2.2 (gH g) := st_int hO wd_283 wd_14 (by decide +kernel)
theorem fm_Z {l : Launch} {g : mG} (hO : mO l g) : ∃ q : Option Nat, va_Z "jdk/internal/util/Preconditions" "SIOOBE_FORMATTER" "Ljava/util/function/BiFunction;" (va_rf q) (fun a => (gH g).size ≤ a) g.2.2 (gH g) := by
  obtain ⟨-, -, b, h, hw⟩ := hO
  rcases va_Zqof (hw _ wd_545) (hw _ (gw_tbl wd_29)) (flat_of_before _ h _ (by decide +kernel)) (mO_old g) with h | ⟨t, h⟩
  · exact ⟨none, h⟩
  · exact ⟨some t, h⟩
theorem nar_c (x : Int32) : narrow .char (.int ((x.toUInt32 % 65536).toInt32)) = .int ((x.toUInt32 % 65536).toInt32) := by
  have e : ∀ u : UInt32, (u % 65536).toUInt16.toUInt32 = u % 65536 := by
    intro u
    apply UInt32.toNat_inj.mp
    simp
  show Value.int _ = Value.int _
  congr 1
  rw [UInt32.toUInt32_toInt32]
  congr 1
  exact e _
def J0_coder_7d493_r (g : mG) (m : mM) (t : Nat) (vt : Nat) (L : Nat) (byt : Nat → Int32) : Int32 := 0

set_option maxHeartbeats 4000000 in
set_option maxRecDepth 100000 in
theorem c_J0_coder_7d493 {l : Launch} {g : mG} (hO : mO l g) (m : mM) (t : Nat) (vt : Nat) (L : Nat) (byt : Nat → Int32) (hS : oS g t vt L byt) : mT l g yJ0_coder_7d493 (.code yJ0_coder_7d493 cJ0_coder_7d493 1 (Option.some FieldType.byte)) 1 20 0 0 [.ref t] m (fun r m' => r = some (.int (J0_coder_7d493_r g m t vt L byt)) ∧ m' = m) nX := by
  refine mT_of hO (by decide) (Nat.le_of_ble_eq_true rfl) (fun x hX hZ => ?_)
  show mV g x m 0 0 0 [(0, .ref t)] []
  refine v_gets (v := .int 1) (pc := 0) hX dJ0_coder_7d493_0 (cs_Z hO) wd_566 ?_
  refine v_if_eq (tgt := 13) (pc := 3) hX dJ0_coder_7d493_3 (by decide) (fun c1 => ?_) (fun c1 => ?_)
  · exact absurd c1 (by decide)
  ·
    refine v_aload_n (pc := 6) hX dJ0_coder_7d493_6 rfl ?_
    refine v_getO (v := .int 0) (pc := 7) hX dJ0_coder_7d493_7 hS.c wd_753 ?_
    refine v_goto (tgt := 14) (pc := 10) hX dJ0_coder_7d493_10 (by decide) ?_
    exact v_zret (pc := 14) hX hZ dJ0_coder_7d493_14 rfl (by decide) (by decide) ⟨(by rw [J0_coder_7d493_r]), rfl⟩
def J0_isLatin1_aae02_r (g : mG) (m : mM) (t : Nat) (vt : Nat) (L : Nat) (byt : Nat → Int32) : Int32 := 1

set_option maxHeartbeats 4000000 in
set_option maxRecDepth 100000 in
theorem c_J0_isLatin1_aae02 {l : Launch} {g : mG} (hO : mO l g) (m : mM) (t : Nat) (vt : Nat) (L : Nat) (byt : Nat → Int32) (hS : oS g t vt L byt) : mT l g yJ0_isLatin1_aae02 (.code yJ0_isLatin1_aae02 cJ0_isLatin1_aae02 1 (Option.some FieldType.boolean)) 1 20 0 0 [.ref t] m (fun r m' => r = some (.int (J0_isLatin1_aae02_r g m t vt L byt)) ∧ m' = m) nX := by
  refine mT_of hO (by decide) (Nat.le_of_ble_eq_true rfl) (fun x hX hZ => ?_)
  show mV g x m 0 0 0 [(0, .ref t)] []
  refine v_gets (v := .int 1) (pc := 0) hX dJ0_isLatin1_aae02_0 (cs_Z hO) wd_566 ?_
  refine v_if_eq (tgt := 17) (pc := 3) hX dJ0_isLatin1_aae02_3 (by decide) (fun c1 => ?_) (fun c1 => ?_)
  · exact absurd c1 (by decide)
  ·
    refine v_aload_n (pc := 6) hX dJ0_isLatin1_aae02_6 rfl ?_
    refine v_getO (v := .int 0) (pc := 7) hX dJ0_isLatin1_aae02_7 hS.c wd_753 ?_
    refine v_if_ne (tgt := 17) (pc := 10) hX dJ0_isLatin1_aae02_10 (by decide) (fun c2 => ?_) (fun c2 => ?_)
    · exact absurd (by decide) c2
    ·
      refine v_iconst (v := 1) (pc := 13) hX dJ0_isLatin1_aae02_13 (by decide) ?_
      refine v_goto (tgt := 18) (pc := 14) hX dJ0_isLatin1_aae02_14 (by decide) ?_
      exact v_zret (pc := 18) hX hZ dJ0_isLatin1_aae02_18 rfl (by decide) (by decide) ⟨(by rw [J0_isLatin1_aae02_r]), rfl⟩
def J0_length_8abf5_r (g : mG) (m : mM) (t : Nat) (vt : Nat) (L : Nat) (byt : Nat → Int32) : Int32 := (nI L) >>> ((J0_coder_7d493_r g m t vt L byt) &&& 31)

set_option maxHeartbeats 4000000 in
set_option maxRecDepth 100000 in
theorem c_J0_length_8abf5 {l : Launch} {g : mG} (hO : mO l g) (m : mM) (t : Nat) (vt : Nat) (L : Nat) (byt : Nat → Int32) (hS : oS g t vt L byt) : mT l g yJ0_length_8abf5 (.code yJ0_length_8abf5 cJ0_length_8abf5 1 (Option.some FieldType.int)) 2 40 0 0 [.ref t] m (fun r m' => r = some (.int (J0_length_8abf5_r g m t vt L byt)) ∧ m' = m) nX := by
  refine mT_of hO (by decide) (Nat.le_of_ble_eq_true rfl) (fun x hX hZ => ?_)
  show mV g x m 0 0 0 [(0, .ref t)] []
  refine v_aload_n (pc := 0) hX dJ0_length_8abf5_0 rfl ?_
  refine v_getO (v := .ref vt) (pc := 1) hX dJ0_length_8abf5_1 hS.v wd_752 ?_
  refine v_tlO (pc := 4) hX dJ0_length_8abf5_4 hS.b ?_
  refine v_aload_n (pc := 5) hX dJ0_length_8abf5_5 rfl ?_
  refine v_callVO (z := yJ0_coder_7d493) (pc := 6) hX dJ0_length_8abf5_6 (c_J0_coder_7d493 hO m t vt L byt hS) hS.o wd_562 wd_563 wd_564 wd_14 wd_565 ⟨by decide, by decide, (by decide +kernel : (parseMethodDescriptor yJ0_coder_7d493.desc).map (fun d => d.parameters.length) = some 0)⟩ rfl (Nat.le_of_ble_eq_true rfl) ⟨⟨by decide, by decide⟩, by decide, by decide⟩ (fun E m9 h9 => h9.elim) (fun r9 m9 h9 => ?_)
  obtain ⟨rfl, h8⟩ := h9
  replace h8 := h8.symm
  subst h8
  show mV g x _ _ _ _ _ [.int (J0_coder_7d493_r g m t vt L byt), .int (nI L)]
  refine v_ishr (pc := 9) hX dJ0_length_8abf5_9 ?_
  exact v_iret (pc := 10) hX hZ dJ0_length_8abf5_10 (by decide) (by decide) ⟨(by rw [J0_length_8abf5_r]), rfl⟩
def J3_checkIndex_8e157_r (g : mG) (m : mM) (a : Int32) (b : Int32) (o : Option Nat)  : Int32 := a

set_option maxHeartbeats 4000000 in
set_option maxRecDepth 100000 in
theorem c_J3_checkIndex_8e157 {l : Launch} {g : mG} (hO : mO l g) (m : mM) (a : Int32) (b : Int32) (o : Option Nat)  (h0 : ¬ a < 0) (h1 : a < b) : mT l g yJ3_checkIndex_8e157 (.code yJ3_checkIndex_8e157 cJ3_checkIndex_8e157 3 (Option.some FieldType.int)) 1 20 0 0 [.int a, .int b, va_rf o] m (fun r m' => r = some (.int (J3_checkIndex_8e157_r g m a b o )) ∧ m' = m) nX := by
  refine mT_of hO (by decide) (by cases o <;> exact Nat.le_of_ble_eq_true rfl) (fun x hX hZ => ?_)
  show mV g x m 0 0 0 [(0, .int a), (1, .int b), (2, va_rf o)] []
  refine v_iload_n (pc := 0) hX dJ3_checkIndex_8e157_0 rfl ?_
  refine v_if_lt (tgt := 9) (pc := 1) hX dJ3_checkIndex_8e157_1 (by decide) (fun c1 => ?_) (fun c1 => ?_)
  · exact absurd c1 (h0)
  ·
    refine v_iload_n (pc := 4) hX dJ3_checkIndex_8e157_4 rfl ?_
    refine v_iload_n (pc := 5) hX dJ3_checkIndex_8e157_5 rfl ?_
    refine v_icmp_lt (tgt := 16) (pc := 6) hX dJ3_checkIndex_8e157_6 (by decide) (fun c2 => ?_) (fun c2 => ?_)
    ·
      refine v_iload_n (pc := 16) hX dJ3_checkIndex_8e157_16 rfl ?_
      exact v_iret (pc := 17) hX hZ dJ3_checkIndex_8e157_17 (by decide) (by decide) ⟨(by rw [J3_checkIndex_8e157_r]), rfl⟩
    · exact absurd (h1) c2
