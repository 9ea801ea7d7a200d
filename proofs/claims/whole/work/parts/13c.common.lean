theorem len_eq {g : mG} {m : mM} {t vt L : Nat} {byt : Nat → Int32} : J0_length_8abf5_r g m t vt L byt = nI L := by
  show nI L >>> ((0 : Int32) &&& 31) = nI L
  simp
theorem add_nI {x : Int32} {j B : Nat} (h : okI x B) : x + nI j = nI (x.toNatClampNeg + j) := by
  have h1 := h.1
  generalize x.toNatClampNeg = k at *
  subst h1
  exact nI_add k j

theorem okI_add {x y : Int32} {j B : Nat} (h : okI x B) (h' : okI y B) (c : ¬ y ≤ x + nI j) (hj : B + j < 2 ^ 31) : x.toNatClampNeg + j < y.toNatClampNeg := by
  rw [add_nI h, h'.1] at c
  rcases Nat.lt_or_ge (x.toNatClampNeg + j) y.toNatClampNeg with h3 | h3
  · exact h3
  · exact absurd (nI_le h3 (by have := h.2; omega)) c
def X8_commonLength_l1 (g : mG) (m : mM) (p : Nat) (t : Nat) (vt : Nat) (L : Nat) (byt : Nat → Int32) : Nat → Nat → Int32
  | 0, j => nI j
  | n + 1, j => if (gI m 323 p) ≤ ((gI m 325 p) + (nI j)) then (nI j) else (if (gA m (p + 1) ((gI m 325 p).toNatClampNeg + j)) = (J0_charAt_5068e_r g m t (nI j) vt L byt j) then (X8_commonLength_l1 g m p t vt L byt n (j + 1)  ) else (nI j))
set_option maxHeartbeats 4000000 in
set_option maxRecDepth 100000 in
theorem lp_X8_commonLength_l1 {l : Launch} {g : mG} {x : mCx} (hO : mO l g) {m : mM} (p : Nat) (t : Nat) (vt : Nat) (L : Nat) (byt : Nat → Int32) (hs : SP m p) (hL : okI (gI m 323 p) 60) (hP : okI (gI m 325 p) 60) (hS : oS g t vt L byt) (hL8 : L ≤ 8) {pst : Option Value → mM → Prop} {XX : String → mM → Prop} (hX : mX l g x cX8_commonLength yX8_commonLength { frames := 5, cells := 0, slots := 0, locals := 105 } 3) (hZ : mZ g x (Option.some FieldType.int) [] pst XX 0 0) : ∀ (n j : Nat)   (hj : j + n = L) (hp : pst (some (.int (X8_commonLength_l1 g m p t vt L byt n j  ))) m), mV g x m 0 0 2 [(0, .ref p), (1, .ref t), (2, .int (nI j))] [] := by
  intro n
  induction n with
  | zero =>
    intro j    hj hp
    refine v_iload_n (pc := 2) hX dX8_commonLength_2 rfl ?_
    refine v_aload_n (pc := 3) hX dX8_commonLength_3 rfl ?_
    refine v_callVO (z := yJ0_length_8abf5) (pc := 4) hX dX8_commonLength_4 (c_J0_length_8abf5 hO m t vt L byt hS) hS.o wd_1360 wd_559 wd_560 wd_14 wd_561 ⟨by decide, by decide, (by decide +kernel : (parseMethodDescriptor yJ0_length_8abf5.desc).map (fun d => d.parameters.length) = some 0)⟩ rfl (Nat.le_of_ble_eq_true rfl) ⟨⟨by decide, by decide⟩, by decide, by decide⟩ (fun E m9 h9 => h9.elim) (fun r9 m9 h9 => ?_)
    obtain ⟨rfl, h8⟩ := h9
    replace h8 := h8.symm
    subst h8
    show mV g x _ _ _ _ _ [.int (J0_length_8abf5_r g m t vt L byt), .int (nI j)]
    refine v_icmp_ge (tgt := 48) (pc := 7) hX dX8_commonLength_7 (by decide) (fun c1 => ?_) (fun c1 => ?_)
    ·
      refine v_iload_n (pc := 48) hX dX8_commonLength_48 rfl ?_
      exact v_iret (pc := 49) hX hZ dX8_commonLength_49 (by decide) (by decide) (by rw [X8_commonLength_l1] at hp; exact hp)
    · exact absurd (by rw [len_eq]; exact nI_le (by omega) (by omega)) c1
  | succ n ih =>
    intro j    hj hp
    refine v_iload_n (pc := 2) hX dX8_commonLength_2 rfl ?_
    refine v_aload_n (pc := 3) hX dX8_commonLength_3 rfl ?_
    refine v_callVO (z := yJ0_length_8abf5) (pc := 4) hX dX8_commonLength_4 (c_J0_length_8abf5 hO m t vt L byt hS) hS.o wd_1360 wd_559 wd_560 wd_14 wd_561 ⟨by decide, by decide, (by decide +kernel : (parseMethodDescriptor yJ0_length_8abf5.desc).map (fun d => d.parameters.length) = some 0)⟩ rfl (Nat.le_of_ble_eq_true rfl) ⟨⟨by decide, by decide⟩, by decide, by decide⟩ (fun E m9 h9 => h9.elim) (fun r9 m9 h9 => ?_)
    obtain ⟨rfl, h8⟩ := h9
    replace h8 := h8.symm
    subst h8
    show mV g x _ _ _ _ _ [.int (J0_length_8abf5_r g m t vt L byt), .int (nI j)]
    refine v_icmp_ge (tgt := 48) (pc := 7) hX dX8_commonLength_7 (by decide) (fun c1 => ?_) (fun c1 => ?_)
    · exact absurd c1 (by rw [len_eq]; exact nI_ge (by omega) (by omega))
    ·
      refine v_aload_n (pc := 10) hX dX8_commonLength_10 rfl ?_
      refine v_get (v := .int (gI m 325 p)) (pc := 11) hX dX8_commonLength_11 hs.k (ci := 10) (r := vwC10) rfl 5 (by decide) wd_257 rfl ?_
      refine v_iload_n (pc := 14) hX dX8_commonLength_14 rfl ?_
      refine v_iadd (pc := 15) hX dX8_commonLength_15 ?_
      refine v_aload_n (pc := 16) hX dX8_commonLength_16 rfl ?_
      refine v_get (v := .int (gI m 323 p)) (pc := 17) hX dX8_commonLength_17 hs.k (ci := 10) (r := vwC10) rfl 3 (by decide) wd_254 rfl ?_
      refine v_icmp_ge (tgt := 48) (pc := 20) hX dX8_commonLength_20 (by decide) (fun c2 => ?_) (fun c2 => ?_)
      ·
        refine v_iload_n (pc := 48) hX dX8_commonLength_48 rfl ?_
        exact v_iret (pc := 49) hX hZ dX8_commonLength_49 (by decide) (by decide) (by rw [X8_commonLength_l1, if_pos c2] at hp; exact hp)
      ·
        refine v_aload_n (pc := 23) hX dX8_commonLength_23 rfl ?_
        refine v_get (v := .ref (p + 1)) (pc := 24) hX dX8_commonLength_24 hs.k (ci := 10) (r := vwC10) rfl 0 (by decide) wd_251 (fvR hs.r0) ?_
        refine v_aload_n (pc := 27) hX dX8_commonLength_27 rfl ?_
        refine v_get (v := .int (gI m 325 p)) (pc := 28) hX dX8_commonLength_28 hs.k (ci := 10) (r := vwC10) rfl 5 (by decide) wd_257 rfl ?_
        refine v_iload_n (pc := 31) hX dX8_commonLength_31 rfl ?_
        refine v_iadd (pc := 32) hX dX8_commonLength_32 ?_
        refine v_cald (v := gA m (p + 1) ((gI m 325 p).toNatClampNeg + j)) (pc := 33) hX dX8_commonLength_33 hs.k1 (add_nI hP) (by have h2_ := hL.2; have h3_ := okI_add hP hL (by assumption) (j := j) (by omega); omega) (by decide) rfl ?_
        refine v_aload_n (pc := 34) hX dX8_commonLength_34 rfl ?_
        refine v_iload_n (pc := 35) hX dX8_commonLength_35 rfl ?_
        refine v_callVO (z := yJ0_charAt_5068e) (pc := 36) hX dX8_commonLength_36 (c_J0_charAt_5068e hO m t (nI j) vt L byt j hS rfl (by omega)) hS.o wd_1361 wd_1362 wd_1363 wd_14 wd_1364 ⟨by decide, by decide, (by decide +kernel : (parseMethodDescriptor yJ0_charAt_5068e.desc).map (fun d => d.parameters.length) = some 1)⟩ rfl (Nat.le_of_ble_eq_true rfl) ⟨⟨by decide, by decide⟩, by decide, by decide⟩ (fun E m9 h9 => h9.elim) (fun r9 m9 h9 => ?_)
        obtain ⟨rfl, h8⟩ := h9
        replace h8 := h8.symm
        subst h8
        show mV g x _ _ _ _ _ [.int (J0_charAt_5068e_r g m t (nI j) vt L byt j), .int (gA m (p + 1) ((gI m 325 p).toNatClampNeg + j))]
        refine v_icmp_ne (tgt := 48) (pc := 39) hX dX8_commonLength_39 (by decide) (fun c3 => ?_) (fun c3 => ?_)
        ·
          refine v_iload_n (pc := 48) hX dX8_commonLength_48 rfl ?_
          exact v_iret (pc := 49) hX hZ dX8_commonLength_49 (by decide) (by decide) (by rw [X8_commonLength_l1, if_neg c2, if_neg c3] at hp; exact hp)
        ·
          refine v_iinc (w := nI (j + 1)) (pc := 42) hX dX8_commonLength_42 rfl (nI_1 _) (by decide) rfl ?_
          refine v_goto (tgt := 2) (pc := 45) hX dX8_commonLength_45 (by decide) ?_
          refine mV_sub (lv' := [(0, .ref p), (1, .ref t), (2, .int (nI (j + 1)))]) ⟨rfl, rfl, rfl, trivial⟩ ?_
          exact ih (j + 1)    (by omega) (by rw [X8_commonLength_l1, if_neg c2, if_pos c3] at hp; exact hp)

def X8_commonLength_r (g : mG) (m : mM) (p : Nat) (t : Nat) (vt : Nat) (L : Nat) (byt : Nat → Int32) : Int32 := X8_commonLength_l1 g m p t vt L byt L 0  

set_option maxHeartbeats 4000000 in
set_option maxRecDepth 100000 in
theorem c_X8_commonLength {l : Launch} {g : mG} (hO : mO l g) (m : mM) (p : Nat) (t : Nat) (vt : Nat) (L : Nat) (byt : Nat → Int32) (hs : SP m p) (hL : okI (gI m 323 p) 60) (hP : okI (gI m 325 p) 60) (hS : oS g t vt L byt) (hL8 : L ≤ 8) : mT l g yX8_commonLength (.code yX8_commonLength cX8_commonLength 3 (Option.some FieldType.int)) 5 105 0 0 [.ref p, .ref t] m (fun r m' => r = some (.int (X8_commonLength_r g m p t vt L byt)) ∧ m' = m) nX := by
  refine mT_of hO (by decide) (Nat.le_of_ble_eq_true rfl) (fun x hX hZ => ?_)
  show mV g x m 0 0 0 [(0, .ref p), (1, .ref t)] []
  refine v_iconst (v := 0) (pc := 0) hX dX8_commonLength_0 (by decide) ?_
  refine v_istore_n (pc := 1) hX dX8_commonLength_1 (by decide) rfl ?_
  refine mV_sub (lv' := [(0, .ref p), (1, .ref t), (2, .int (nI 0))]) ⟨rfl, rfl, rfl, trivial⟩ ?_
  exact lp_X8_commonLength_l1 hO p t vt L byt hs hL hP hS hL8 hX hZ L 0    (by omega) ⟨(by rw [X8_commonLength_r]), rfl⟩
