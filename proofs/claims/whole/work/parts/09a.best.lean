theorem hb_up {s : Int32} {j : Nat} (h : s = -1 ∨ ∃ k, k < j ∧ s = nI k) : s = -1 ∨ ∃ k, k < j + 1 ∧ s = nI k := by
  rcases h with h | ⟨k, h1, h2⟩
  · exact .inl h
  · exact .inr ⟨k, by omega, h2⟩
theorem hb_ix {s : Int32} {j : Nat} (h : s = -1 ∨ ∃ k, k < j ∧ s = nI k) (h1 : ¬ s = -1) (hj : j ≤ 4) : s = nI s.toNatClampNeg ∧ s.toNatClampNeg < j := by
  rcases h with h | ⟨k, h2, rfl⟩
  · exact absurd h h1
  · rw [nI_clamp (by omega)]
    exact ⟨rfl, h2⟩
def X3_bestHammer_l1 (g : mG) (m : mM) (f : Nat) (H : Nat) : Nat → Nat → Int32 → Int32
  | 0, j, s => s
  | n + 1, j, s => if (X5_isWornOut_r g m (f + 12 + j)) = 0 then (if s = ((-1)) then (X3_bestHammer_l1 g m f H n (j + 1) (nI j) ) else (if (X5_isBetterThan_r g m (f + 12 + j) (f + 12 + s.toNatClampNeg)) = 0 then (X3_bestHammer_l1 g m f H n (j + 1) s ) else (X3_bestHammer_l1 g m f H n (j + 1) (nI j) ))) else (X3_bestHammer_l1 g m f H n (j + 1) s )
set_option maxHeartbeats 4000000 in
set_option maxRecDepth 100000 in
theorem lp_X3_bestHammer_l1 {l : Launch} {g : mG} {x : mCx} (hO : mO l g) {m : mM} (f : Nat) (H : Nat) (hs : SF m f) (hH : gI m 164 f = nI H) (hH4 : H ≤ 4) {pst : Option Value → mM → Prop} {XX : String → mM → Prop} (hX : mX l g x cX3_bestHammer yX3_bestHammer { frames := 2, cells := 0, slots := 0, locals := 41 } 3) (hZ : mZ g x (Option.some FieldType.int) [] pst XX 0 0) : ∀ (n j : Nat) (s : Int32) (hb : s = -1 ∨ ∃ k, k < j ∧ s = nI k) (hj : j + n = H) (hp : pst (some (.int (X3_bestHammer_l1 g m f H n j s ))) m), mV g x m 0 0 4 [(0, .ref f), (1, .int s), (2, .int (nI j))] [] := by
  intro n
  induction n with
  | zero =>
    intro j s  hb hj hp
    refine v_iload_n (pc := 4) hX dX3_bestHammer_4 rfl ?_
    refine v_aload_n (pc := 5) hX dX3_bestHammer_5 rfl ?_
    refine v_get (v := .int (nI H)) (pc := 6) hX dX3_bestHammer_6 hs.k (ci := 5) (r := vwC5) rfl 4 (by decide) wd_158 (congrArg Value.int hH) ?_
    refine v_icmp_ge (tgt := 58) (pc := 9) hX dX3_bestHammer_9 (by decide) (fun c1 => ?_) (fun c1 => ?_)
    ·
      refine v_iload_n (pc := 58) hX dX3_bestHammer_58 rfl ?_
      exact v_iret (pc := 59) hX hZ dX3_bestHammer_59 (by decide) (by decide) (by rw [X3_bestHammer_l1] at hp; exact hp)
    · exact absurd (nI_le (by omega) (by omega)) c1
  | succ n ih =>
    intro j s  hb hj hp
    refine v_iload_n (pc := 4) hX dX3_bestHammer_4 rfl ?_
    refine v_aload_n (pc := 5) hX dX3_bestHammer_5 rfl ?_
    refine v_get (v := .int (nI H)) (pc := 6) hX dX3_bestHammer_6 hs.k (ci := 5) (r := vwC5) rfl 4 (by decide) wd_158 (congrArg Value.int hH) ?_
    refine v_icmp_ge (tgt := 58) (pc := 9) hX dX3_bestHammer_9 (by decide) (fun c1 => ?_) (fun c1 => ?_)
    · exact absurd c1 (nI_ge (by omega) (by omega))
    ·
      refine v_aload_n (pc := 12) hX dX3_bestHammer_12 rfl ?_
      refine v_get (v := .ref (f + 3)) (pc := 13) hX dX3_bestHammer_13 hs.k (ci := 5) (r := vwC5) rfl 2 (by decide) wd_154 (fvR hs.r2) ?_
      refine v_iload_n (pc := 16) hX dX3_bestHammer_16 rfl ?_
      refine v_aaldR (q := f + 12 + j) (pc := 17) hX dX3_bestHammer_17 hs.k3 (by decide) (by decide) rfl (by omega) (by decide) (hs.qh (i := j) (by omega)) ?_
      refine v_callV (z := yX5_isWornOut) (pc := 18) hX dX3_bestHammer_18 (c_X5_isWornOut hO m (f + 12 + j) (by exact (hs.kh (i := j) (by omega)))) (hs.kh (i := j) (by omega)) rfl wd_1034 wd_1035 wd_1036 wd_7 wd_1037 ⟨by decide, by decide, (by decide +kernel : (parseMethodDescriptor yX5_isWornOut.desc).map (fun d => d.parameters.length) = some 0)⟩ rfl (Nat.le_of_ble_eq_true rfl) ⟨⟨by decide, by decide⟩, by decide, by decide⟩ (fun E m9 h9 => h9.elim) (fun r9 m9 h9 => ?_)
      obtain ⟨rfl, h8⟩ := h9
      replace h8 := h8.symm
      subst h8
      show mV g x _ _ _ _ _ [.int (X5_isWornOut_r g m (f + 12 + j))]
      refine v_if_eq (tgt := 27) (pc := 21) hX dX3_bestHammer_21 (by decide) (fun c2 => ?_) (fun c2 => ?_)
      ·
        refine v_iload_n (pc := 27) hX dX3_bestHammer_27 rfl ?_
        refine v_iconst (v := (-1)) (pc := 28) hX dX3_bestHammer_28 (by decide) ?_
        refine v_icmp_eq (tgt := 50) (pc := 29) hX dX3_bestHammer_29 (by decide) (fun c3 => ?_) (fun c3 => ?_)
        ·
          refine v_iload_n (pc := 50) hX dX3_bestHammer_50 rfl ?_
          refine v_istore_n (pc := 51) hX dX3_bestHammer_51 (by decide) rfl ?_
          refine v_iinc (w := nI (j + 1)) (pc := 52) hX dX3_bestHammer_52 rfl (nI_1 _) (by decide) rfl ?_
          refine v_goto (tgt := 4) (pc := 55) hX dX3_bestHammer_55 (by decide) ?_
          refine mV_sub (lv' := [(0, .ref f), (1, .int (nI j)), (2, .int (nI (j + 1)))]) ⟨rfl, rfl, rfl, trivial⟩ ?_
          exact ih (j + 1) (nI j)  (by first | exact hb_up (by assumption) | exact Or.inr ⟨j, by omega, rfl⟩ | exact Or.inl rfl) (by omega) (by rw [X3_bestHammer_l1, if_pos c2, if_pos c3] at hp; exact hp)
        ·
          refine v_aload_n (pc := 32) hX dX3_bestHammer_32 rfl ?_
          refine v_get (v := .ref (f + 3)) (pc := 33) hX dX3_bestHammer_33 hs.k (ci := 5) (r := vwC5) rfl 2 (by decide) wd_154 (fvR hs.r2) ?_
          refine v_iload_n (pc := 36) hX dX3_bestHammer_36 rfl ?_
          refine v_aaldR (q := f + 12 + j) (pc := 37) hX dX3_bestHammer_37 hs.k3 (by decide) (by decide) rfl (by omega) (by decide) (hs.qh (i := j) (by omega)) ?_
          refine v_aload_n (pc := 38) hX dX3_bestHammer_38 rfl ?_
          refine v_get (v := .ref (f + 3)) (pc := 39) hX dX3_bestHammer_39 hs.k (ci := 5) (r := vwC5) rfl 2 (by decide) wd_154 (fvR hs.r2) ?_
          refine v_iload_n (pc := 42) hX dX3_bestHammer_42 rfl ?_
          refine v_aaldR (q := f + 12 + s.toNatClampNeg) (pc := 43) hX dX3_bestHammer_43 hs.k3 (by decide) (by decide) (hb_ix hb (by assumption) (by omega)).1 (by have := (hb_ix hb (by assumption) (by omega)).2; omega) (by decide) (hs.qh (by have := (hb_ix hb (by assumption) (by omega)).2; omega)) ?_
          refine v_callV (z := yX5_isBetterThan) (pc := 44) hX dX3_bestHammer_44 (c_X5_isBetterThan hO m (f + 12 + j) (f + 12 + s.toNatClampNeg) (by exact (hs.kh (i := j) (by omega))) (by exact (hs.kh (i := s.toNatClampNeg) (by have := (hb_ix hb (by assumption) (by omega)).2; omega)))) (hs.kh (i := j) (by omega)) rfl wd_1294 wd_1295 wd_1296 wd_7 wd_1297 ⟨by decide, by decide, (by decide +kernel : (parseMethodDescriptor yX5_isBetterThan.desc).map (fun d => d.parameters.length) = some 1)⟩ rfl (Nat.le_of_ble_eq_true rfl) ⟨⟨by decide, by decide⟩, by decide, by decide⟩ (fun E m9 h9 => h9.elim) (fun r9 m9 h9 => ?_)
          obtain ⟨rfl, h8⟩ := h9
          replace h8 := h8.symm
          subst h8
          show mV g x _ _ _ _ _ [.int (X5_isBetterThan_r g m (f + 12 + j) (f + 12 + s.toNatClampNeg))]
          refine v_if_eq (tgt := 52) (pc := 47) hX dX3_bestHammer_47 (by decide) (fun c4 => ?_) (fun c4 => ?_)
          ·
            refine v_iinc (w := nI (j + 1)) (pc := 52) hX dX3_bestHammer_52 rfl (nI_1 _) (by decide) rfl ?_
            refine v_goto (tgt := 4) (pc := 55) hX dX3_bestHammer_55 (by decide) ?_
            refine mV_sub (lv' := [(0, .ref f), (1, .int s), (2, .int (nI (j + 1)))]) ⟨rfl, rfl, rfl, trivial⟩ ?_
            exact ih (j + 1) s  (by first | exact hb_up (by assumption) | exact Or.inr ⟨j, by omega, rfl⟩ | exact Or.inl rfl) (by omega) (by rw [X3_bestHammer_l1, if_pos c2, if_neg c3, if_pos c4] at hp; exact hp)
          ·
            refine v_iload_n (pc := 50) hX dX3_bestHammer_50 rfl ?_
            refine v_istore_n (pc := 51) hX dX3_bestHammer_51 (by decide) rfl ?_
            refine v_iinc (w := nI (j + 1)) (pc := 52) hX dX3_bestHammer_52 rfl (nI_1 _) (by decide) rfl ?_
            refine v_goto (tgt := 4) (pc := 55) hX dX3_bestHammer_55 (by decide) ?_
            refine mV_sub (lv' := [(0, .ref f), (1, .int (nI j)), (2, .int (nI (j + 1)))]) ⟨rfl, rfl, rfl, trivial⟩ ?_
            exact ih (j + 1) (nI j)  (by first | exact hb_up (by assumption) | exact Or.inr ⟨j, by omega, rfl⟩ | exact Or.inl rfl) (by omega) (by rw [X3_bestHammer_l1, if_pos c2, if_neg c3, if_neg c4] at hp; exact hp)
      ·
        refine v_goto (tgt := 52) (pc := 24) hX dX3_bestHammer_24 (by decide) ?_
        refine v_iinc (w := nI (j + 1)) (pc := 52) hX dX3_bestHammer_52 rfl (nI_1 _) (by decide) rfl ?_
        refine v_goto (tgt := 4) (pc := 55) hX dX3_bestHammer_55 (by decide) ?_
        refine mV_sub (lv' := [(0, .ref f), (1, .int s), (2, .int (nI (j + 1)))]) ⟨rfl, rfl, rfl, trivial⟩ ?_
        exact ih (j + 1) s  (by first | exact hb_up (by assumption) | exact Or.inr ⟨j, by omega, rfl⟩ | exact Or.inl rfl) (by omega) (by rw [X3_bestHammer_l1, if_neg c2] at hp; exact hp)

def X3_bestHammer_r (g : mG) (m : mM) (f : Nat) (H : Nat) : Int32 := X3_bestHammer_l1 g m f H H 0 ((-1)) 

set_option maxHeartbeats 4000000 in
set_option maxRecDepth 100000 in
theorem c_X3_bestHammer {l : Launch} {g : mG} (hO : mO l g) (m : mM) (f : Nat) (H : Nat) (hs : SF m f) (hH : gI m 164 f = nI H) (hH4 : H ≤ 4) : mT l g yX3_bestHammer (.code yX3_bestHammer cX3_bestHammer 3 (Option.some FieldType.int)) 2 41 0 0 [.ref f] m (fun r m' => r = some (.int (X3_bestHammer_r g m f H)) ∧ m' = m) nX := by
  refine mT_of hO (by decide) (Nat.le_of_ble_eq_true rfl) (fun x hX hZ => ?_)
  show mV g x m 0 0 0 [(0, .ref f)] []
  refine v_iconst (v := (-1)) (pc := 0) hX dX3_bestHammer_0 (by decide) ?_
  refine v_istore_n (pc := 1) hX dX3_bestHammer_1 (by decide) rfl ?_
  refine v_iconst (v := 0) (pc := 2) hX dX3_bestHammer_2 (by decide) ?_
  refine v_istore_n (pc := 3) hX dX3_bestHammer_3 (by decide) rfl ?_
  refine mV_sub (lv' := [(0, .ref f), (1, .int ((-1))), (2, .int (nI 0))]) ⟨rfl, rfl, rfl, trivial⟩ ?_
  exact lp_X3_bestHammer_l1 hO f H hs hH hH4 hX hZ H 0 ((-1))  (by first | exact hb_up (by assumption) | exact Or.inr ⟨j, by omega, rfl⟩ | exact Or.inl rfl) (by omega) ⟨(by rw [X3_bestHammer_r]), rfl⟩
