theorem cl_l {g : mG} {m : mM} {p t vt L : Nat} {byt : Nat → Int32} (hP : okI (gI m 325 p) 60) (hL : okI (gI m 323 p) 60) (hL8 : L ≤ 8) : ∀ (n j : Nat), j + n = L → (gI m 325 p).toNatClampNeg + j ≤ 60 → ∃ c, X8_commonLength_l1 g m p t vt L byt n j = nI c ∧ j ≤ c ∧ c ≤ L ∧ (gI m 325 p).toNatClampNeg + c ≤ 60 := by
  intro n
  induction n with
  | zero =>
    intro j hj h
    rw [X8_commonLength_l1]
    exact ⟨j, rfl, Nat.le_refl _, by omega, h⟩
  | succ n ih =>
    intro j hj h
    rw [X8_commonLength_l1]
    split
    · exact ⟨j, rfl, Nat.le_refl _, by omega, h⟩
    · rename_i c1
      split
      · obtain ⟨c, h1, h2, h3, h4⟩ := ih (j + 1) (by omega) (by have h5 := okI_add hP hL c1 (by omega); have h6 := hL.2; omega)
        exact ⟨c, h1, by omega, h3, h4⟩
      · exact ⟨j, rfl, Nat.le_refl _, by omega, h⟩
theorem cl_P {g : mG} {m : mM} {p t vt L : Nat} {byt : Nat → Int32} (hP : okI (gI m 325 p) 60) (hL : okI (gI m 323 p) 60) (hL8 : L ≤ 8) : ∃ c, X8_commonLength_r g m p t vt L byt = nI c ∧ c ≤ L ∧ (gI m 325 p).toNatClampNeg + c ≤ 60 := by
  obtain ⟨c, h1, -, h3, h4⟩ := cl_l (g := g) (t := t) (vt := vt) (byt := byt) hP hL hL8 L 0 (by omega) (by have := hP.2; omega)
  exact ⟨c, h1, h3, h4⟩
theorem okI_plus {x : Int32} {c B : Nat} (h : okI x B) (hc : x.toNatClampNeg + c ≤ B) (hB : B < 2 ^ 31) : okI (x + nI c) B := by
  rw [add_nI h]
  exact okI_nI hc hB
theorem rw_Pl {g : mG} {p : Nat} : ∀ (n j : Nat) (s : Int32) (m : mM), j + n = 12 → okI (gI m 325 p) 60 → okI (gI m 323 p) 60 → (∃ c, s = nI c ∧ (gI m 325 p).toNatClampNeg + c ≤ 60) → okI (gI (X8_readWord_l1 g p n j s m).2 325 p) 60 := by
  intro n
  induction n with
  | zero =>
    rintro j s m hj hP hL ⟨c, rfl, hc⟩
    rw [X8_readWord_l1]
    simp [mm]
    exact okI_plus hP hc (by decide)
  | succ n ih =>
    rintro j s m hj hP hL ⟨c, rfl, hc⟩
    obtain ⟨d, h1, -, h3⟩ := cl_P (g := g) (t := srA g "BirdForge$Command" (wdK j)) (vt := svA g "BirdForge$Command" (wdK j)) (byt := wdB j) hP hL (wdL_8 j (by omega)).1
    rw [X8_readWord_l1, h1]
    split
    · simp [mm]
      exact okI_plus hP h3 (by decide)
    · refine ih (j + 1) _ m (by omega) hP hL ?_
      unfold imax
      split
      · exact ⟨d, rfl, h3⟩
      · exact ⟨c, rfl, hc⟩
theorem rw_P {g : mG} {m : mM} {p : Nat} (hP : okI (gI m 325 p) 60) (hL : okI (gI m 323 p) 60) : okI (gI (X8_readWord_m g m p) 325 p) 60 := rw_Pl 12 0 0 m (by omega) hP hL ⟨0, rfl, by have := hP.2; omega⟩
theorem rw_obj {l : Launch} {g : mG} {m : mM} {p q : Nat} (hO : mO l g) (h : X8_readWord_r g m p = some q) : oO g "BirdForge$Command" q ∧ oF g "BirdForge$Command" "shape" "Ljava/lang/String;" (.ref (srA g "BirdForge$Command" (shK (cmI g q)))) q ∧ cmI g q < 12 := by
  obtain ⟨h1, h2⟩ := rw_some h
  have a := cm_O hO _ h2
  have b := cm_shape hO _ h2
  rw [h1] at a b
  exact ⟨a, b, h2⟩
theorem rk_P {g : mG} {m : mM} {p : Nat} {a : Int32} (hP : okI (gI m 325 p) 60) (hL : okI (gI m 323 p) 60) : okI (gI (X8_readKind_m g m p a) 325 p) 60 := by
  have h1 := acc_P (g := g) (a := 98) hP hL
  have l1 : okI (gI (X8_accept_m g m p 98) 323 p) 60 := by simp [kI_X8_accept]; exact hL
  have h2 := acc_P (g := g) (a := 110) h1 l1
  have l2 : okI (gI (X8_accept_m g (X8_accept_m g m p 98) p 110) 323 p) 60 := by simp [kI_X8_accept]; exact hL
  have h3 := acc_P (g := g) (a := 119) h2 l2
  unfold X8_readKind_m
  repeat' split
  all_goals (try simp only [mm])
  all_goals first | with_reducible exact h1 | with_reducible exact h2 | with_reducible exact h3
theorem ra_P {g : mG} {m : mM} {p : Nat} {c a : Int32} (hP : okI (gI m 325 p) 60) (hL : okI (gI m 323 p) 60) : okI (gI (X8_readArgument_m g m p c a) 325 p) 60 := by
  unfold X8_readArgument_m
  split
  · exact rk_P hP hL
  · split
    · exact hP
    · rename_i c2
      have h1 := okI_up hP hL (by decide) (dh_P c2)
      split
      · split
        · simp [mm]
          exact h1
        · rename_i c4
          have h2 := dh_P c4
          simp [mm] at h2 ⊢
          exact okI_up h1 hL (by decide) (Int32.not_le.mpr h2)
      · simp [mm]
        exact h1
theorem len_lt {g : mG} {m : mM} {t vt L : Nat} {byt : Nat → Int32} {j : Nat} (h : ¬ J0_length_8abf5_r g m t vt L byt ≤ nI j) (hj : j < 2 ^ 31) : j < L := by
  rw [len_eq] at h
  rcases Nat.lt_or_ge j L with q | q
  · exact q
  · exact absurd (nI_le q hj) h
def X8_readCommand_l1 (g : mG) (p : Nat)  : Nat → Nat → Nat → mM → Int32 × mM
  | 0, j, kc, m => (1, m)
  | n + 1, j, kc, m => if (J0_length_8abf5_r g m (srA g "BirdForge$Command" (shK kc)) ((svA g "BirdForge$Command" (shK kc))) ((shL kc)) ((shB kc))) ≤ (nI j) then ((1, m)) else (if (nI j) ≤ 0 then (if (X8_readArgument_r g m p (J0_charAt_5068e_r g m (srA g "BirdForge$Command" (shK kc)) (nI j) ((svA g "BirdForge$Command" (shK kc))) ((shL kc)) ((shB kc)) j) (nI j) ) = 0 then ((0, (X8_readArgument_m g m p (J0_charAt_5068e_r g m (srA g "BirdForge$Command" (shK kc)) (nI j) ((svA g "BirdForge$Command" (shK kc))) ((shL kc)) ((shB kc)) j) (nI j) ))) else (X8_readCommand_l1 g p  n (j + 1) kc ((X8_readArgument_m g m p (J0_charAt_5068e_r g m (srA g "BirdForge$Command" (shK kc)) (nI j) ((svA g "BirdForge$Command" (shK kc))) ((shL kc)) ((shB kc)) j) (nI j) )))) else (if (X8_accept_r g m p 32 ) = 0 then ((0, (X8_accept_m g m p 32 ))) else (if (X8_readArgument_r g ((X8_accept_m g m p 32 )) p (J0_charAt_5068e_r g ((X8_accept_m g m p 32 )) (srA g "BirdForge$Command" (shK kc)) (nI j) ((svA g "BirdForge$Command" (shK kc))) ((shL kc)) ((shB kc)) j) (nI j) ) = 0 then ((0, (X8_readArgument_m g ((X8_accept_m g m p 32 )) p (J0_charAt_5068e_r g ((X8_accept_m g m p 32 )) (srA g "BirdForge$Command" (shK kc)) (nI j) ((svA g "BirdForge$Command" (shK kc))) ((shL kc)) ((shB kc)) j) (nI j) ))) else (X8_readCommand_l1 g p  n (j + 1) kc ((X8_readArgument_m g ((X8_accept_m g m p 32 )) p (J0_charAt_5068e_r g ((X8_accept_m g m p 32 )) (srA g "BirdForge$Command" (shK kc)) (nI j) ((svA g "BirdForge$Command" (shK kc))) ((shL kc)) ((shB kc)) j) (nI j) ))))))
set_option maxHeartbeats 4000000 in
set_option maxRecDepth 100000 in
theorem lp_X8_readCommand_l1 {l : Launch} {g : mG} {x : mCx} (hO : mO l g) (p : Nat)   {pst : Option Value → mM → Prop} {XX : String → mM → Prop} (hX : mX l g x cX8_readCommand yX8_readCommand { frames := 7, cells := 0, slots := 0, locals := 151 } 4) (hZ : mZ g x (Option.some FieldType.boolean) [] pst XX 0 0) : ∀ (n j : Nat) (kc : Nat) (m : mM) (hs : SP m p) (hL : okI (gI m 323 p) 60) (hP : okI (gI m 325 p) 60) (hC : okI (gI m 324 p) 11) (hk : kc < 12) (hj : j + n = 4) (hp : pst (some (.int ((X8_readCommand_l1 g p  n j kc m).1))) ((X8_readCommand_l1 g p  n j kc m).2)), mV g x m 0 0 28 [(0, .ref p), (2, .ref (srA g "BirdForge$Command" (shK kc))), (3, .int (nI j))] [] := by
  intro n
  induction n with
  | zero =>
    intro j kc m hs hL hP hC hk hj hp
    refine v_iload_n (pc := 28) hX dX8_readCommand_28 rfl ?_
    refine v_iconst (v := 4) (pc := 29) hX dX8_readCommand_29 (by decide) ?_
    refine v_icmp_ge (tgt := 77) (pc := 30) hX dX8_readCommand_30 (by decide) (fun c1 => ?_) (fun c1 => ?_)
    ·
      refine v_iconst (v := 1) (pc := 77) hX dX8_readCommand_77 (by decide) ?_
      exact v_zret (pc := 78) hX hZ dX8_readCommand_78 rfl (by decide) (by decide) (by rw [X8_readCommand_l1] at hp; exact hp)
    · exact absurd (show nI 4 ≤ nI j from nI_le (by omega) (by omega)) c1
  | succ n ih =>
    intro j kc m hs hL hP hC hk hj hp
    refine v_iload_n (pc := 28) hX dX8_readCommand_28 rfl ?_
    refine v_iconst (v := 4) (pc := 29) hX dX8_readCommand_29 (by decide) ?_
    refine v_icmp_ge (tgt := 77) (pc := 30) hX dX8_readCommand_30 (by decide) (fun c1 => ?_) (fun c1 => ?_)
    · exact absurd c1 (show ¬ nI 4 ≤ nI j from nI_ge (by omega) (by omega))
    ·
      refine v_iload_n (pc := 33) hX dX8_readCommand_33 rfl ?_
      refine v_aload_n (pc := 34) hX dX8_readCommand_34 rfl ?_
      refine v_callVO (z := yJ0_length_8abf5) (pc := 35) hX dX8_readCommand_35 (c_J0_length_8abf5 hO m (srA g "BirdForge$Command" (shK kc)) ((svA g "BirdForge$Command" (shK kc))) ((shL kc)) ((shB kc)) (cm_sS hO kc hk)) (cm_sS hO kc hk).o wd_1360 wd_559 wd_560 wd_14 wd_561 ⟨by decide, by decide, (by decide +kernel : (parseMethodDescriptor yJ0_length_8abf5.desc).map (fun d => d.parameters.length) = some 0)⟩ rfl (Nat.le_of_ble_eq_true rfl) ⟨⟨by decide, by decide⟩, by decide, by decide⟩ (fun E m9 h9 => h9.elim) (fun r9 m9 h9 => ?_)
      obtain ⟨rfl, h8⟩ := h9
      replace h8 := h8.symm
      subst h8
      show mV g x _ _ _ _ _ [.int (J0_length_8abf5_r g m (srA g "BirdForge$Command" (shK kc)) ((svA g "BirdForge$Command" (shK kc))) ((shL kc)) ((shB kc))), .int (nI j)]
      refine v_icmp_ge (tgt := 77) (pc := 38) hX dX8_readCommand_38 (by decide) (fun c2 => ?_) (fun c2 => ?_)
      ·
        refine v_iconst (v := 1) (pc := 77) hX dX8_readCommand_77 (by decide) ?_
        exact v_zret (pc := 78) hX hZ dX8_readCommand_78 rfl (by decide) (by decide) (by rw [X8_readCommand_l1, if_pos c2] at hp; exact hp)
      ·
        refine v_iload_n (pc := 41) hX dX8_readCommand_41 rfl ?_
        refine v_if_le (tgt := 56) (pc := 42) hX dX8_readCommand_42 (by decide) (fun c3 => ?_) (fun c3 => ?_)
        ·
          refine v_aload_n (pc := 56) hX dX8_readCommand_56 rfl ?_
          refine v_aload_n (pc := 57) hX dX8_readCommand_57 rfl ?_
          refine v_iload_n (pc := 58) hX dX8_readCommand_58 rfl ?_
          refine v_callVO (z := yJ0_charAt_5068e) (pc := 59) hX dX8_readCommand_59 (c_J0_charAt_5068e hO m (srA g "BirdForge$Command" (shK kc)) (nI j) ((svA g "BirdForge$Command" (shK kc))) ((shL kc)) ((shB kc)) j (cm_sS hO kc hk) rfl (len_lt (by assumption) (by omega))) (cm_sS hO kc hk).o wd_1361 wd_1362 wd_1363 wd_14 wd_1364 ⟨by decide, by decide, (by decide +kernel : (parseMethodDescriptor yJ0_charAt_5068e.desc).map (fun d => d.parameters.length) = some 1)⟩ rfl (Nat.le_of_ble_eq_true rfl) ⟨⟨by decide, by decide⟩, by decide, by decide⟩ (fun E m9 h9 => h9.elim) (fun r9 m9 h9 => ?_)
          obtain ⟨rfl, h8⟩ := h9
          replace h8 := h8.symm
          subst h8
          show mV g x _ _ _ _ _ [.int (J0_charAt_5068e_r g m (srA g "BirdForge$Command" (shK kc)) (nI j) ((svA g "BirdForge$Command" (shK kc))) ((shL kc)) ((shB kc)) j), .ref p]
          refine v_iload_n (pc := 62) hX dX8_readCommand_62 rfl ?_
          refine v_callV (z := yX8_readArgument) (pc := 63) hX dX8_readCommand_63 (c_X8_readArgument hO m p (J0_charAt_5068e_r g m (srA g "BirdForge$Command" (shK kc)) (nI j) ((svA g "BirdForge$Command" (shK kc))) ((shL kc)) ((shB kc)) j) (nI j)  hs hL hP hC (okI_nI (by omega) (by decide))) hs.k rfl wd_1381 wd_1383 wp_13 wd_10 wd_1384 ⟨by decide, by decide, (by decide +kernel : (parseMethodDescriptor yX8_readArgument.desc).map (fun d => d.parameters.length) = some 2)⟩ rfl (Nat.le_of_ble_eq_true rfl) ⟨⟨by decide, by decide⟩, by decide, by decide⟩ (fun E m9 h9 => h9.elim) (fun r9 m9 h9 => ?_)
          obtain ⟨rfl, h8⟩ := h9
          replace h8 := h8.symm
          subst h8
          show mV g x _ _ _ _ _ [.int (X8_readArgument_r g m p (J0_charAt_5068e_r g m (srA g "BirdForge$Command" (shK kc)) (nI j) ((svA g "BirdForge$Command" (shK kc))) ((shL kc)) ((shB kc)) j) (nI j) )]
          refine v_if_ne (tgt := 71) (pc := 66) hX dX8_readCommand_66 (by decide) (fun c4 => ?_) (fun c4 => ?_)
          ·
            refine v_iinc (w := nI (j + 1)) (pc := 71) hX dX8_readCommand_71 rfl (nI_1 _) (by decide) rfl ?_
            refine v_goto (tgt := 28) (pc := 74) hX dX8_readCommand_74 (by decide) ?_
            refine mV_sub (lv' := [(0, .ref p), (2, .ref (srA g "BirdForge$Command" (shK kc))), (3, .int (nI (j + 1)))]) ⟨rfl, rfl, rfl, trivial⟩ ?_
            exact ih (j + 1) kc ((X8_readArgument_m g m p (J0_charAt_5068e_r g m (srA g "BirdForge$Command" (shK kc)) (nI j) ((svA g "BirdForge$Command" (shK kc))) ((shL kc)) ((shB kc)) j) (nI j) )) (hs.to (by simp only [mm, kK_X8_readArgument]) (fun k hk a => by simp [mm, kR_X8_readArgument, hk]) (fun i => by simp only [mm, kQ_X8_readArgument])) (by simp [mm, kI_X8_readArgument]; exact hL) (ra_P hP hL) (by simp [mm, kI_X8_readArgument]; exact hC) hk (by omega) (by rw [X8_readCommand_l1, if_neg c2, if_pos c3, if_neg c4] at hp; exact hp)
          ·
            refine v_iconst (v := 0) (pc := 69) hX dX8_readCommand_69 (by decide) ?_
            exact v_zret (pc := 70) hX hZ dX8_readCommand_70 rfl (by decide) (by decide) (by rw [X8_readCommand_l1, if_neg c2, if_pos c3, if_pos c4] at hp; exact hp)
        ·
          refine v_aload_n (pc := 45) hX dX8_readCommand_45 rfl ?_
          refine v_bipush (v := 32) (pc := 46) hX dX8_readCommand_46 (by decide) ?_
          refine v_callV (z := yX8_accept) (pc := 48) hX dX8_readCommand_48 (c_X8_accept hO m p 32  hs hL hP) hs.k rfl wd_1377 wd_1379 wp_12 wd_10 wd_1380 ⟨by decide, by decide, (by decide +kernel : (parseMethodDescriptor yX8_accept.desc).map (fun d => d.parameters.length) = some 1)⟩ rfl (Nat.le_of_ble_eq_true rfl) ⟨⟨by decide, by decide⟩, by decide, by decide⟩ (fun E m9 h9 => h9.elim) (fun r9 m9 h9 => ?_)
          obtain ⟨rfl, h8⟩ := h9
          replace h8 := h8.symm
          subst h8
          show mV g x _ _ _ _ _ [.int (X8_accept_r g m p 32 )]
          refine v_if_ne (tgt := 56) (pc := 51) hX dX8_readCommand_51 (by decide) (fun c5 => ?_) (fun c5 => ?_)
          ·
            refine v_aload_n (pc := 56) hX dX8_readCommand_56 rfl ?_
            refine v_aload_n (pc := 57) hX dX8_readCommand_57 rfl ?_
            refine v_iload_n (pc := 58) hX dX8_readCommand_58 rfl ?_
            refine v_callVO (z := yJ0_charAt_5068e) (pc := 59) hX dX8_readCommand_59 (c_J0_charAt_5068e hO ((X8_accept_m g m p 32 )) (srA g "BirdForge$Command" (shK kc)) (nI j) ((svA g "BirdForge$Command" (shK kc))) ((shL kc)) ((shB kc)) j (cm_sS hO kc hk) rfl (len_lt (by assumption) (by omega))) (cm_sS hO kc hk).o wd_1361 wd_1362 wd_1363 wd_14 wd_1364 ⟨by decide, by decide, (by decide +kernel : (parseMethodDescriptor yJ0_charAt_5068e.desc).map (fun d => d.parameters.length) = some 1)⟩ rfl (Nat.le_of_ble_eq_true rfl) ⟨⟨by decide, by decide⟩, by decide, by decide⟩ (fun E m9 h9 => h9.elim) (fun r9 m9 h9 => ?_)
            obtain ⟨rfl, h8⟩ := h9
            replace h8 := h8.symm
            subst h8
            show mV g x _ _ _ _ _ [.int (J0_charAt_5068e_r g ((X8_accept_m g m p 32 )) (srA g "BirdForge$Command" (shK kc)) (nI j) ((svA g "BirdForge$Command" (shK kc))) ((shL kc)) ((shB kc)) j), .ref p]
            refine v_iload_n (pc := 62) hX dX8_readCommand_62 rfl ?_
            refine v_callV (z := yX8_readArgument) (pc := 63) hX dX8_readCommand_63 (c_X8_readArgument hO ((X8_accept_m g m p 32 )) p (J0_charAt_5068e_r g ((X8_accept_m g m p 32 )) (srA g "BirdForge$Command" (shK kc)) (nI j) ((svA g "BirdForge$Command" (shK kc))) ((shL kc)) ((shB kc)) j) (nI j)  (hs.to (by simp only [mm, kK_X8_accept]) (fun k hk a => by simp [mm, kR_X8_accept, hk]) (fun i => by simp only [mm, kQ_X8_accept])) (by simp [mm, kI_X8_accept]; exact hL) (acc_P hP hL) (by simp [mm, kI_X8_accept]; exact hC) (okI_nI (by omega) (by decide))) (by simp only [mm, kK_X8_accept]; exact hs.k) rfl wd_1381 wd_1383 wp_13 wd_10 wd_1384 ⟨by decide, by decide, (by decide +kernel : (parseMethodDescriptor yX8_readArgument.desc).map (fun d => d.parameters.length) = some 2)⟩ rfl (Nat.le_of_ble_eq_true rfl) ⟨⟨by decide, by decide⟩, by decide, by decide⟩ (fun E m9 h9 => h9.elim) (fun r9 m9 h9 => ?_)
            obtain ⟨rfl, h8⟩ := h9
            replace h8 := h8.symm
            subst h8
            show mV g x _ _ _ _ _ [.int (X8_readArgument_r g ((X8_accept_m g m p 32 )) p (J0_charAt_5068e_r g ((X8_accept_m g m p 32 )) (srA g "BirdForge$Command" (shK kc)) (nI j) ((svA g "BirdForge$Command" (shK kc))) ((shL kc)) ((shB kc)) j) (nI j) )]
            refine v_if_ne (tgt := 71) (pc := 66) hX dX8_readCommand_66 (by decide) (fun c6 => ?_) (fun c6 => ?_)
            ·
              refine v_iinc (w := nI (j + 1)) (pc := 71) hX dX8_readCommand_71 rfl (nI_1 _) (by decide) rfl ?_
              refine v_goto (tgt := 28) (pc := 74) hX dX8_readCommand_74 (by decide) ?_
              refine mV_sub (lv' := [(0, .ref p), (2, .ref (srA g "BirdForge$Command" (shK kc))), (3, .int (nI (j + 1)))]) ⟨rfl, rfl, rfl, trivial⟩ ?_
              exact ih (j + 1) kc ((X8_readArgument_m g ((X8_accept_m g m p 32 )) p (J0_charAt_5068e_r g ((X8_accept_m g m p 32 )) (srA g "BirdForge$Command" (shK kc)) (nI j) ((svA g "BirdForge$Command" (shK kc))) ((shL kc)) ((shB kc)) j) (nI j) )) (hs.to (by simp only [mm, kK_X8_accept, kK_X8_readArgument]) (fun k hk a => by simp [mm, kR_X8_accept, kR_X8_readArgument, hk]) (fun i => by simp only [mm, kQ_X8_accept, kQ_X8_readArgument])) (by simp [mm, kI_X8_accept, kI_X8_readArgument]; exact hL) (ra_P (acc_P hP hL) (by simp [mm, kI_X8_accept]; exact hL)) (by simp [mm, kI_X8_accept, kI_X8_readArgument]; exact hC) hk (by omega) (by rw [X8_readCommand_l1, if_neg c2, if_neg c3, if_neg c5, if_neg c6] at hp; exact hp)
            ·
              refine v_iconst (v := 0) (pc := 69) hX dX8_readCommand_69 (by decide) ?_
              exact v_zret (pc := 70) hX hZ dX8_readCommand_70 rfl (by decide) (by decide) (by rw [X8_readCommand_l1, if_neg c2, if_neg c3, if_neg c5, if_pos c6] at hp; exact hp)
          ·
            refine v_iconst (v := 0) (pc := 54) hX dX8_readCommand_54 (by decide) ?_
            exact v_zret (pc := 55) hX hZ dX8_readCommand_55 rfl (by decide) (by decide) (by rw [X8_readCommand_l1, if_neg c2, if_neg c3, if_pos c5] at hp; exact hp)
theorem kK_X8_readCommand_l1 (g : mG) (p : Nat)  : ∀ (n j : Nat) (kc : Nat) (m : mM), gK ((X8_readCommand_l1 g p  n j kc m).2) = gK m := by
  intro n
  induction n with
  | zero =>
    intro j kc m
    rw [X8_readCommand_l1]
    repeat' split
    all_goals simp only [mm, kK_X8_accept, kK_X8_readArgument]
  | succ n ih =>
    intro j kc m
    rw [X8_readCommand_l1]
    repeat' split
    all_goals simp only [mm, ih, kK_X8_accept, kK_X8_readArgument]
theorem kN_X8_readCommand_l1 (g : mG) (p : Nat)  : ∀ (n j : Nat) (kc : Nat) (m : mM), gN ((X8_readCommand_l1 g p  n j kc m).2) = gN m := by
  intro n
  induction n with
  | zero =>
    intro j kc m
    rw [X8_readCommand_l1]
    repeat' split
    all_goals simp only [mm, kN_X8_accept, kN_X8_readArgument]
  | succ n ih =>
    intro j kc m
    rw [X8_readCommand_l1]
    repeat' split
    all_goals simp only [mm, ih, kN_X8_accept, kN_X8_readArgument]
theorem kI_X8_readCommand_l1 (g : mG) (p : Nat)  (k a9 : Nat) (h0 : k ≠ 325) : ∀ (n j : Nat) (kc : Nat) (m : mM), gI ((X8_readCommand_l1 g p  n j kc m).2) k a9 = gI m k a9 := by
  intro n
  induction n with
  | zero =>
    intro j kc m
    rw [X8_readCommand_l1]
    repeat' split
    all_goals simp [mm, kI_X8_accept, kI_X8_readArgument, h0]
  | succ n ih =>
    intro j kc m
    rw [X8_readCommand_l1]
    repeat' split
    all_goals simp [mm, ih, kI_X8_accept, kI_X8_readArgument, h0]
theorem kJ_X8_readCommand_l1 (g : mG) (p : Nat)  : ∀ (n j : Nat) (kc : Nat) (m : mM), gJ ((X8_readCommand_l1 g p  n j kc m).2) = gJ m := by
  intro n
  induction n with
  | zero =>
    intro j kc m
    rw [X8_readCommand_l1]
    repeat' split
    all_goals simp only [mm, kJ_X8_accept, kJ_X8_readArgument]
  | succ n ih =>
    intro j kc m
    rw [X8_readCommand_l1]
    repeat' split
    all_goals simp only [mm, ih, kJ_X8_accept, kJ_X8_readArgument]
theorem kR_X8_readCommand_l1 (g : mG) (p : Nat)  : ∀ (n j : Nat) (kc : Nat) (m : mM), gR ((X8_readCommand_l1 g p  n j kc m).2) = gR m := by
  intro n
  induction n with
  | zero =>
    intro j kc m
    rw [X8_readCommand_l1]
    repeat' split
    all_goals simp only [mm, kR_X8_accept, kR_X8_readArgument]
  | succ n ih =>
    intro j kc m
    rw [X8_readCommand_l1]
    repeat' split
    all_goals simp only [mm, ih, kR_X8_accept, kR_X8_readArgument]
theorem kQ_X8_readCommand_l1 (g : mG) (p : Nat)  : ∀ (n j : Nat) (kc : Nat) (m : mM), gQ ((X8_readCommand_l1 g p  n j kc m).2) = gQ m := by
  intro n
  induction n with
  | zero =>
    intro j kc m
    rw [X8_readCommand_l1]
    repeat' split
    all_goals simp only [mm, kQ_X8_accept, kQ_X8_readArgument]
  | succ n ih =>
    intro j kc m
    rw [X8_readCommand_l1]
    repeat' split
    all_goals simp only [mm, ih, kQ_X8_accept, kQ_X8_readArgument]
theorem kL_X8_readCommand_l1 (g : mG) (p : Nat)  : ∀ (n j : Nat) (kc : Nat) (m : mM), gL ((X8_readCommand_l1 g p  n j kc m).2) = gL m := by
  intro n
  induction n with
  | zero =>
    intro j kc m
    rw [X8_readCommand_l1]
    repeat' split
    all_goals simp only [mm, kL_X8_accept, kL_X8_readArgument]
  | succ n ih =>
    intro j kc m
    rw [X8_readCommand_l1]
    repeat' split
    all_goals simp only [mm, ih, kL_X8_accept, kL_X8_readArgument]
theorem kD_X8_readCommand_l1 (g : mG) (p : Nat)  : ∀ (n j : Nat) (kc : Nat) (m : mM), gD ((X8_readCommand_l1 g p  n j kc m).2) = gD m := by
  intro n
  induction n with
  | zero =>
    intro j kc m
    rw [X8_readCommand_l1]
    repeat' split
    all_goals simp only [mm, kD_X8_accept, kD_X8_readArgument]
  | succ n ih =>
    intro j kc m
    rw [X8_readCommand_l1]
    repeat' split
    all_goals simp only [mm, ih, kD_X8_accept, kD_X8_readArgument]
def X8_readCommand_r (g : mG) (m : mM) (p : Nat)  : Int32 := ((match X8_readWord_r g m p  with | none => (0, (X8_readWord_m g m p )) | some p1 => X8_readCommand_l1 g p  4 0 ((cmI g p1)) ((sQ (X8_readWord_m g m p ) (p + 2) ((gI m 324 p).toNatClampNeg) (some p1))))).1
def X8_readCommand_m (g : mG) (m : mM) (p : Nat)  : mM := ((match X8_readWord_r g m p  with | none => (0, (X8_readWord_m g m p )) | some p1 => X8_readCommand_l1 g p  4 0 ((cmI g p1)) ((sQ (X8_readWord_m g m p ) (p + 2) ((gI m 324 p).toNatClampNeg) (some p1))))).2
theorem kK_X8_readCommand (g : mG) (m : mM) (p : Nat)  : gK (X8_readCommand_m g m p ) = gK m := by
  unfold X8_readCommand_m
  repeat' split
  all_goals simp only [mm, kK_X8_readCommand_l1, kK_X8_readWord]
theorem kN_X8_readCommand (g : mG) (m : mM) (p : Nat)  : gN (X8_readCommand_m g m p ) = gN m := by
  unfold X8_readCommand_m
  repeat' split
  all_goals simp only [mm, kN_X8_readCommand_l1, kN_X8_readWord]
theorem kI_X8_readCommand (g : mG) (m : mM) (p : Nat)  (k a9 : Nat) (h0 : k ≠ 325) : gI (X8_readCommand_m g m p ) k a9 = gI m k a9 := by
  unfold X8_readCommand_m
  repeat' split
  all_goals simp [mm, kI_X8_readCommand_l1, kI_X8_readWord, h0]
theorem kJ_X8_readCommand (g : mG) (m : mM) (p : Nat)  : gJ (X8_readCommand_m g m p ) = gJ m := by
  unfold X8_readCommand_m
  repeat' split
  all_goals simp only [mm, kJ_X8_readCommand_l1, kJ_X8_readWord]
theorem kR_X8_readCommand (g : mG) (m : mM) (p : Nat)  : gR (X8_readCommand_m g m p ) = gR m := by
  unfold X8_readCommand_m
  repeat' split
  all_goals simp only [mm, kR_X8_readCommand_l1, kR_X8_readWord]
theorem kL_X8_readCommand (g : mG) (m : mM) (p : Nat)  : gL (X8_readCommand_m g m p ) = gL m := by
  unfold X8_readCommand_m
  repeat' split
  all_goals simp only [mm, kL_X8_readCommand_l1, kL_X8_readWord]
theorem kD_X8_readCommand (g : mG) (m : mM) (p : Nat)  : gD (X8_readCommand_m g m p ) = gD m := by
  unfold X8_readCommand_m
  repeat' split
  all_goals simp only [mm, kD_X8_readCommand_l1, kD_X8_readWord]
set_option maxHeartbeats 4000000 in
set_option maxRecDepth 100000 in
theorem c_X8_readCommand {l : Launch} {g : mG} (hO : mO l g) (m : mM) (p : Nat)  (hs : SP m p) (hL : okI (gI m 323 p) 60) (hP : okI (gI m 325 p) 60) (hC : okI (gI m 324 p) 11) : mT l g yX8_readCommand (.code yX8_readCommand cX8_readCommand 4 (Option.some FieldType.boolean)) 7 151 0 0 [.ref p] m (fun r m' => r = some (.int (X8_readCommand_r g m p )) ∧ m' = X8_readCommand_m g m p ) nX := by
  refine mT_of hO (by decide) (Nat.le_of_ble_eq_true rfl) (fun x hX hZ => ?_)
  show mV g x m 0 0 0 [(0, .ref p)] []
  refine v_aload_n (pc := 0) hX dX8_readCommand_0 rfl ?_
  refine v_callV (z := yX8_readWord) (pc := 1) hX dX8_readCommand_1 (c_X8_readWord hO m p  hs hL hP) hs.k rfl wd_1350 wd_1352 wp_10 wd_10 wd_1353 ⟨by decide, by decide, (by decide +kernel : (parseMethodDescriptor yX8_readWord.desc).map (fun d => d.parameters.length) = some 0)⟩ rfl (Nat.le_of_ble_eq_true rfl) ⟨⟨by decide, by decide⟩, by decide, by decide⟩ (fun E m9 h9 => h9.elim) (fun r9 m9 h9 => ?_)
  obtain ⟨rfl, h8⟩ := h9
  replace h8 := h8.symm
  subst h8
  show mV g x _ _ _ _ _ [va_rf (X8_readWord_r g m p )]
  rcases hq1 : X8_readWord_r g m p  with _ | p1
  ·
    show mV g x _ _ _ _ _ [.null]
    refine v_astore_nN (pc := 4) hX dX8_readCommand_4 (by decide) rfl ?_
    refine v_aload_nN (pc := 5) hX dX8_readCommand_5 rfl ?_
    refine v_ifnonnull_n (pc := 6) hX dX8_readCommand_6 ?_
    refine v_iconst (v := 0) (pc := 9) hX dX8_readCommand_9 (by decide) ?_
    exact v_zret (pc := 10) hX hZ dX8_readCommand_10 rfl (by decide) (by decide) ⟨(by simp only [X8_readCommand_r, hq1]), (by simp only [X8_readCommand_m, hq1])⟩
  ·
    show mV g x _ _ _ _ _ [.ref p1]
    refine v_astore_n (pc := 4) hX dX8_readCommand_4 (by decide) rfl ?_
    refine v_aload_n (pc := 5) hX dX8_readCommand_5 rfl ?_
    refine v_ifnonnull_s (tgt := 11) (pc := 6) hX dX8_readCommand_6 (by decide) ?_
    refine v_aload_n (pc := 11) hX dX8_readCommand_11 rfl ?_
    refine v_get (v := .ref (p + 2)) (pc := 12) hX dX8_readCommand_12 (by simp only [mm, kK_X8_readWord]; exact hs.k) (ci := 10) (r := vwC10) rfl 1 (by decide) wd_252 (fvR (by simp [mm, kR_X8_readWord, hs.r1])) ?_
    refine v_aload_n (pc := 15) hX dX8_readCommand_15 rfl ?_
    refine v_get (v := .int (gI (X8_readWord_m g m p ) 324 p)) (pc := 16) hX dX8_readCommand_16 (by simp only [mm, kK_X8_readWord]; exact hs.k) (ci := 10) (r := vwC10) rfl 4 (by decide) wd_255 rfl ?_
    refine v_aload_n (pc := 19) hX dX8_readCommand_19 rfl ?_
    refine v_aastO (j := (gI m 324 p).toNatClampNeg) (pc := 20) hX dX8_readCommand_20 (by simp only [mm, kK_X8_readWord]; exact hs.k2) (by decide) (by decide) rfl (rw_obj hO hq1).1 (by simp [mm, kI_X8_readWord]; exact hC.1) (by have := hC.2; omega) (by decide) ?_
    refine v_aload_n (pc := 21) hX dX8_readCommand_21 rfl ?_
    refine v_getON (v := .ref (srA g "BirdForge$Command" (shK (cmI g p1)))) (pc := 22) hX dX8_readCommand_22 (rw_obj hO hq1).2.1 wd_2001 ?_
    refine v_astore_n (pc := 25) hX dX8_readCommand_25 (by decide) rfl ?_
    refine v_iconst (v := 0) (pc := 26) hX dX8_readCommand_26 (by decide) ?_
    refine v_istore_n (pc := 27) hX dX8_readCommand_27 (by decide) rfl ?_
    refine mV_sub (lv' := [(0, .ref p), (2, .ref (srA g "BirdForge$Command" (shK ((cmI g p1))))), (3, .int (nI 0))]) ⟨rfl, rfl, rfl, trivial⟩ ?_
    exact lp_X8_readCommand_l1 hO p   hX hZ 4 0 ((cmI g p1)) ((sQ (X8_readWord_m g m p ) (p + 2) ((gI m 324 p).toNatClampNeg) (some p1))) (hs.to (by simp only [mm, kK_X8_readWord]) (fun k hk a => by simp [mm, kR_X8_readWord, hk]) (fun i => by simp [mm, kQ_X8_readWord])) (by simp [mm, kI_X8_readWord]; exact hL) (by simp only [mm]; exact rw_P hP hL) (by simp [mm, kI_X8_readWord]; exact hC) (rw_obj hO hq1).2.2 (by omega) ⟨(by simp only [X8_readCommand_r, hq1]), (by simp only [X8_readCommand_m, hq1])⟩
