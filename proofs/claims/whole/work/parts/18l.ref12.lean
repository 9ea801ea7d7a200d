theorem ok_ne {x : Int32} {B : Nat} (h : okI x B) (hB : B < 2 ^ 31) (c : ¬ x = nI B) : x.toNatClampNeg < B := by
  obtain ⟨h1, h2⟩ := h
  rcases Nat.lt_or_ge x.toNatClampNeg B with q | q
  · exact q
  · refine absurd ?_ c
    rw [h1, show x.toNatClampNeg = B by omega]
theorem ok_lt {x y : Int32} {B : Nat} (h : okI x B) (h' : okI y B) (hB : B < 2 ^ 31) (c : x < y) : x.toNatClampNeg < y.toNatClampNeg := okI_lt2 h h' hB (Int32.not_le.mpr c)
def X11_append_r (g : mG) (m : mM) (r : Nat) (a : Int32)  : Int32 := if (gI m 400 r) = 60 then 0 else ((gI m 400 r) + 1)
def X11_append_m (g : mG) (m : mM) (r : Nat) (a : Int32)  : mM := if (gI m 400 r) = 60 then ((sI m 384 r 1)) else ((sI (sA (sI m 384 r 0) (r + 6) ((gI m 400 r).toNatClampNeg) a) 400 r ((gI m 400 r) + 1)))
theorem kK_X11_append (g : mG) (m : mM) (r : Nat) (a : Int32)  : gK (X11_append_m g m r a ) = gK m := by
  unfold X11_append_m
  repeat' split
  all_goals simp only [mm]
theorem kN_X11_append (g : mG) (m : mM) (r : Nat) (a : Int32)  : gN (X11_append_m g m r a ) = gN m := by
  unfold X11_append_m
  repeat' split
  all_goals simp only [mm]
theorem kI_X11_append (g : mG) (m : mM) (r : Nat) (a : Int32)  (k a9 : Nat) (h0 : k ≠ 384) (h1 : k ≠ 400) : gI (X11_append_m g m r a ) k a9 = gI m k a9 := by
  unfold X11_append_m
  repeat' split
  all_goals simp [mm, h0, h1]
theorem kJ_X11_append (g : mG) (m : mM) (r : Nat) (a : Int32)  : gJ (X11_append_m g m r a ) = gJ m := by
  unfold X11_append_m
  repeat' split
  all_goals simp only [mm]
theorem kR_X11_append (g : mG) (m : mM) (r : Nat) (a : Int32)  : gR (X11_append_m g m r a ) = gR m := by
  unfold X11_append_m
  repeat' split
  all_goals simp only [mm]
theorem kQ_X11_append (g : mG) (m : mM) (r : Nat) (a : Int32)  : gQ (X11_append_m g m r a ) = gQ m := by
  unfold X11_append_m
  repeat' split
  all_goals simp only [mm]
theorem kL_X11_append (g : mG) (m : mM) (r : Nat) (a : Int32)  : gL (X11_append_m g m r a ) = gL m := by
  unfold X11_append_m
  repeat' split
  all_goals simp only [mm]
theorem kD_X11_append (g : mG) (m : mM) (r : Nat) (a : Int32)  : gD (X11_append_m g m r a ) = gD m := by
  unfold X11_append_m
  repeat' split
  all_goals simp only [mm]
theorem kA_X11_append (g : mG) (m : mM) (r : Nat) (a : Int32)  (c9 i9 : Nat) (h0 : c9 ≠ r + 6) : gA (X11_append_m g m r a ) c9 i9 = gA m c9 i9 := by
  unfold X11_append_m
  repeat' split
  all_goals simp [mm, h0]
set_option maxHeartbeats 4000000 in
set_option maxRecDepth 100000 in
theorem c_X11_append {l : Launch} {g : mG} (hO : mO l g) (m : mM) (r : Nat) (a : Int32)  (hs : SR m r) (hT : okI (gI m 400 r) 60) : mT l g yX11_append (.code yX11_append cX11_append 2 (Option.some FieldType.int)) 1 20 0 0 [.ref r, .int a] m (fun u m' => u = some (.int (X11_append_r g m r a )) ∧ m' = X11_append_m g m r a ) nX := by
  refine mT_of hO (by decide) (Nat.le_of_ble_eq_true rfl) (fun x hX hZ => ?_)
  show mV g x m 0 0 0 [(0, .ref r), (1, .int a)] []
  refine v_aload_n (pc := 0) hX dX11_append_0 rfl ?_
  refine v_aload_n (pc := 1) hX dX11_append_1 rfl ?_
  refine v_get (v := .int (gI m 400 r)) (pc := 2) hX dX11_append_2 hs.k (ci := 12) (r := vwC12) rfl 16 (by decide) wd_1522 rfl ?_
  refine v_bipush (v := 60) (pc := 5) hX dX11_append_5 (by decide) ?_
  refine v_icmp_ne (tgt := 14) (pc := 7) hX dX11_append_7 (by decide) (fun c1 => ?_) (fun c1 => ?_)
  ·
    refine v_iconst (v := 0) (pc := 14) hX dX11_append_14 (by decide) ?_
    refine v_put (m1 := (sI m 384 r 0)) (pc := 15) hX dX11_append_15 hs.k (ci := 12) (r := vwC12) rfl 0 (by decide) wd_1506 rfl rfl rfl rfl ?_
    refine v_aload_n (pc := 18) hX dX11_append_18 rfl ?_
    refine v_get (v := .int 0) (pc := 19) hX dX11_append_19 (by simp only [mm]; exact hs.k) (ci := 12) (r := vwC12) rfl 0 (by decide) wd_1506 (by show Value.int _ = Value.int _; simp [mm]) ?_
    refine v_if_eq (tgt := 27) (pc := 22) hX dX11_append_22 (by decide) (fun c2 => ?_) (fun c2 => ?_)
    ·
      refine v_aload_n (pc := 27) hX dX11_append_27 rfl ?_
      refine v_get (v := .ref (r + 6)) (pc := 28) hX dX11_append_28 (by simp only [mm]; exact hs.k) (ci := 12) (r := vwC12) rfl 10 (by decide) wd_1516 (fvA rfl (by simp [mm, hs.r6])) ?_
      refine v_aload_n (pc := 31) hX dX11_append_31 rfl ?_
      refine v_get (v := .int (gI m 400 r)) (pc := 32) hX dX11_append_32 (by simp only [mm]; exact hs.k) (ci := 12) (r := vwC12) rfl 16 (by decide) wd_1522 (by show Value.int _ = Value.int _; simp [mm]) ?_
      refine v_iload_n (pc := 35) hX dX11_append_35 rfl ?_
      have hT2 := ok_ne hT (by decide) (by assumption)
      refine v_iast (j := (gI m 400 r).toNatClampNeg) (pc := 36) hX dX11_append_36 (by simp only [mm]; exact hs.k6) hT.1 (by omega) (by decide) ?_
      refine v_aload_n (pc := 37) hX dX11_append_37 rfl ?_
      refine v_dup (pc := 38) hX dX11_append_38 rfl ?_
      refine v_get (v := .int (gI m 400 r)) (pc := 39) hX dX11_append_39 (by simp only [mm]; exact hs.k) (ci := 12) (r := vwC12) rfl 16 (by decide) wd_1522 (by show Value.int _ = Value.int _; simp [mm]) ?_
      refine v_iconst (v := 1) (pc := 42) hX dX11_append_42 (by decide) ?_
      refine v_iadd (pc := 43) hX dX11_append_43 ?_
      refine v_put (m1 := (sI (sA (sI m 384 r 0) (r + 6) ((gI m 400 r).toNatClampNeg) a) 400 r ((gI m 400 r) + 1))) (pc := 44) hX dX11_append_44 (by simp only [mm]; exact hs.k) (ci := 12) (r := vwC12) rfl 16 (by decide) wd_1522 rfl rfl rfl rfl ?_
      refine v_aload_n (pc := 47) hX dX11_append_47 rfl ?_
      refine v_get (v := .int ((gI m 400 r) + 1)) (pc := 48) hX dX11_append_48 (by simp only [mm]; exact hs.k) (ci := 12) (r := vwC12) rfl 16 (by decide) wd_1522 (by show Value.int _ = Value.int _; simp [mm]) ?_
      exact v_iret (pc := 51) hX hZ dX11_append_51 (by decide) (by decide) ⟨(by rw [X11_append_r, if_neg c1]), (by rw [X11_append_m, if_neg c1])⟩
    · exact absurd (by decide) c2
  ·
    refine v_iconst (v := 1) (pc := 10) hX dX11_append_10 (by decide) ?_
    refine v_goto (tgt := 15) (pc := 11) hX dX11_append_11 (by decide) ?_
    refine v_put (m1 := (sI m 384 r 1)) (pc := 15) hX dX11_append_15 hs.k (ci := 12) (r := vwC12) rfl 0 (by decide) wd_1506 rfl rfl rfl rfl ?_
    refine v_aload_n (pc := 18) hX dX11_append_18 rfl ?_
    refine v_get (v := .int 1) (pc := 19) hX dX11_append_19 (by simp only [mm]; exact hs.k) (ci := 12) (r := vwC12) rfl 0 (by decide) wd_1506 (by show Value.int _ = Value.int _; simp [mm]) ?_
    refine v_if_eq (tgt := 27) (pc := 22) hX dX11_append_22 (by decide) (fun c3 => ?_) (fun c3 => ?_)
    · exact absurd c3 (by decide)
    ·
      refine v_iconst (v := 0) (pc := 25) hX dX11_append_25 (by decide) ?_
      exact v_iret (pc := 26) hX hZ dX11_append_26 (by decide) (by decide) ⟨(by rw [X11_append_r, if_pos c1]), (by rw [X11_append_m, if_pos c1])⟩
def X11_sign_r (g : mG) (m : mM) (r : Nat)  : Int32 := if (gI m 402 r) ≤ (gI m 401 r) then ((-1)) else (gA m (r + 6) ((gI m 401 r).toNatClampNeg))

set_option maxHeartbeats 4000000 in
set_option maxRecDepth 100000 in
theorem c_X11_sign {l : Launch} {g : mG} (hO : mO l g) (m : mM) (r : Nat)  (hs : SR m r) (hHe : okI (gI m 401 r) 60) (hEn : okI (gI m 402 r) 60) : mT l g yX11_sign (.code yX11_sign cX11_sign 1 (Option.some FieldType.int)) 1 20 0 0 [.ref r] m (fun u m' => u = some (.int (X11_sign_r g m r )) ∧ m' = m) nX := by
  refine mT_of hO (by decide) (Nat.le_of_ble_eq_true rfl) (fun x hX hZ => ?_)
  show mV g x m 0 0 0 [(0, .ref r)] []
  refine v_aload_n (pc := 0) hX dX11_sign_0 rfl ?_
  refine v_get (v := .int (gI m 401 r)) (pc := 1) hX dX11_sign_1 hs.k (ci := 12) (r := vwC12) rfl 17 (by decide) wd_1523 rfl ?_
  refine v_aload_n (pc := 4) hX dX11_sign_4 rfl ?_
  refine v_get (v := .int (gI m 402 r)) (pc := 5) hX dX11_sign_5 hs.k (ci := 12) (r := vwC12) rfl 18 (by decide) wd_1524 rfl ?_
  refine v_icmp_ge (tgt := 23) (pc := 8) hX dX11_sign_8 (by decide) (fun c1 => ?_) (fun c1 => ?_)
  ·
    refine v_iconst (v := (-1)) (pc := 23) hX dX11_sign_23 (by decide) ?_
    exact v_iret (pc := 24) hX hZ dX11_sign_24 (by decide) (by decide) ⟨(by rw [X11_sign_r, if_pos c1]), rfl⟩
  ·
    refine v_aload_n (pc := 11) hX dX11_sign_11 rfl ?_
    refine v_get (v := .ref (r + 6)) (pc := 12) hX dX11_sign_12 hs.k (ci := 12) (r := vwC12) rfl 10 (by decide) wd_1516 (fvA rfl hs.r6) ?_
    refine v_aload_n (pc := 15) hX dX11_sign_15 rfl ?_
    refine v_get (v := .int (gI m 401 r)) (pc := 16) hX dX11_sign_16 hs.k (ci := 12) (r := vwC12) rfl 17 (by decide) wd_1523 rfl ?_
    have hx2 := ok_lt hHe hEn (by decide) (Int32.not_le.mp (by assumption))
    have hx3 := hEn.2
    refine v_iald (j := (gI m 401 r).toNatClampNeg) (v := (gA m (r + 6) ((gI m 401 r).toNatClampNeg))) (pc := 19) hX dX11_sign_19 hs.k6 hHe.1 (by omega) (by decide) rfl ?_
    refine v_goto (tgt := 24) (pc := 20) hX dX11_sign_20 (by decide) ?_
    exact v_iret (pc := 24) hX hZ dX11_sign_24 (by decide) (by decide) ⟨(by rw [X11_sign_r, if_neg c1]), rfl⟩
def X11_mark_m (g : mG) (m : mM) (r : Nat) (a : Int32)  : mM := if (gI m 404 r) = 0 then (if (X11_sign_r g m r ) = a then ((sI (sI m 404 r 0) 401 r ((gI m 401 r) + 1))) else ((sI (sI m 404 r 1) 401 r ((gI m 401 r) + 0)))) else m
theorem kK_X11_mark (g : mG) (m : mM) (r : Nat) (a : Int32)  : gK (X11_mark_m g m r a ) = gK m := by
  unfold X11_mark_m
  repeat' split
  all_goals simp only [mm]
theorem kN_X11_mark (g : mG) (m : mM) (r : Nat) (a : Int32)  : gN (X11_mark_m g m r a ) = gN m := by
  unfold X11_mark_m
  repeat' split
  all_goals simp only [mm]
theorem kI_X11_mark (g : mG) (m : mM) (r : Nat) (a : Int32)  (k a9 : Nat) (h0 : k ≠ 401) (h1 : k ≠ 404) : gI (X11_mark_m g m r a ) k a9 = gI m k a9 := by
  unfold X11_mark_m
  repeat' split
  all_goals simp [mm, h0, h1]
theorem kJ_X11_mark (g : mG) (m : mM) (r : Nat) (a : Int32)  : gJ (X11_mark_m g m r a ) = gJ m := by
  unfold X11_mark_m
  repeat' split
  all_goals simp only [mm]
theorem kR_X11_mark (g : mG) (m : mM) (r : Nat) (a : Int32)  : gR (X11_mark_m g m r a ) = gR m := by
  unfold X11_mark_m
  repeat' split
  all_goals simp only [mm]
theorem kA_X11_mark (g : mG) (m : mM) (r : Nat) (a : Int32)  : gA (X11_mark_m g m r a ) = gA m := by
  unfold X11_mark_m
  repeat' split
  all_goals simp only [mm]
theorem kQ_X11_mark (g : mG) (m : mM) (r : Nat) (a : Int32)  : gQ (X11_mark_m g m r a ) = gQ m := by
  unfold X11_mark_m
  repeat' split
  all_goals simp only [mm]
theorem kL_X11_mark (g : mG) (m : mM) (r : Nat) (a : Int32)  : gL (X11_mark_m g m r a ) = gL m := by
  unfold X11_mark_m
  repeat' split
  all_goals simp only [mm]
theorem kD_X11_mark (g : mG) (m : mM) (r : Nat) (a : Int32)  : gD (X11_mark_m g m r a ) = gD m := by
  unfold X11_mark_m
  repeat' split
  all_goals simp only [mm]
set_option maxHeartbeats 4000000 in
set_option maxRecDepth 100000 in
theorem c_X11_mark {l : Launch} {g : mG} (hO : mO l g) (m : mM) (r : Nat) (a : Int32)  (hs : SR m r) (hHe : okI (gI m 401 r) 60) (hEn : okI (gI m 402 r) 60) : mT l g yX11_mark (.code yX11_mark cX11_mark 2 (Option.none : Option FieldType)) 2 40 0 0 [.ref r, .int a] m (fun u m' => u = none ∧ m' = X11_mark_m g m r a ) nX := by
  refine mT_of hO (by decide) (Nat.le_of_ble_eq_true rfl) (fun x hX hZ => ?_)
  show mV g x m 0 0 0 [(0, .ref r), (1, .int a)] []
  refine v_aload_n (pc := 0) hX dX11_mark_0 rfl ?_
  refine v_get (v := .int (gI m 404 r)) (pc := 1) hX dX11_mark_1 hs.k (ci := 12) (r := vwC12) rfl 20 (by decide) wd_1526 rfl ?_
  refine v_if_eq (tgt := 8) (pc := 4) hX dX11_mark_4 (by decide) (fun c1 => ?_) (fun c1 => ?_)
  ·
    refine v_aload_n (pc := 8) hX dX11_mark_8 rfl ?_
    refine v_aload_n (pc := 9) hX dX11_mark_9 rfl ?_
    refine v_callV (z := yX11_sign) (pc := 10) hX dX11_mark_10 (c_X11_sign hO m r  hs hHe hEn) hs.k rfl wd_1897 wd_1899 wp_48 wd_16 wd_1900 ⟨by decide, by decide, (by decide +kernel : (parseMethodDescriptor yX11_sign.desc).map (fun d => d.parameters.length) = some 0)⟩ rfl (Nat.le_of_ble_eq_true rfl) ⟨⟨by decide, by decide⟩, by decide, by decide⟩ (fun E m9 h9 => h9.elim) (fun r9 m9 h9 => ?_)
    obtain ⟨rfl, h8⟩ := h9
    replace h8 := h8.symm
    subst h8
    show mV g x _ _ _ _ _ [.int (X11_sign_r g m r ), .ref r]
    refine v_iload_n (pc := 13) hX dX11_mark_13 rfl ?_
    refine v_icmp_eq (tgt := 21) (pc := 14) hX dX11_mark_14 (by decide) (fun c2 => ?_) (fun c2 => ?_)
    ·
      refine v_iconst (v := 0) (pc := 21) hX dX11_mark_21 (by decide) ?_
      refine v_put (m1 := (sI m 404 r 0)) (pc := 22) hX dX11_mark_22 hs.k (ci := 12) (r := vwC12) rfl 20 (by decide) wd_1526 rfl (by decide) (by decide) rfl ?_
      refine v_aload_n (pc := 25) hX dX11_mark_25 rfl ?_
      refine v_dup (pc := 26) hX dX11_mark_26 rfl ?_
      refine v_get (v := .int (gI m 401 r)) (pc := 27) hX dX11_mark_27 (by simp only [mm]; exact hs.k) (ci := 12) (r := vwC12) rfl 17 (by decide) wd_1523 (by show Value.int _ = Value.int _; simp [mm]) ?_
      refine v_aload_n (pc := 30) hX dX11_mark_30 rfl ?_
      refine v_get (v := .int 0) (pc := 31) hX dX11_mark_31 (by simp only [mm]; exact hs.k) (ci := 12) (r := vwC12) rfl 20 (by decide) wd_1526 (by show Value.int _ = Value.int _; simp [mm]) ?_
      refine v_if_eq (tgt := 41) (pc := 34) hX dX11_mark_34 (by decide) (fun c3 => ?_) (fun c3 => ?_)
      ·
        refine v_iconst (v := 1) (pc := 41) hX dX11_mark_41 (by decide) ?_
        refine v_iadd (pc := 42) hX dX11_mark_42 ?_
        refine v_put (m1 := (sI (sI m 404 r 0) 401 r ((gI m 401 r) + 1))) (pc := 43) hX dX11_mark_43 (by simp only [mm]; exact hs.k) (ci := 12) (r := vwC12) rfl 17 (by decide) wd_1523 rfl rfl rfl rfl ?_
        exact v_vret (pc := 46) hX hZ dX11_mark_46 (by decide) (by decide) ⟨rfl, (by rw [X11_mark_m, if_pos c1, if_pos c2])⟩
      · exact absurd (by decide) c3
    ·
      refine v_iconst (v := 1) (pc := 17) hX dX11_mark_17 (by decide) ?_
      refine v_goto (tgt := 22) (pc := 18) hX dX11_mark_18 (by decide) ?_
      refine v_put (m1 := (sI m 404 r 1)) (pc := 22) hX dX11_mark_22 hs.k (ci := 12) (r := vwC12) rfl 20 (by decide) wd_1526 rfl (by decide) (by decide) rfl ?_
      refine v_aload_n (pc := 25) hX dX11_mark_25 rfl ?_
      refine v_dup (pc := 26) hX dX11_mark_26 rfl ?_
      refine v_get (v := .int (gI m 401 r)) (pc := 27) hX dX11_mark_27 (by simp only [mm]; exact hs.k) (ci := 12) (r := vwC12) rfl 17 (by decide) wd_1523 (by show Value.int _ = Value.int _; simp [mm]) ?_
      refine v_aload_n (pc := 30) hX dX11_mark_30 rfl ?_
      refine v_get (v := .int 1) (pc := 31) hX dX11_mark_31 (by simp only [mm]; exact hs.k) (ci := 12) (r := vwC12) rfl 20 (by decide) wd_1526 (by show Value.int _ = Value.int _; simp [mm]) ?_
      refine v_if_eq (tgt := 41) (pc := 34) hX dX11_mark_34 (by decide) (fun c4 => ?_) (fun c4 => ?_)
      · exact absurd c4 (by decide)
      ·
        refine v_iconst (v := 0) (pc := 37) hX dX11_mark_37 (by decide) ?_
        refine v_goto (tgt := 42) (pc := 38) hX dX11_mark_38 (by decide) ?_
        refine v_iadd (pc := 42) hX dX11_mark_42 ?_
        refine v_put (m1 := (sI (sI m 404 r 1) 401 r ((gI m 401 r) + 0))) (pc := 43) hX dX11_mark_43 (by simp only [mm]; exact hs.k) (ci := 12) (r := vwC12) rfl 17 (by decide) wd_1523 rfl rfl rfl rfl ?_
        exact v_vret (pc := 46) hX hZ dX11_mark_46 (by decide) (by decide) ⟨rfl, (by rw [X11_mark_m, if_pos c1, if_neg c2])⟩
  ·
    exact v_vret (pc := 7) hX hZ dX11_mark_7 (by decide) (by decide) ⟨rfl, (by rw [X11_mark_m, if_neg c1])⟩
def X11_letter_r (g : mG) (m : mM) (r : Nat)  : Int32 := if (X11_sign_r g m r ) = 98 then (X11_sign_r g m r ) else (if (X11_sign_r g m r ) = 110 then (X11_sign_r g m r ) else (if (X11_sign_r g m r ) = 119 then (X11_sign_r g m r ) else (X11_sign_r g m r )))
def X11_letter_m (g : mG) (m : mM) (r : Nat)  : mM := if (X11_sign_r g m r ) = 98 then ((sI (sI m 404 r (0 ||| 0)) 401 r ((gI m 401 r) + 1))) else (if (X11_sign_r g m r ) = 110 then ((sI (sI m 404 r (0 ||| 0)) 401 r ((gI m 401 r) + 1))) else (if (X11_sign_r g m r ) = 119 then ((sI (sI m 404 r (0 ||| 0)) 401 r ((gI m 401 r) + 1))) else ((sI (sI m 404 r (0 ||| 1)) 401 r ((gI m 401 r) + 0)))))
theorem kK_X11_letter (g : mG) (m : mM) (r : Nat)  : gK (X11_letter_m g m r ) = gK m := by
  unfold X11_letter_m
  repeat' split
  all_goals simp only [mm]
theorem kN_X11_letter (g : mG) (m : mM) (r : Nat)  : gN (X11_letter_m g m r ) = gN m := by
  unfold X11_letter_m
  repeat' split
  all_goals simp only [mm]
theorem kI_X11_letter (g : mG) (m : mM) (r : Nat)  (k a9 : Nat) (h0 : k ≠ 401) (h1 : k ≠ 404) : gI (X11_letter_m g m r ) k a9 = gI m k a9 := by
  unfold X11_letter_m
  repeat' split
  all_goals simp [mm, h0, h1]
theorem kJ_X11_letter (g : mG) (m : mM) (r : Nat)  : gJ (X11_letter_m g m r ) = gJ m := by
  unfold X11_letter_m
  repeat' split
  all_goals simp only [mm]
theorem kR_X11_letter (g : mG) (m : mM) (r : Nat)  : gR (X11_letter_m g m r ) = gR m := by
  unfold X11_letter_m
  repeat' split
  all_goals simp only [mm]
theorem kA_X11_letter (g : mG) (m : mM) (r : Nat)  : gA (X11_letter_m g m r ) = gA m := by
  unfold X11_letter_m
  repeat' split
  all_goals simp only [mm]
theorem kQ_X11_letter (g : mG) (m : mM) (r : Nat)  : gQ (X11_letter_m g m r ) = gQ m := by
  unfold X11_letter_m
  repeat' split
  all_goals simp only [mm]
theorem kL_X11_letter (g : mG) (m : mM) (r : Nat)  : gL (X11_letter_m g m r ) = gL m := by
  unfold X11_letter_m
  repeat' split
  all_goals simp only [mm]
theorem kD_X11_letter (g : mG) (m : mM) (r : Nat)  : gD (X11_letter_m g m r ) = gD m := by
  unfold X11_letter_m
  repeat' split
  all_goals simp only [mm]
set_option maxHeartbeats 4000000 in
set_option maxRecDepth 100000 in
theorem c_X11_letter {l : Launch} {g : mG} (hO : mO l g) (m : mM) (r : Nat)  (hs : SR m r) (hHe : okI (gI m 401 r) 60) (hEn : okI (gI m 402 r) 60) (hW0 : gI m 404 r = 0) : mT l g yX11_letter (.code yX11_letter cX11_letter 2 (Option.some FieldType.int)) 2 40 0 0 [.ref r] m (fun u m' => u = some (.int (X11_letter_r g m r )) ∧ m' = X11_letter_m g m r ) nX := by
  refine mT_of hO (by decide) (Nat.le_of_ble_eq_true rfl) (fun x hX hZ => ?_)
  show mV g x m 0 0 0 [(0, .ref r)] []
  refine v_aload_n (pc := 0) hX dX11_letter_0 rfl ?_
  refine v_callV (z := yX11_sign) (pc := 1) hX dX11_letter_1 (c_X11_sign hO m r  hs hHe hEn) hs.k rfl wd_1897 wd_1899 wp_48 wd_16 wd_1900 ⟨by decide, by decide, (by decide +kernel : (parseMethodDescriptor yX11_sign.desc).map (fun d => d.parameters.length) = some 0)⟩ rfl (Nat.le_of_ble_eq_true rfl) ⟨⟨by decide, by decide⟩, by decide, by decide⟩ (fun E m9 h9 => h9.elim) (fun r9 m9 h9 => ?_)
  obtain ⟨rfl, h8⟩ := h9
  replace h8 := h8.symm
  subst h8
  show mV g x _ _ _ _ _ [.int (X11_sign_r g m r )]
  refine v_istore_n (pc := 4) hX dX11_letter_4 (by decide) rfl ?_
  refine v_aload_n (pc := 5) hX dX11_letter_5 rfl ?_
  refine v_dup (pc := 6) hX dX11_letter_6 rfl ?_
  refine v_get (v := .int 0) (pc := 7) hX dX11_letter_7 hs.k (ci := 12) (r := vwC12) rfl 20 (by decide) wd_1526 (congrArg Value.int hW0) ?_
  refine v_iload_n (pc := 10) hX dX11_letter_10 rfl ?_
  refine v_bipush (v := 98) (pc := 11) hX dX11_letter_11 (by decide) ?_
  refine v_icmp_eq (tgt := 32) (pc := 13) hX dX11_letter_13 (by decide) (fun c1 => ?_) (fun c1 => ?_)
  ·
    refine v_iconst (v := 0) (pc := 32) hX dX11_letter_32 (by decide) ?_
    refine v_ior (pc := 33) hX dX11_letter_33 ?_
    refine v_put (m1 := (sI m 404 r (0 ||| 0))) (pc := 34) hX dX11_letter_34 hs.k (ci := 12) (r := vwC12) rfl 20 (by decide) wd_1526 rfl (by decide) (by decide) rfl ?_
    refine v_aload_n (pc := 37) hX dX11_letter_37 rfl ?_
    refine v_dup (pc := 38) hX dX11_letter_38 rfl ?_
    refine v_get (v := .int (gI m 401 r)) (pc := 39) hX dX11_letter_39 (by simp only [mm]; exact hs.k) (ci := 12) (r := vwC12) rfl 17 (by decide) wd_1523 (by show Value.int _ = Value.int _; simp [mm]) ?_
    refine v_aload_n (pc := 42) hX dX11_letter_42 rfl ?_
    refine v_get (v := .int (0 ||| 0)) (pc := 43) hX dX11_letter_43 (by simp only [mm]; exact hs.k) (ci := 12) (r := vwC12) rfl 20 (by decide) wd_1526 (by show Value.int _ = Value.int _; simp [mm]) ?_
    refine v_if_eq (tgt := 53) (pc := 46) hX dX11_letter_46 (by decide) (fun c2 => ?_) (fun c2 => ?_)
    ·
      refine v_iconst (v := 1) (pc := 53) hX dX11_letter_53 (by decide) ?_
      refine v_iadd (pc := 54) hX dX11_letter_54 ?_
      refine v_put (m1 := (sI (sI m 404 r (0 ||| 0)) 401 r ((gI m 401 r) + 1))) (pc := 55) hX dX11_letter_55 (by simp only [mm]; exact hs.k) (ci := 12) (r := vwC12) rfl 17 (by decide) wd_1523 rfl rfl rfl rfl ?_
      refine v_iload_n (pc := 58) hX dX11_letter_58 rfl ?_
      exact v_iret (pc := 59) hX hZ dX11_letter_59 (by decide) (by decide) ⟨(by rw [X11_letter_r, if_pos c1]), (by rw [X11_letter_m, if_pos c1])⟩
    · exact absurd (by decide) c2
  ·
    refine v_iload_n (pc := 16) hX dX11_letter_16 rfl ?_
    refine v_bipush (v := 110) (pc := 17) hX dX11_letter_17 (by decide) ?_
    refine v_icmp_eq (tgt := 32) (pc := 19) hX dX11_letter_19 (by decide) (fun c3 => ?_) (fun c3 => ?_)
    ·
      refine v_iconst (v := 0) (pc := 32) hX dX11_letter_32 (by decide) ?_
      refine v_ior (pc := 33) hX dX11_letter_33 ?_
      refine v_put (m1 := (sI m 404 r (0 ||| 0))) (pc := 34) hX dX11_letter_34 hs.k (ci := 12) (r := vwC12) rfl 20 (by decide) wd_1526 rfl (by decide) (by decide) rfl ?_
      refine v_aload_n (pc := 37) hX dX11_letter_37 rfl ?_
      refine v_dup (pc := 38) hX dX11_letter_38 rfl ?_
      refine v_get (v := .int (gI m 401 r)) (pc := 39) hX dX11_letter_39 (by simp only [mm]; exact hs.k) (ci := 12) (r := vwC12) rfl 17 (by decide) wd_1523 (by show Value.int _ = Value.int _; simp [mm]) ?_
      refine v_aload_n (pc := 42) hX dX11_letter_42 rfl ?_
      refine v_get (v := .int (0 ||| 0)) (pc := 43) hX dX11_letter_43 (by simp only [mm]; exact hs.k) (ci := 12) (r := vwC12) rfl 20 (by decide) wd_1526 (by show Value.int _ = Value.int _; simp [mm]) ?_
      refine v_if_eq (tgt := 53) (pc := 46) hX dX11_letter_46 (by decide) (fun c4 => ?_) (fun c4 => ?_)
      ·
        refine v_iconst (v := 1) (pc := 53) hX dX11_letter_53 (by decide) ?_
        refine v_iadd (pc := 54) hX dX11_letter_54 ?_
        refine v_put (m1 := (sI (sI m 404 r (0 ||| 0)) 401 r ((gI m 401 r) + 1))) (pc := 55) hX dX11_letter_55 (by simp only [mm]; exact hs.k) (ci := 12) (r := vwC12) rfl 17 (by decide) wd_1523 rfl rfl rfl rfl ?_
        refine v_iload_n (pc := 58) hX dX11_letter_58 rfl ?_
        exact v_iret (pc := 59) hX hZ dX11_letter_59 (by decide) (by decide) ⟨(by rw [X11_letter_r, if_neg c1, if_pos c3]), (by rw [X11_letter_m, if_neg c1, if_pos c3])⟩
      · exact absurd (by decide) c4
    ·
      refine v_iload_n (pc := 22) hX dX11_letter_22 rfl ?_
      refine v_bipush (v := 119) (pc := 23) hX dX11_letter_23 (by decide) ?_
      refine v_icmp_eq (tgt := 32) (pc := 25) hX dX11_letter_25 (by decide) (fun c5 => ?_) (fun c5 => ?_)
      ·
        refine v_iconst (v := 0) (pc := 32) hX dX11_letter_32 (by decide) ?_
        refine v_ior (pc := 33) hX dX11_letter_33 ?_
        refine v_put (m1 := (sI m 404 r (0 ||| 0))) (pc := 34) hX dX11_letter_34 hs.k (ci := 12) (r := vwC12) rfl 20 (by decide) wd_1526 rfl (by decide) (by decide) rfl ?_
        refine v_aload_n (pc := 37) hX dX11_letter_37 rfl ?_
        refine v_dup (pc := 38) hX dX11_letter_38 rfl ?_
        refine v_get (v := .int (gI m 401 r)) (pc := 39) hX dX11_letter_39 (by simp only [mm]; exact hs.k) (ci := 12) (r := vwC12) rfl 17 (by decide) wd_1523 (by show Value.int _ = Value.int _; simp [mm]) ?_
        refine v_aload_n (pc := 42) hX dX11_letter_42 rfl ?_
        refine v_get (v := .int (0 ||| 0)) (pc := 43) hX dX11_letter_43 (by simp only [mm]; exact hs.k) (ci := 12) (r := vwC12) rfl 20 (by decide) wd_1526 (by show Value.int _ = Value.int _; simp [mm]) ?_
        refine v_if_eq (tgt := 53) (pc := 46) hX dX11_letter_46 (by decide) (fun c6 => ?_) (fun c6 => ?_)
        ·
          refine v_iconst (v := 1) (pc := 53) hX dX11_letter_53 (by decide) ?_
          refine v_iadd (pc := 54) hX dX11_letter_54 ?_
          refine v_put (m1 := (sI (sI m 404 r (0 ||| 0)) 401 r ((gI m 401 r) + 1))) (pc := 55) hX dX11_letter_55 (by simp only [mm]; exact hs.k) (ci := 12) (r := vwC12) rfl 17 (by decide) wd_1523 rfl rfl rfl rfl ?_
          refine v_iload_n (pc := 58) hX dX11_letter_58 rfl ?_
          exact v_iret (pc := 59) hX hZ dX11_letter_59 (by decide) (by decide) ⟨(by rw [X11_letter_r, if_neg c1, if_neg c3, if_pos c5]), (by rw [X11_letter_m, if_neg c1, if_neg c3, if_pos c5])⟩
        · exact absurd (by decide) c6
      ·
        refine v_iconst (v := 1) (pc := 28) hX dX11_letter_28 (by decide) ?_
        refine v_goto (tgt := 33) (pc := 29) hX dX11_letter_29 (by decide) ?_
        refine v_ior (pc := 33) hX dX11_letter_33 ?_
        refine v_put (m1 := (sI m 404 r (0 ||| 1))) (pc := 34) hX dX11_letter_34 hs.k (ci := 12) (r := vwC12) rfl 20 (by decide) wd_1526 rfl (by decide) (by decide) rfl ?_
        refine v_aload_n (pc := 37) hX dX11_letter_37 rfl ?_
        refine v_dup (pc := 38) hX dX11_letter_38 rfl ?_
        refine v_get (v := .int (gI m 401 r)) (pc := 39) hX dX11_letter_39 (by simp only [mm]; exact hs.k) (ci := 12) (r := vwC12) rfl 17 (by decide) wd_1523 (by show Value.int _ = Value.int _; simp [mm]) ?_
        refine v_aload_n (pc := 42) hX dX11_letter_42 rfl ?_
        refine v_get (v := .int (0 ||| 1)) (pc := 43) hX dX11_letter_43 (by simp only [mm]; exact hs.k) (ci := 12) (r := vwC12) rfl 20 (by decide) wd_1526 (by show Value.int _ = Value.int _; simp [mm]) ?_
        refine v_if_eq (tgt := 53) (pc := 46) hX dX11_letter_46 (by decide) (fun c7 => ?_) (fun c7 => ?_)
        · exact absurd c7 (by decide)
        ·
          refine v_iconst (v := 0) (pc := 49) hX dX11_letter_49 (by decide) ?_
          refine v_goto (tgt := 54) (pc := 50) hX dX11_letter_50 (by decide) ?_
          refine v_iadd (pc := 54) hX dX11_letter_54 ?_
          refine v_put (m1 := (sI (sI m 404 r (0 ||| 1)) 401 r ((gI m 401 r) + 0))) (pc := 55) hX dX11_letter_55 (by simp only [mm]; exact hs.k) (ci := 12) (r := vwC12) rfl 17 (by decide) wd_1523 rfl rfl rfl rfl ?_
          refine v_iload_n (pc := 58) hX dX11_letter_58 rfl ?_
          exact v_iret (pc := 59) hX hZ dX11_letter_59 (by decide) (by decide) ⟨(by rw [X11_letter_r, if_neg c1, if_neg c3, if_neg c5]), (by rw [X11_letter_m, if_neg c1, if_neg c3, if_neg c5])⟩
theorem okI_up2 {x y : Int32} {B : Nat} (h : okI x B) (h' : okI y B) (c : x < y) (hB : B < 2 ^ 31 := by decide) : okI (x + 1) B := okI_up h h' hB (Int32.not_le.mpr c)
theorem sign_pos {g : mG} {m : mM} {r : Nat} (h : ¬ isI (X11_sign_r g m r) 48 57 = 0) : gI m 401 r < gI m 402 r := by
  have h1 := (isI_0 h).1
  unfold X11_sign_r at h1
  split at h1
  · exact absurd (by decide) h1
  · rename_i c
    exact Int32.not_le.mp c
def X11_digits_l1 (g : mG) (r : Nat) (mo : Nat)  : Nat → Nat → Int32 → mM → Int32 × mM
  | 0, j, s, m => if (nI j) = 0 then ((s, (sI m 404 r (0 ||| 1)))) else ((s, (sI m 404 r (0 ||| 0))))
  | n + 1, j, s, m => if (isI (X11_sign_r g m r ) 48 57) = 0 then (if (nI j) = 0 then ((s, (sI m 404 r (0 ||| 1)))) else ((s, (sI m 404 r (0 ||| 0))))) else (X11_digits_l1 g r mo  n (j + 1) (((10 * s) + (X11_sign_r g m r )) - 48) ((sI m 401 r ((gI m 401 r) + 1))))
set_option maxHeartbeats 4000000 in
set_option maxRecDepth 100000 in
theorem lp_X11_digits_l1 {l : Launch} {g : mG} {x : mCx} (hO : mO l g) (r : Nat) (mo : Nat)  (hmo : mo ≤ 2) {pst : Option Value → mM → Prop} {XX : String → mM → Prop} (hX : mX l g x cX11_digits yX11_digits { frames := 2, cells := 0, slots := 0, locals := 42 } 4) (hZ : mZ g x (Option.some FieldType.int) [] pst XX 0 0) : ∀ (n j : Nat) (s : Int32) (m : mM) (hs : SR m r) (hHe : okI (gI m 401 r) 60) (hEn : okI (gI m 402 r) 60) (hW0 : gI m 404 r = 0) (hj : j + n = mo) (hp : pst (some (.int ((X11_digits_l1 g r mo  n j s m).1))) ((X11_digits_l1 g r mo  n j s m).2)), mV g x m 0 0 4 [(0, .ref r), (1, .int (nI mo)), (2, .int s), (3, .int (nI j))] [] := by
  intro n
  induction n with
  | zero =>
    intro j s m hs hHe hEn hW0 hj hp
    refine v_aload_n (pc := 4) hX dX11_digits_4 rfl ?_
    refine v_get (v := .int 0) (pc := 5) hX dX11_digits_5 hs.k (ci := 12) (r := vwC12) rfl 20 (by decide) wd_1526 (congrArg Value.int hW0) ?_
    refine v_if_ne (tgt := 59) (pc := 8) hX dX11_digits_8 (by decide) (fun c1 => ?_) (fun c1 => ?_)
    · exact absurd (by decide) c1
    ·
      refine v_iload_n (pc := 11) hX dX11_digits_11 rfl ?_
      refine v_iload_n (pc := 12) hX dX11_digits_12 rfl ?_
      refine v_icmp_ge (tgt := 59) (pc := 13) hX dX11_digits_13 (by decide) (fun c2 => ?_) (fun c2 => ?_)
      ·
        refine v_aload_n (pc := 59) hX dX11_digits_59 rfl ?_
        refine v_dup (pc := 60) hX dX11_digits_60 rfl ?_
        refine v_get (v := .int 0) (pc := 61) hX dX11_digits_61 hs.k (ci := 12) (r := vwC12) rfl 20 (by decide) wd_1526 (congrArg Value.int hW0) ?_
        refine v_iload_n (pc := 64) hX dX11_digits_64 rfl ?_
        refine v_if_ne (tgt := 72) (pc := 65) hX dX11_digits_65 (by decide) (fun c3 => ?_) (fun c3 => ?_)
        ·
          refine v_iconst (v := 0) (pc := 72) hX dX11_digits_72 (by decide) ?_
          refine v_ior (pc := 73) hX dX11_digits_73 ?_
          refine v_put (m1 := (sI m 404 r (0 ||| 0))) (pc := 74) hX dX11_digits_74 hs.k (ci := 12) (r := vwC12) rfl 20 (by decide) wd_1526 rfl (by decide) (by decide) rfl ?_
          refine v_iload_n (pc := 77) hX dX11_digits_77 rfl ?_
          exact v_iret (pc := 78) hX hZ dX11_digits_78 (by decide) (by decide) (by rw [X11_digits_l1, if_neg c3] at hp; exact hp)
        ·
          refine v_iconst (v := 1) (pc := 68) hX dX11_digits_68 (by decide) ?_
          refine v_goto (tgt := 73) (pc := 69) hX dX11_digits_69 (by decide) ?_
          refine v_ior (pc := 73) hX dX11_digits_73 ?_
          refine v_put (m1 := (sI m 404 r (0 ||| 1))) (pc := 74) hX dX11_digits_74 hs.k (ci := 12) (r := vwC12) rfl 20 (by decide) wd_1526 rfl (by decide) (by decide) rfl ?_
          refine v_iload_n (pc := 77) hX dX11_digits_77 rfl ?_
          exact v_iret (pc := 78) hX hZ dX11_digits_78 (by decide) (by decide) (by rw [X11_digits_l1, if_pos c3] at hp; exact hp)
      · exact absurd (nI_le (by omega) (by omega)) c2
  | succ n ih =>
    intro j s m hs hHe hEn hW0 hj hp
    refine v_aload_n (pc := 4) hX dX11_digits_4 rfl ?_
    refine v_get (v := .int 0) (pc := 5) hX dX11_digits_5 hs.k (ci := 12) (r := vwC12) rfl 20 (by decide) wd_1526 (congrArg Value.int hW0) ?_
    refine v_if_ne (tgt := 59) (pc := 8) hX dX11_digits_8 (by decide) (fun c1 => ?_) (fun c1 => ?_)
    · exact absurd (by decide) c1
    ·
      refine v_iload_n (pc := 11) hX dX11_digits_11 rfl ?_
      refine v_iload_n (pc := 12) hX dX11_digits_12 rfl ?_
      refine v_icmp_ge (tgt := 59) (pc := 13) hX dX11_digits_13 (by decide) (fun c2 => ?_) (fun c2 => ?_)
      · exact absurd c2 (nI_ge (by omega) (by omega))
      ·
        refine v_aload_n (pc := 16) hX dX11_digits_16 rfl ?_
        refine v_callV (z := yX11_sign) (pc := 17) hX dX11_digits_17 (c_X11_sign hO m r  hs hHe hEn) hs.k rfl wd_1897 wd_1899 wp_48 wd_16 wd_1900 ⟨by decide, by decide, (by decide +kernel : (parseMethodDescriptor yX11_sign.desc).map (fun d => d.parameters.length) = some 0)⟩ rfl (Nat.le_of_ble_eq_true rfl) ⟨⟨by decide, by decide⟩, by decide, by decide⟩ (fun E m9 h9 => h9.elim) (fun r9 m9 h9 => ?_)
        obtain ⟨rfl, h8⟩ := h9
        replace h8 := h8.symm
        subst h8
        show mV g x _ _ _ _ _ [.int (X11_sign_r g m r )]
        refine v_bipush (v := 48) (pc := 20) hX dX11_digits_20 (by decide) ?_
        refine v_bipush (v := 57) (pc := 22) hX dX11_digits_22 (by decide) ?_
        refine v_callS (z := yX11_isIn) (pc := 24) hX dX11_digits_24 (c_isI hO m (X11_sign_r g m r ) 48 57) wd_1592 wd_1593 wd_16 wd_1594 ⟨by decide, by decide, (by decide +kernel : (parseMethodDescriptor yX11_isIn.desc).map (fun d => d.parameters.length) = some 3)⟩ rfl (Nat.le_of_ble_eq_true rfl) ⟨⟨by decide, by decide⟩, by decide, by decide⟩ (fun E m9 h9 => h9.elim) (fun r9 m9 h9 => ?_)
        obtain ⟨rfl, h8⟩ := h9
        replace h8 := h8.symm
        subst h8
        show mV g x _ _ _ _ _ [.int (isI (X11_sign_r g m r ) 48 57)]
        refine v_if_eq (tgt := 59) (pc := 27) hX dX11_digits_27 (by decide) (fun c3 => ?_) (fun c3 => ?_)
        ·
          refine v_aload_n (pc := 59) hX dX11_digits_59 rfl ?_
          refine v_dup (pc := 60) hX dX11_digits_60 rfl ?_
          refine v_get (v := .int 0) (pc := 61) hX dX11_digits_61 hs.k (ci := 12) (r := vwC12) rfl 20 (by decide) wd_1526 (congrArg Value.int hW0) ?_
          refine v_iload_n (pc := 64) hX dX11_digits_64 rfl ?_
          refine v_if_ne (tgt := 72) (pc := 65) hX dX11_digits_65 (by decide) (fun c4 => ?_) (fun c4 => ?_)
          ·
            refine v_iconst (v := 0) (pc := 72) hX dX11_digits_72 (by decide) ?_
            refine v_ior (pc := 73) hX dX11_digits_73 ?_
            refine v_put (m1 := (sI m 404 r (0 ||| 0))) (pc := 74) hX dX11_digits_74 hs.k (ci := 12) (r := vwC12) rfl 20 (by decide) wd_1526 rfl (by decide) (by decide) rfl ?_
            refine v_iload_n (pc := 77) hX dX11_digits_77 rfl ?_
            exact v_iret (pc := 78) hX hZ dX11_digits_78 (by decide) (by decide) (by rw [X11_digits_l1, if_pos c3, if_neg c4] at hp; exact hp)
          ·
            refine v_iconst (v := 1) (pc := 68) hX dX11_digits_68 (by decide) ?_
            refine v_goto (tgt := 73) (pc := 69) hX dX11_digits_69 (by decide) ?_
            refine v_ior (pc := 73) hX dX11_digits_73 ?_
            refine v_put (m1 := (sI m 404 r (0 ||| 1))) (pc := 74) hX dX11_digits_74 hs.k (ci := 12) (r := vwC12) rfl 20 (by decide) wd_1526 rfl (by decide) (by decide) rfl ?_
            refine v_iload_n (pc := 77) hX dX11_digits_77 rfl ?_
            exact v_iret (pc := 78) hX hZ dX11_digits_78 (by decide) (by decide) (by rw [X11_digits_l1, if_pos c3, if_pos c4] at hp; exact hp)
        ·
          refine v_bipush (v := 10) (pc := 30) hX dX11_digits_30 (by decide) ?_
          refine v_iload_n (pc := 32) hX dX11_digits_32 rfl ?_
          refine v_imul (pc := 33) hX dX11_digits_33 ?_
          refine v_aload_n (pc := 34) hX dX11_digits_34 rfl ?_
          refine v_callV (z := yX11_sign) (pc := 35) hX dX11_digits_35 (c_X11_sign hO m r  hs hHe hEn) hs.k rfl wd_1897 wd_1899 wp_48 wd_16 wd_1900 ⟨by decide, by decide, (by decide +kernel : (parseMethodDescriptor yX11_sign.desc).map (fun d => d.parameters.length) = some 0)⟩ rfl (Nat.le_of_ble_eq_true rfl) ⟨⟨by decide, by decide⟩, by decide, by decide⟩ (fun E m9 h9 => h9.elim) (fun r9 m9 h9 => ?_)
          obtain ⟨rfl, h8⟩ := h9
          replace h8 := h8.symm
          subst h8
          show mV g x _ _ _ _ _ [.int (X11_sign_r g m r ), .int (10 * s)]
          refine v_iadd (pc := 38) hX dX11_digits_38 ?_
          refine v_bipush (v := 48) (pc := 39) hX dX11_digits_39 (by decide) ?_
          refine v_isub (pc := 41) hX dX11_digits_41 ?_
          refine v_istore_n (pc := 42) hX dX11_digits_42 (by decide) rfl ?_
          refine v_aload_n (pc := 43) hX dX11_digits_43 rfl ?_
          refine v_dup (pc := 44) hX dX11_digits_44 rfl ?_
          refine v_get (v := .int (gI m 401 r)) (pc := 45) hX dX11_digits_45 hs.k (ci := 12) (r := vwC12) rfl 17 (by decide) wd_1523 rfl ?_
          refine v_iconst (v := 1) (pc := 48) hX dX11_digits_48 (by decide) ?_
          refine v_iadd (pc := 49) hX dX11_digits_49 ?_
          refine v_put (m1 := (sI m 401 r ((gI m 401 r) + 1))) (pc := 50) hX dX11_digits_50 hs.k (ci := 12) (r := vwC12) rfl 17 (by decide) wd_1523 rfl rfl rfl rfl ?_
          refine v_iinc (w := nI (j + 1)) (pc := 53) hX dX11_digits_53 rfl (nI_1 _) (by decide) rfl ?_
          refine v_goto (tgt := 4) (pc := 56) hX dX11_digits_56 (by decide) ?_
          refine mV_sub (lv' := [(0, .ref r), (1, .int (nI mo)), (2, .int (((10 * s) + (X11_sign_r g m r )) - 48)), (3, .int (nI (j + 1)))]) ⟨rfl, rfl, rfl, rfl, trivial⟩ ?_
          exact ih (j + 1) (((10 * s) + (X11_sign_r g m r )) - 48) ((sI m 401 r ((gI m 401 r) + 1))) (hs.to (by simp only [mm]) (by simp only [mm])) (by simp [mm]; exact okI_up2 hHe hEn (sign_pos (by assumption))) (by simp [mm]; exact hEn) (by simp [mm, hW0]) (by omega) (by rw [X11_digits_l1, if_neg c3] at hp; exact hp)
theorem kK_X11_digits_l1 (g : mG) (r : Nat) (mo : Nat)  : ∀ (n j : Nat) (s : Int32) (m : mM), gK ((X11_digits_l1 g r mo  n j s m).2) = gK m := by
  intro n
  induction n with
  | zero =>
    intro j s m
    rw [X11_digits_l1]
    repeat' split
    all_goals simp only [mm]
  | succ n ih =>
    intro j s m
    rw [X11_digits_l1]
    repeat' split
    all_goals simp only [mm, ih]
theorem kN_X11_digits_l1 (g : mG) (r : Nat) (mo : Nat)  : ∀ (n j : Nat) (s : Int32) (m : mM), gN ((X11_digits_l1 g r mo  n j s m).2) = gN m := by
  intro n
  induction n with
  | zero =>
    intro j s m
    rw [X11_digits_l1]
    repeat' split
    all_goals simp only [mm]
  | succ n ih =>
    intro j s m
    rw [X11_digits_l1]
    repeat' split
    all_goals simp only [mm, ih]
theorem kI_X11_digits_l1 (g : mG) (r : Nat) (mo : Nat)  (k a9 : Nat) (h0 : k ≠ 401) (h1 : k ≠ 404) : ∀ (n j : Nat) (s : Int32) (m : mM), gI ((X11_digits_l1 g r mo  n j s m).2) k a9 = gI m k a9 := by
  intro n
  induction n with
  | zero =>
    intro j s m
    rw [X11_digits_l1]
    repeat' split
    all_goals simp [mm, h0, h1]
  | succ n ih =>
    intro j s m
    rw [X11_digits_l1]
    repeat' split
    all_goals simp [mm, ih, h0, h1]
theorem kJ_X11_digits_l1 (g : mG) (r : Nat) (mo : Nat)  : ∀ (n j : Nat) (s : Int32) (m : mM), gJ ((X11_digits_l1 g r mo  n j s m).2) = gJ m := by
  intro n
  induction n with
  | zero =>
    intro j s m
    rw [X11_digits_l1]
    repeat' split
    all_goals simp only [mm]
  | succ n ih =>
    intro j s m
    rw [X11_digits_l1]
    repeat' split
    all_goals simp only [mm, ih]
theorem kR_X11_digits_l1 (g : mG) (r : Nat) (mo : Nat)  : ∀ (n j : Nat) (s : Int32) (m : mM), gR ((X11_digits_l1 g r mo  n j s m).2) = gR m := by
  intro n
  induction n with
  | zero =>
    intro j s m
    rw [X11_digits_l1]
    repeat' split
    all_goals simp only [mm]
  | succ n ih =>
    intro j s m
    rw [X11_digits_l1]
    repeat' split
    all_goals simp only [mm, ih]
theorem kA_X11_digits_l1 (g : mG) (r : Nat) (mo : Nat)  : ∀ (n j : Nat) (s : Int32) (m : mM), gA ((X11_digits_l1 g r mo  n j s m).2) = gA m := by
  intro n
  induction n with
  | zero =>
    intro j s m
    rw [X11_digits_l1]
    repeat' split
    all_goals simp only [mm]
  | succ n ih =>
    intro j s m
    rw [X11_digits_l1]
    repeat' split
    all_goals simp only [mm, ih]
theorem kQ_X11_digits_l1 (g : mG) (r : Nat) (mo : Nat)  : ∀ (n j : Nat) (s : Int32) (m : mM), gQ ((X11_digits_l1 g r mo  n j s m).2) = gQ m := by
  intro n
  induction n with
  | zero =>
    intro j s m
    rw [X11_digits_l1]
    repeat' split
    all_goals simp only [mm]
  | succ n ih =>
    intro j s m
    rw [X11_digits_l1]
    repeat' split
    all_goals simp only [mm, ih]
theorem kL_X11_digits_l1 (g : mG) (r : Nat) (mo : Nat)  : ∀ (n j : Nat) (s : Int32) (m : mM), gL ((X11_digits_l1 g r mo  n j s m).2) = gL m := by
  intro n
  induction n with
  | zero =>
    intro j s m
    rw [X11_digits_l1]
    repeat' split
    all_goals simp only [mm]
  | succ n ih =>
    intro j s m
    rw [X11_digits_l1]
    repeat' split
    all_goals simp only [mm, ih]
theorem kD_X11_digits_l1 (g : mG) (r : Nat) (mo : Nat)  : ∀ (n j : Nat) (s : Int32) (m : mM), gD ((X11_digits_l1 g r mo  n j s m).2) = gD m := by
  intro n
  induction n with
  | zero =>
    intro j s m
    rw [X11_digits_l1]
    repeat' split
    all_goals simp only [mm]
  | succ n ih =>
    intro j s m
    rw [X11_digits_l1]
    repeat' split
    all_goals simp only [mm, ih]
def X11_digits_r (g : mG) (m : mM) (r : Nat) (mo : Nat)  : Int32 := (X11_digits_l1 g r mo  mo 0 0 m).1
def X11_digits_m (g : mG) (m : mM) (r : Nat) (mo : Nat)  : mM := (X11_digits_l1 g r mo  mo 0 0 m).2
theorem kK_X11_digits (g : mG) (m : mM) (r : Nat) (mo : Nat)  : gK (X11_digits_m g m r mo ) = gK m := by
  unfold X11_digits_m
  repeat' split
  all_goals simp only [mm, kK_X11_digits_l1]
theorem kN_X11_digits (g : mG) (m : mM) (r : Nat) (mo : Nat)  : gN (X11_digits_m g m r mo ) = gN m := by
  unfold X11_digits_m
  repeat' split
  all_goals simp only [mm, kN_X11_digits_l1]
theorem kI_X11_digits (g : mG) (m : mM) (r : Nat) (mo : Nat)  (k a9 : Nat) (h0 : k ≠ 401) (h1 : k ≠ 404) : gI (X11_digits_m g m r mo ) k a9 = gI m k a9 := by
  unfold X11_digits_m
  repeat' split
  all_goals simp [mm, kI_X11_digits_l1, h0, h1]
theorem kJ_X11_digits (g : mG) (m : mM) (r : Nat) (mo : Nat)  : gJ (X11_digits_m g m r mo ) = gJ m := by
  unfold X11_digits_m
  repeat' split
  all_goals simp only [mm, kJ_X11_digits_l1]
theorem kR_X11_digits (g : mG) (m : mM) (r : Nat) (mo : Nat)  : gR (X11_digits_m g m r mo ) = gR m := by
  unfold X11_digits_m
  repeat' split
  all_goals simp only [mm, kR_X11_digits_l1]
theorem kA_X11_digits (g : mG) (m : mM) (r : Nat) (mo : Nat)  : gA (X11_digits_m g m r mo ) = gA m := by
  unfold X11_digits_m
  repeat' split
  all_goals simp only [mm, kA_X11_digits_l1]
theorem kQ_X11_digits (g : mG) (m : mM) (r : Nat) (mo : Nat)  : gQ (X11_digits_m g m r mo ) = gQ m := by
  unfold X11_digits_m
  repeat' split
  all_goals simp only [mm, kQ_X11_digits_l1]
theorem kL_X11_digits (g : mG) (m : mM) (r : Nat) (mo : Nat)  : gL (X11_digits_m g m r mo ) = gL m := by
  unfold X11_digits_m
  repeat' split
  all_goals simp only [mm, kL_X11_digits_l1]
theorem kD_X11_digits (g : mG) (m : mM) (r : Nat) (mo : Nat)  : gD (X11_digits_m g m r mo ) = gD m := by
  unfold X11_digits_m
  repeat' split
  all_goals simp only [mm, kD_X11_digits_l1]
set_option maxHeartbeats 4000000 in
set_option maxRecDepth 100000 in
theorem c_X11_digits {l : Launch} {g : mG} (hO : mO l g) (m : mM) (r : Nat) (mo : Nat)  (hs : SR m r) (hHe : okI (gI m 401 r) 60) (hEn : okI (gI m 402 r) 60) (hW0 : gI m 404 r = 0) (hmo : mo ≤ 2) : mT l g yX11_digits (.code yX11_digits cX11_digits 4 (Option.some FieldType.int)) 2 42 0 0 [.ref r, .int (nI mo)] m (fun u m' => u = some (.int (X11_digits_r g m r mo )) ∧ m' = X11_digits_m g m r mo ) nX := by
  refine mT_of hO (by decide) (Nat.le_of_ble_eq_true rfl) (fun x hX hZ => ?_)
  show mV g x m 0 0 0 [(0, .ref r), (1, .int (nI mo))] []
  refine v_iconst (v := 0) (pc := 0) hX dX11_digits_0 (by decide) ?_
  refine v_istore_n (pc := 1) hX dX11_digits_1 (by decide) rfl ?_
  refine v_iconst (v := 0) (pc := 2) hX dX11_digits_2 (by decide) ?_
  refine v_istore_n (pc := 3) hX dX11_digits_3 (by decide) rfl ?_
  refine mV_sub (lv' := [(0, .ref r), (1, .int (nI mo)), (2, .int 0), (3, .int (nI 0))]) ⟨rfl, rfl, rfl, rfl, trivial⟩ ?_
  exact lp_X11_digits_l1 hO r mo  hmo hX hZ mo 0 0 m hs hHe hEn hW0 (by omega) ⟨(by rw [X11_digits_r]), (by rw [X11_digits_m])⟩
