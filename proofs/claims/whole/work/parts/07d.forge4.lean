theorem nar_k98 {a : Int32} (h : a = 98) : narrow .char (.int a) = .int a ∧ fits .char (.int a) = true := by subst h; exact ⟨by decide, by decide⟩
theorem nar_k110 {a : Int32} (h : a = 110) : narrow .char (.int a) = .int a ∧ fits .char (.int a) = true := by subst h; exact ⟨by decide, by decide⟩
theorem nar_k119 {a : Int32} (h : a = 119) : narrow .char (.int a) = .int a ∧ fits .char (.int a) = true := by subst h; exact ⟨by decide, by decide⟩
def X3_newPiece_r (g : mG) (m : mM) (f : Nat) (a : Int32) (N : Nat) : Int32 := if a = 98 then (if (nI N) < 8 then (gI (X7_begin_m g ((sI m 165 f ((gI m 165 f) + 1))) (pa m f N) ((gI m 165 f) + 1) a) 165 f) else ((-4))) else (if a = 110 then (if (nI N) < 8 then (gI (X7_begin_m g ((sI m 165 f ((gI m 165 f) + 1))) (pa m f N) ((gI m 165 f) + 1) a) 165 f) else ((-4))) else (if a = 119 then (if (nI N) < 8 then (gI (X7_begin_m g ((sI m 165 f ((gI m 165 f) + 1))) (pa m f N) ((gI m 165 f) + 1) a) 165 f) else ((-4))) else ((-3))))
def X3_newPiece_m (g : mG) (m : mM) (f : Nat) (a : Int32) (N : Nat) : mM := if a = 98 then (if (nI N) < 8 then ((sI (X7_begin_m g ((sI m 165 f ((gI m 165 f) + 1))) (pa m f N) ((gI m 165 f) + 1) a) 163 f ((nI N) + 1))) else m) else (if a = 110 then (if (nI N) < 8 then ((sI (X7_begin_m g ((sI m 165 f ((gI m 165 f) + 1))) (pa m f N) ((gI m 165 f) + 1) a) 163 f ((nI N) + 1))) else m) else (if a = 119 then (if (nI N) < 8 then ((sI (X7_begin_m g ((sI m 165 f ((gI m 165 f) + 1))) (pa m f N) ((gI m 165 f) + 1) a) 163 f ((nI N) + 1))) else m) else m))
theorem kK_X3_newPiece (g : mG) (m : mM) (f : Nat) (a : Int32) (N : Nat) : gK (X3_newPiece_m g m f a N) = gK m := by
  unfold X3_newPiece_m
  repeat' split
  all_goals simp only [mm, kK_X7_begin]
theorem kN_X3_newPiece (g : mG) (m : mM) (f : Nat) (a : Int32) (N : Nat) : gN (X3_newPiece_m g m f a N) = gN m := by
  unfold X3_newPiece_m
  repeat' split
  all_goals simp only [mm, kN_X7_begin]
theorem kI_X3_newPiece (g : mG) (m : mM) (f : Nat) (a : Int32) (N : Nat) (k a9 : Nat) (h0 : k ≠ 163) (h1 : k ≠ 165) (h2 : k ≠ 288) (h3 : k ≠ 289) (h4 : k ≠ 290) (h5 : k ≠ 291) (h6 : k ≠ 292) (h7 : k ≠ 293) (h8 : k ≠ 294) : gI (X3_newPiece_m g m f a N) k a9 = gI m k a9 := by
  unfold X3_newPiece_m
  repeat' split
  all_goals simp [mm, kI_X7_begin, h0, h1, h2, h3, h4, h5, h6, h7, h8]
theorem kJ_X3_newPiece (g : mG) (m : mM) (f : Nat) (a : Int32) (N : Nat) : gJ (X3_newPiece_m g m f a N) = gJ m := by
  unfold X3_newPiece_m
  repeat' split
  all_goals simp only [mm, kJ_X7_begin]
theorem kR_X3_newPiece (g : mG) (m : mM) (f : Nat) (a : Int32) (N : Nat) (k a9 : Nat) (h0 : k ≠ 295) : gR (X3_newPiece_m g m f a N) k a9 = gR m k a9 := by
  unfold X3_newPiece_m
  repeat' split
  all_goals simp [mm, kR_X7_begin, h0]
theorem kA_X3_newPiece (g : mG) (m : mM) (f : Nat) (a : Int32) (N : Nat) : gA (X3_newPiece_m g m f a N) = gA m := by
  unfold X3_newPiece_m
  repeat' split
  all_goals simp only [mm, kA_X7_begin]
theorem kQ_X3_newPiece (g : mG) (m : mM) (f : Nat) (a : Int32) (N : Nat) : gQ (X3_newPiece_m g m f a N) = gQ m := by
  unfold X3_newPiece_m
  repeat' split
  all_goals simp only [mm, kQ_X7_begin]
theorem kL_X3_newPiece (g : mG) (m : mM) (f : Nat) (a : Int32) (N : Nat) : gL (X3_newPiece_m g m f a N) = gL m := by
  unfold X3_newPiece_m
  repeat' split
  all_goals simp only [mm, kL_X7_begin]
theorem kD_X3_newPiece (g : mG) (m : mM) (f : Nat) (a : Int32) (N : Nat) : gD (X3_newPiece_m g m f a N) = gD m := by
  unfold X3_newPiece_m
  repeat' split
  all_goals simp only [mm, kD_X7_begin]
theorem fr_X3_newPiece (g : mG) (m : mM) (f : Nat) (a : Int32) (N : Nat) (hs : SF m f) (hN8 : N ≤ 8) : Fr f (f + 16) m (X3_newPiece_m g m f a N) := by
  unfold X3_newPiece_m
  split
  ·
    split
    ·
      exact ((((((Fr.rf).I (by first | omega | (have h3_ := n8_lt' (by assumption) hN8; omega) | (have h3_ := n4_lt' (by assumption) hH4; omega)))).tr (fr_X7_begin g (sI m 165 f ((gI m 165 f) + 1)) (pa m f N) ((gI m 165 f) + 1) a ) (by have h1_ := (hs.lo (i := N) (by first | omega | (have h3_ := n8_lt' (by assumption) hN8; omega) | (have h3_ := n4_lt' (by assumption) hH4; omega))); omega) (by have h2_ := (hs.hi (i := N) (by first | omega | (have h3_ := n8_lt' (by assumption) hN8; omega) | (have h3_ := n4_lt' (by assumption) hH4; omega))); omega))).I (by first | omega | (have h3_ := n8_lt' (by assumption) hN8; omega) | (have h3_ := n4_lt' (by assumption) hH4; omega)))
    ·
      exact Fr.rf
  ·
    split
    ·
      split
      ·
        exact ((((((Fr.rf).I (by first | omega | (have h3_ := n8_lt' (by assumption) hN8; omega) | (have h3_ := n4_lt' (by assumption) hH4; omega)))).tr (fr_X7_begin g (sI m 165 f ((gI m 165 f) + 1)) (pa m f N) ((gI m 165 f) + 1) a ) (by have h1_ := (hs.lo (i := N) (by first | omega | (have h3_ := n8_lt' (by assumption) hN8; omega) | (have h3_ := n4_lt' (by assumption) hH4; omega))); omega) (by have h2_ := (hs.hi (i := N) (by first | omega | (have h3_ := n8_lt' (by assumption) hN8; omega) | (have h3_ := n4_lt' (by assumption) hH4; omega))); omega))).I (by first | omega | (have h3_ := n8_lt' (by assumption) hN8; omega) | (have h3_ := n4_lt' (by assumption) hH4; omega)))
      ·
        exact Fr.rf
    ·
      split
      ·
        split
        ·
          exact ((((((Fr.rf).I (by first | omega | (have h3_ := n8_lt' (by assumption) hN8; omega) | (have h3_ := n4_lt' (by assumption) hH4; omega)))).tr (fr_X7_begin g (sI m 165 f ((gI m 165 f) + 1)) (pa m f N) ((gI m 165 f) + 1) a ) (by have h1_ := (hs.lo (i := N) (by first | omega | (have h3_ := n8_lt' (by assumption) hN8; omega) | (have h3_ := n4_lt' (by assumption) hH4; omega))); omega) (by have h2_ := (hs.hi (i := N) (by first | omega | (have h3_ := n8_lt' (by assumption) hN8; omega) | (have h3_ := n4_lt' (by assumption) hH4; omega))); omega))).I (by first | omega | (have h3_ := n8_lt' (by assumption) hN8; omega) | (have h3_ := n4_lt' (by assumption) hH4; omega)))
        ·
          exact Fr.rf
      ·
        exact Fr.rf
set_option maxHeartbeats 4000000 in
set_option maxRecDepth 100000 in
theorem c_X3_newPiece {l : Launch} {g : mG} (hO : mO l g) (m : mM) (f : Nat) (a : Int32) (N : Nat) (hs : SF m f) (hN : gI m 163 f = nI N) (hN8 : N ≤ 8) : mT l g yX3_newPiece (.code yX3_newPiece cX3_newPiece 2 (Option.some FieldType.int)) 2 42 0 0 [.ref f, .int a] m (fun r m' => r = some (.int (X3_newPiece_r g m f a N)) ∧ m' = X3_newPiece_m g m f a N) nX := by
  refine mT_of hO (by decide) (Nat.le_of_ble_eq_true rfl) (fun x hX hZ => ?_)
  show mV g x m 0 0 0 [(0, .ref f), (1, .int a)] []
  refine v_iload_n (pc := 0) hX dX3_newPiece_0 rfl ?_
  refine v_bipush (v := 98) (pc := 1) hX dX3_newPiece_1 (by decide) ?_
  refine v_icmp_eq (tgt := 21) (pc := 3) hX dX3_newPiece_3 (by decide) (fun c1 => ?_) (fun c1 => ?_)
  ·
    refine v_aload_n (pc := 21) hX dX3_newPiece_21 rfl ?_
    refine v_get (v := .int (nI N)) (pc := 22) hX dX3_newPiece_22 hs.k (ci := 5) (r := vwC5) rfl 3 (by decide) wd_155 (congrArg Value.int hN) ?_
    refine v_bipush (v := 8) (pc := 25) hX dX3_newPiece_25 (by decide) ?_
    refine v_icmp_lt (tgt := 33) (pc := 27) hX dX3_newPiece_27 (by decide) (fun c2 => ?_) (fun c2 => ?_)
    ·
      refine v_aload_n (pc := 33) hX dX3_newPiece_33 rfl ?_
      refine v_dup (pc := 34) hX dX3_newPiece_34 rfl ?_
      refine v_get (v := .int (gI m 165 f)) (pc := 35) hX dX3_newPiece_35 hs.k (ci := 5) (r := vwC5) rfl 5 (by decide) wd_160 rfl ?_
      refine v_iconst (v := 1) (pc := 38) hX dX3_newPiece_38 (by decide) ?_
      refine v_iadd (pc := 39) hX dX3_newPiece_39 ?_
      refine v_put (m1 := (sI m 165 f ((gI m 165 f) + 1))) (pc := 40) hX dX3_newPiece_40 hs.k (ci := 5) (r := vwC5) rfl 5 (by decide) wd_160 rfl rfl rfl rfl ?_
      refine v_aload_n (pc := 43) hX dX3_newPiece_43 rfl ?_
      refine v_get (v := .ref (f + 2)) (pc := 44) hX dX3_newPiece_44 (by simp only [mm]; exact hs.k) (ci := 5) (r := vwC5) rfl 1 (by decide) wd_152 (fvR (by simp [mm, hs.r1])) ?_
      refine v_aload_n (pc := 47) hX dX3_newPiece_47 rfl ?_
      refine v_get (v := .int (nI N)) (pc := 48) hX dX3_newPiece_48 (by simp only [mm]; exact hs.k) (ci := 5) (r := vwC5) rfl 3 (by decide) wd_155 (congrArg Value.int (by simp [mm, hN])) ?_
      have hlt : N < 8 := n8_lt' (by assumption) hN8
      refine v_aaldR (q := pa m f N) (pc := 51) hX dX3_newPiece_51 (by simp only [mm]; exact hs.k2) (by decide) (by decide) rfl (by omega) (by decide) (by simp only [mm]; exact hs.qp (i := N) (by omega)) ?_
      refine v_aload_n (pc := 52) hX dX3_newPiece_52 rfl ?_
      refine v_get (v := .int ((gI m 165 f) + 1)) (pc := 53) hX dX3_newPiece_53 (by simp only [mm]; exact hs.k) (ci := 5) (r := vwC5) rfl 5 (by decide) wd_160 (by show Value.int _ = Value.int _; simp [mm]) ?_
      refine v_iload_n (pc := 56) hX dX3_newPiece_56 rfl ?_
      refine v_callV (z := yX7_begin) (pc := 57) hX dX3_newPiece_57 (c_X7_begin hO ((sI m 165 f ((gI m 165 f) + 1))) (pa m f N) ((gI m 165 f) + 1) a (by simp only [mm]; exact (hs.kp (i := N) (by omega))) (by first | exact nar_k98 (by assumption) | exact nar_k110 (by assumption) | exact nar_k119 (by assumption))) (by simp only [mm]; exact (hs.kp (i := N) (by omega))) rfl wd_971 wd_972 wd_973 wd_4 wd_974 ⟨by decide, by decide, (by decide +kernel : (parseMethodDescriptor yX7_begin.desc).map (fun d => d.parameters.length) = some 2)⟩ rfl (Nat.le_of_ble_eq_true rfl) ⟨⟨by decide, by decide⟩, by decide, by decide⟩ (fun E m9 h9 => h9.elim) (fun r9 m9 h9 => ?_)
      obtain ⟨rfl, h8⟩ := h9
      replace h8 := h8.symm
      subst h8
      show mV g x _ _ _ _ _ []
      refine v_aload_n (pc := 60) hX dX3_newPiece_60 rfl ?_
      refine v_dup (pc := 61) hX dX3_newPiece_61 rfl ?_
      refine v_get (v := .int (nI N)) (pc := 62) hX dX3_newPiece_62 (by simp only [mm, kK_X7_begin]; exact hs.k) (ci := 5) (r := vwC5) rfl 3 (by decide) wd_155 (congrArg Value.int (by simp [mm, kI_X7_begin, hN])) ?_
      refine v_iconst (v := 1) (pc := 65) hX dX3_newPiece_65 (by decide) ?_
      refine v_iadd (pc := 66) hX dX3_newPiece_66 ?_
      refine v_put (m1 := (sI (X7_begin_m g ((sI m 165 f ((gI m 165 f) + 1))) (pa m f N) ((gI m 165 f) + 1) a) 163 f ((nI N) + 1))) (pc := 67) hX dX3_newPiece_67 (by simp only [mm, kK_X7_begin]; exact hs.k) (ci := 5) (r := vwC5) rfl 3 (by decide) wd_155 rfl rfl rfl rfl ?_
      refine v_aload_n (pc := 70) hX dX3_newPiece_70 rfl ?_
      refine v_get (v := .int (gI (X7_begin_m g ((sI m 165 f ((gI m 165 f) + 1))) (pa m f N) ((gI m 165 f) + 1) a) 165 f)) (pc := 71) hX dX3_newPiece_71 (by simp only [mm, kK_X7_begin]; exact hs.k) (ci := 5) (r := vwC5) rfl 5 (by decide) wd_160 (by show Value.int _ = Value.int _; simp [mm]) ?_
      exact v_iret (pc := 74) hX hZ dX3_newPiece_74 (by decide) (by decide) ⟨(by rw [X3_newPiece_r, if_pos c1, if_pos c2]), (by rw [X3_newPiece_m, if_pos c1, if_pos c2])⟩
    ·
      refine v_bipush (v := (-4)) (pc := 30) hX dX3_newPiece_30 (by decide) ?_
      exact v_iret (pc := 32) hX hZ dX3_newPiece_32 (by decide) (by decide) ⟨(by rw [X3_newPiece_r, if_pos c1, if_neg c2]), (by rw [X3_newPiece_m, if_pos c1, if_neg c2])⟩
  ·
    refine v_iload_n (pc := 6) hX dX3_newPiece_6 rfl ?_
    refine v_bipush (v := 110) (pc := 7) hX dX3_newPiece_7 (by decide) ?_
    refine v_icmp_eq (tgt := 21) (pc := 9) hX dX3_newPiece_9 (by decide) (fun c3 => ?_) (fun c3 => ?_)
    ·
      refine v_aload_n (pc := 21) hX dX3_newPiece_21 rfl ?_
      refine v_get (v := .int (nI N)) (pc := 22) hX dX3_newPiece_22 hs.k (ci := 5) (r := vwC5) rfl 3 (by decide) wd_155 (congrArg Value.int hN) ?_
      refine v_bipush (v := 8) (pc := 25) hX dX3_newPiece_25 (by decide) ?_
      refine v_icmp_lt (tgt := 33) (pc := 27) hX dX3_newPiece_27 (by decide) (fun c4 => ?_) (fun c4 => ?_)
      ·
        refine v_aload_n (pc := 33) hX dX3_newPiece_33 rfl ?_
        refine v_dup (pc := 34) hX dX3_newPiece_34 rfl ?_
        refine v_get (v := .int (gI m 165 f)) (pc := 35) hX dX3_newPiece_35 hs.k (ci := 5) (r := vwC5) rfl 5 (by decide) wd_160 rfl ?_
        refine v_iconst (v := 1) (pc := 38) hX dX3_newPiece_38 (by decide) ?_
        refine v_iadd (pc := 39) hX dX3_newPiece_39 ?_
        refine v_put (m1 := (sI m 165 f ((gI m 165 f) + 1))) (pc := 40) hX dX3_newPiece_40 hs.k (ci := 5) (r := vwC5) rfl 5 (by decide) wd_160 rfl rfl rfl rfl ?_
        refine v_aload_n (pc := 43) hX dX3_newPiece_43 rfl ?_
        refine v_get (v := .ref (f + 2)) (pc := 44) hX dX3_newPiece_44 (by simp only [mm]; exact hs.k) (ci := 5) (r := vwC5) rfl 1 (by decide) wd_152 (fvR (by simp [mm, hs.r1])) ?_
        refine v_aload_n (pc := 47) hX dX3_newPiece_47 rfl ?_
        refine v_get (v := .int (nI N)) (pc := 48) hX dX3_newPiece_48 (by simp only [mm]; exact hs.k) (ci := 5) (r := vwC5) rfl 3 (by decide) wd_155 (congrArg Value.int (by simp [mm, hN])) ?_
        have hlt : N < 8 := n8_lt' (by assumption) hN8
        refine v_aaldR (q := pa m f N) (pc := 51) hX dX3_newPiece_51 (by simp only [mm]; exact hs.k2) (by decide) (by decide) rfl (by omega) (by decide) (by simp only [mm]; exact hs.qp (i := N) (by omega)) ?_
        refine v_aload_n (pc := 52) hX dX3_newPiece_52 rfl ?_
        refine v_get (v := .int ((gI m 165 f) + 1)) (pc := 53) hX dX3_newPiece_53 (by simp only [mm]; exact hs.k) (ci := 5) (r := vwC5) rfl 5 (by decide) wd_160 (by show Value.int _ = Value.int _; simp [mm]) ?_
        refine v_iload_n (pc := 56) hX dX3_newPiece_56 rfl ?_
        refine v_callV (z := yX7_begin) (pc := 57) hX dX3_newPiece_57 (c_X7_begin hO ((sI m 165 f ((gI m 165 f) + 1))) (pa m f N) ((gI m 165 f) + 1) a (by simp only [mm]; exact (hs.kp (i := N) (by omega))) (by first | exact nar_k98 (by assumption) | exact nar_k110 (by assumption) | exact nar_k119 (by assumption))) (by simp only [mm]; exact (hs.kp (i := N) (by omega))) rfl wd_971 wd_972 wd_973 wd_4 wd_974 ⟨by decide, by decide, (by decide +kernel : (parseMethodDescriptor yX7_begin.desc).map (fun d => d.parameters.length) = some 2)⟩ rfl (Nat.le_of_ble_eq_true rfl) ⟨⟨by decide, by decide⟩, by decide, by decide⟩ (fun E m9 h9 => h9.elim) (fun r9 m9 h9 => ?_)
        obtain ⟨rfl, h8⟩ := h9
        replace h8 := h8.symm
        subst h8
        show mV g x _ _ _ _ _ []
        refine v_aload_n (pc := 60) hX dX3_newPiece_60 rfl ?_
        refine v_dup (pc := 61) hX dX3_newPiece_61 rfl ?_
        refine v_get (v := .int (nI N)) (pc := 62) hX dX3_newPiece_62 (by simp only [mm, kK_X7_begin]; exact hs.k) (ci := 5) (r := vwC5) rfl 3 (by decide) wd_155 (congrArg Value.int (by simp [mm, kI_X7_begin, hN])) ?_
        refine v_iconst (v := 1) (pc := 65) hX dX3_newPiece_65 (by decide) ?_
        refine v_iadd (pc := 66) hX dX3_newPiece_66 ?_
        refine v_put (m1 := (sI (X7_begin_m g ((sI m 165 f ((gI m 165 f) + 1))) (pa m f N) ((gI m 165 f) + 1) a) 163 f ((nI N) + 1))) (pc := 67) hX dX3_newPiece_67 (by simp only [mm, kK_X7_begin]; exact hs.k) (ci := 5) (r := vwC5) rfl 3 (by decide) wd_155 rfl rfl rfl rfl ?_
        refine v_aload_n (pc := 70) hX dX3_newPiece_70 rfl ?_
        refine v_get (v := .int (gI (X7_begin_m g ((sI m 165 f ((gI m 165 f) + 1))) (pa m f N) ((gI m 165 f) + 1) a) 165 f)) (pc := 71) hX dX3_newPiece_71 (by simp only [mm, kK_X7_begin]; exact hs.k) (ci := 5) (r := vwC5) rfl 5 (by decide) wd_160 (by show Value.int _ = Value.int _; simp [mm]) ?_
        exact v_iret (pc := 74) hX hZ dX3_newPiece_74 (by decide) (by decide) ⟨(by rw [X3_newPiece_r, if_neg c1, if_pos c3, if_pos c4]), (by rw [X3_newPiece_m, if_neg c1, if_pos c3, if_pos c4])⟩
      ·
        refine v_bipush (v := (-4)) (pc := 30) hX dX3_newPiece_30 (by decide) ?_
        exact v_iret (pc := 32) hX hZ dX3_newPiece_32 (by decide) (by decide) ⟨(by rw [X3_newPiece_r, if_neg c1, if_pos c3, if_neg c4]), (by rw [X3_newPiece_m, if_neg c1, if_pos c3, if_neg c4])⟩
    ·
      refine v_iload_n (pc := 12) hX dX3_newPiece_12 rfl ?_
      refine v_bipush (v := 119) (pc := 13) hX dX3_newPiece_13 (by decide) ?_
      refine v_icmp_eq (tgt := 21) (pc := 15) hX dX3_newPiece_15 (by decide) (fun c5 => ?_) (fun c5 => ?_)
      ·
        refine v_aload_n (pc := 21) hX dX3_newPiece_21 rfl ?_
        refine v_get (v := .int (nI N)) (pc := 22) hX dX3_newPiece_22 hs.k (ci := 5) (r := vwC5) rfl 3 (by decide) wd_155 (congrArg Value.int hN) ?_
        refine v_bipush (v := 8) (pc := 25) hX dX3_newPiece_25 (by decide) ?_
        refine v_icmp_lt (tgt := 33) (pc := 27) hX dX3_newPiece_27 (by decide) (fun c6 => ?_) (fun c6 => ?_)
        ·
          refine v_aload_n (pc := 33) hX dX3_newPiece_33 rfl ?_
          refine v_dup (pc := 34) hX dX3_newPiece_34 rfl ?_
          refine v_get (v := .int (gI m 165 f)) (pc := 35) hX dX3_newPiece_35 hs.k (ci := 5) (r := vwC5) rfl 5 (by decide) wd_160 rfl ?_
          refine v_iconst (v := 1) (pc := 38) hX dX3_newPiece_38 (by decide) ?_
          refine v_iadd (pc := 39) hX dX3_newPiece_39 ?_
          refine v_put (m1 := (sI m 165 f ((gI m 165 f) + 1))) (pc := 40) hX dX3_newPiece_40 hs.k (ci := 5) (r := vwC5) rfl 5 (by decide) wd_160 rfl rfl rfl rfl ?_
          refine v_aload_n (pc := 43) hX dX3_newPiece_43 rfl ?_
          refine v_get (v := .ref (f + 2)) (pc := 44) hX dX3_newPiece_44 (by simp only [mm]; exact hs.k) (ci := 5) (r := vwC5) rfl 1 (by decide) wd_152 (fvR (by simp [mm, hs.r1])) ?_
          refine v_aload_n (pc := 47) hX dX3_newPiece_47 rfl ?_
          refine v_get (v := .int (nI N)) (pc := 48) hX dX3_newPiece_48 (by simp only [mm]; exact hs.k) (ci := 5) (r := vwC5) rfl 3 (by decide) wd_155 (congrArg Value.int (by simp [mm, hN])) ?_
          have hlt : N < 8 := n8_lt' (by assumption) hN8
          refine v_aaldR (q := pa m f N) (pc := 51) hX dX3_newPiece_51 (by simp only [mm]; exact hs.k2) (by decide) (by decide) rfl (by omega) (by decide) (by simp only [mm]; exact hs.qp (i := N) (by omega)) ?_
          refine v_aload_n (pc := 52) hX dX3_newPiece_52 rfl ?_
          refine v_get (v := .int ((gI m 165 f) + 1)) (pc := 53) hX dX3_newPiece_53 (by simp only [mm]; exact hs.k) (ci := 5) (r := vwC5) rfl 5 (by decide) wd_160 (by show Value.int _ = Value.int _; simp [mm]) ?_
          refine v_iload_n (pc := 56) hX dX3_newPiece_56 rfl ?_
          refine v_callV (z := yX7_begin) (pc := 57) hX dX3_newPiece_57 (c_X7_begin hO ((sI m 165 f ((gI m 165 f) + 1))) (pa m f N) ((gI m 165 f) + 1) a (by simp only [mm]; exact (hs.kp (i := N) (by omega))) (by first | exact nar_k98 (by assumption) | exact nar_k110 (by assumption) | exact nar_k119 (by assumption))) (by simp only [mm]; exact (hs.kp (i := N) (by omega))) rfl wd_971 wd_972 wd_973 wd_4 wd_974 ⟨by decide, by decide, (by decide +kernel : (parseMethodDescriptor yX7_begin.desc).map (fun d => d.parameters.length) = some 2)⟩ rfl (Nat.le_of_ble_eq_true rfl) ⟨⟨by decide, by decide⟩, by decide, by decide⟩ (fun E m9 h9 => h9.elim) (fun r9 m9 h9 => ?_)
          obtain ⟨rfl, h8⟩ := h9
          replace h8 := h8.symm
          subst h8
          show mV g x _ _ _ _ _ []
          refine v_aload_n (pc := 60) hX dX3_newPiece_60 rfl ?_
          refine v_dup (pc := 61) hX dX3_newPiece_61 rfl ?_
          refine v_get (v := .int (nI N)) (pc := 62) hX dX3_newPiece_62 (by simp only [mm, kK_X7_begin]; exact hs.k) (ci := 5) (r := vwC5) rfl 3 (by decide) wd_155 (congrArg Value.int (by simp [mm, kI_X7_begin, hN])) ?_
          refine v_iconst (v := 1) (pc := 65) hX dX3_newPiece_65 (by decide) ?_
          refine v_iadd (pc := 66) hX dX3_newPiece_66 ?_
          refine v_put (m1 := (sI (X7_begin_m g ((sI m 165 f ((gI m 165 f) + 1))) (pa m f N) ((gI m 165 f) + 1) a) 163 f ((nI N) + 1))) (pc := 67) hX dX3_newPiece_67 (by simp only [mm, kK_X7_begin]; exact hs.k) (ci := 5) (r := vwC5) rfl 3 (by decide) wd_155 rfl rfl rfl rfl ?_
          refine v_aload_n (pc := 70) hX dX3_newPiece_70 rfl ?_
          refine v_get (v := .int (gI (X7_begin_m g ((sI m 165 f ((gI m 165 f) + 1))) (pa m f N) ((gI m 165 f) + 1) a) 165 f)) (pc := 71) hX dX3_newPiece_71 (by simp only [mm, kK_X7_begin]; exact hs.k) (ci := 5) (r := vwC5) rfl 5 (by decide) wd_160 (by show Value.int _ = Value.int _; simp [mm]) ?_
          exact v_iret (pc := 74) hX hZ dX3_newPiece_74 (by decide) (by decide) ⟨(by rw [X3_newPiece_r, if_neg c1, if_neg c3, if_pos c5, if_pos c6]), (by rw [X3_newPiece_m, if_neg c1, if_neg c3, if_pos c5, if_pos c6])⟩
        ·
          refine v_bipush (v := (-4)) (pc := 30) hX dX3_newPiece_30 (by decide) ?_
          exact v_iret (pc := 32) hX hZ dX3_newPiece_32 (by decide) (by decide) ⟨(by rw [X3_newPiece_r, if_neg c1, if_neg c3, if_pos c5, if_neg c6]), (by rw [X3_newPiece_m, if_neg c1, if_neg c3, if_pos c5, if_neg c6])⟩
      ·
        refine v_bipush (v := (-3)) (pc := 18) hX dX3_newPiece_18 (by decide) ?_
        exact v_iret (pc := 20) hX hZ dX3_newPiece_20 (by decide) (by decide) ⟨(by rw [X3_newPiece_r, if_neg c1, if_neg c3, if_neg c5]), (by rw [X3_newPiece_m, if_neg c1, if_neg c3, if_neg c5])⟩
def X3_newHammer_r (g : mG) (m : mM) (f : Nat) (a : Int32) (H : Nat) : Int32 := if a < 1 then ((-3)) else (if a ≤ 9 then (if (nI H) < 4 then (((nI H) + 1) - 1) else ((-4))) else ((-3)))
def X3_newHammer_m (g : mG) (m : mM) (f : Nat) (a : Int32) (H : Nat) : mM := if a < 1 then m else (if a ≤ 9 then (if (nI H) < 4 then ((sI (X5_begin_m g m (f + 12 + H) a) 164 f ((nI H) + 1))) else m) else m)
theorem kK_X3_newHammer (g : mG) (m : mM) (f : Nat) (a : Int32) (H : Nat) : gK (X3_newHammer_m g m f a H) = gK m := by
  unfold X3_newHammer_m
  repeat' split
  all_goals simp only [mm, kK_X5_begin]
theorem kN_X3_newHammer (g : mG) (m : mM) (f : Nat) (a : Int32) (H : Nat) : gN (X3_newHammer_m g m f a H) = gN m := by
  unfold X3_newHammer_m
  repeat' split
  all_goals simp only [mm, kN_X5_begin]
theorem kI_X3_newHammer (g : mG) (m : mM) (f : Nat) (a : Int32) (H : Nat) (k a9 : Nat) (h0 : k ≠ 164) (h1 : k ≠ 224) (h2 : k ≠ 225) : gI (X3_newHammer_m g m f a H) k a9 = gI m k a9 := by
  unfold X3_newHammer_m
  repeat' split
  all_goals simp [mm, kI_X5_begin, h0, h1, h2]
theorem kJ_X3_newHammer (g : mG) (m : mM) (f : Nat) (a : Int32) (H : Nat) : gJ (X3_newHammer_m g m f a H) = gJ m := by
  unfold X3_newHammer_m
  repeat' split
  all_goals simp only [mm, kJ_X5_begin]
theorem kR_X3_newHammer (g : mG) (m : mM) (f : Nat) (a : Int32) (H : Nat) : gR (X3_newHammer_m g m f a H) = gR m := by
  unfold X3_newHammer_m
  repeat' split
  all_goals simp only [mm, kR_X5_begin]
theorem kA_X3_newHammer (g : mG) (m : mM) (f : Nat) (a : Int32) (H : Nat) : gA (X3_newHammer_m g m f a H) = gA m := by
  unfold X3_newHammer_m
  repeat' split
  all_goals simp only [mm, kA_X5_begin]
theorem kQ_X3_newHammer (g : mG) (m : mM) (f : Nat) (a : Int32) (H : Nat) : gQ (X3_newHammer_m g m f a H) = gQ m := by
  unfold X3_newHammer_m
  repeat' split
  all_goals simp only [mm, kQ_X5_begin]
theorem kL_X3_newHammer (g : mG) (m : mM) (f : Nat) (a : Int32) (H : Nat) : gL (X3_newHammer_m g m f a H) = gL m := by
  unfold X3_newHammer_m
  repeat' split
  all_goals simp only [mm, kL_X5_begin]
theorem kD_X3_newHammer (g : mG) (m : mM) (f : Nat) (a : Int32) (H : Nat) : gD (X3_newHammer_m g m f a H) = gD m := by
  unfold X3_newHammer_m
  repeat' split
  all_goals simp only [mm, kD_X5_begin]
theorem fr_X3_newHammer (g : mG) (m : mM) (f : Nat) (a : Int32) (H : Nat) (hs : SF m f) (hH4 : H ≤ 4) : Fr f (f + 16) m (X3_newHammer_m g m f a H) := by
  unfold X3_newHammer_m
  split
  ·
    exact Fr.rf
  ·
    split
    ·
      split
      ·
        exact ((((Fr.rf).tr (fr_X5_begin g m (f + 12 + H) a ) (by first | omega | (have h3_ := n8_lt' (by assumption) hN8; omega) | (have h3_ := n4_lt' (by assumption) hH4; omega)) (by first | omega | (have h3_ := n8_lt' (by assumption) hN8; omega) | (have h3_ := n4_lt' (by assumption) hH4; omega)))).I (by first | omega | (have h3_ := n8_lt' (by assumption) hN8; omega) | (have h3_ := n4_lt' (by assumption) hH4; omega)))
      ·
        exact Fr.rf
    ·
      exact Fr.rf
set_option maxHeartbeats 4000000 in
set_option maxRecDepth 100000 in
theorem c_X3_newHammer {l : Launch} {g : mG} (hO : mO l g) (m : mM) (f : Nat) (a : Int32) (H : Nat) (hs : SF m f) (hH : gI m 164 f = nI H) (hH4 : H ≤ 4) : mT l g yX3_newHammer (.code yX3_newHammer cX3_newHammer 2 (Option.some FieldType.int)) 2 41 0 0 [.ref f, .int a] m (fun r m' => r = some (.int (X3_newHammer_r g m f a H)) ∧ m' = X3_newHammer_m g m f a H) nX := by
  refine mT_of hO (by decide) (Nat.le_of_ble_eq_true rfl) (fun x hX hZ => ?_)
  show mV g x m 0 0 0 [(0, .ref f), (1, .int a)] []
  refine v_iload_n (pc := 0) hX dX3_newHammer_0 rfl ?_
  refine v_iconst (v := 1) (pc := 1) hX dX3_newHammer_1 (by decide) ?_
  refine v_icmp_lt (tgt := 11) (pc := 2) hX dX3_newHammer_2 (by decide) (fun c1 => ?_) (fun c1 => ?_)
  ·
    refine v_bipush (v := (-3)) (pc := 11) hX dX3_newHammer_11 (by decide) ?_
    exact v_iret (pc := 13) hX hZ dX3_newHammer_13 (by decide) (by decide) ⟨(by rw [X3_newHammer_r, if_pos c1]), (by rw [X3_newHammer_m, if_pos c1])⟩
  ·
    refine v_iload_n (pc := 5) hX dX3_newHammer_5 rfl ?_
    refine v_bipush (v := 9) (pc := 6) hX dX3_newHammer_6 (by decide) ?_
    refine v_icmp_le (tgt := 14) (pc := 8) hX dX3_newHammer_8 (by decide) (fun c2 => ?_) (fun c2 => ?_)
    ·
      refine v_aload_n (pc := 14) hX dX3_newHammer_14 rfl ?_
      refine v_get (v := .int (nI H)) (pc := 15) hX dX3_newHammer_15 hs.k (ci := 5) (r := vwC5) rfl 4 (by decide) wd_158 (congrArg Value.int hH) ?_
      refine v_iconst (v := 4) (pc := 18) hX dX3_newHammer_18 (by decide) ?_
      refine v_icmp_lt (tgt := 25) (pc := 19) hX dX3_newHammer_19 (by decide) (fun c3 => ?_) (fun c3 => ?_)
      ·
        have hlt : H < 4 := n4_lt' (by assumption) hH4
        refine v_aload_n (pc := 25) hX dX3_newHammer_25 rfl ?_
        refine v_get (v := .ref (f + 3)) (pc := 26) hX dX3_newHammer_26 hs.k (ci := 5) (r := vwC5) rfl 2 (by decide) wd_154 (fvR hs.r2) ?_
        refine v_aload_n (pc := 29) hX dX3_newHammer_29 rfl ?_
        refine v_get (v := .int (nI H)) (pc := 30) hX dX3_newHammer_30 hs.k (ci := 5) (r := vwC5) rfl 4 (by decide) wd_158 (congrArg Value.int hH) ?_
        refine v_aaldR (q := f + 12 + H) (pc := 33) hX dX3_newHammer_33 hs.k3 (by decide) (by decide) rfl (by omega) (by decide) (hs.qh (i := H) (by omega)) ?_
        refine v_iload_n (pc := 34) hX dX3_newHammer_34 rfl ?_
        refine v_callV (z := yX5_begin) (pc := 35) hX dX3_newHammer_35 (c_X5_begin hO m (f + 12 + H) a (by exact (hs.kh (i := H) (by omega)))) (hs.kh (i := H) (by omega)) rfl wd_986 wd_987 wd_988 wd_7 wd_989 ⟨by decide, by decide, (by decide +kernel : (parseMethodDescriptor yX5_begin.desc).map (fun d => d.parameters.length) = some 1)⟩ rfl (Nat.le_of_ble_eq_true rfl) ⟨⟨by decide, by decide⟩, by decide, by decide⟩ (fun E m9 h9 => h9.elim) (fun r9 m9 h9 => ?_)
        obtain ⟨rfl, h8⟩ := h9
        replace h8 := h8.symm
        subst h8
        show mV g x _ _ _ _ _ []
        refine v_aload_n (pc := 38) hX dX3_newHammer_38 rfl ?_
        refine v_dup (pc := 39) hX dX3_newHammer_39 rfl ?_
        refine v_get (v := .int (nI H)) (pc := 40) hX dX3_newHammer_40 (by simp only [mm, kK_X5_begin]; exact hs.k) (ci := 5) (r := vwC5) rfl 4 (by decide) wd_158 (congrArg Value.int (by simp [mm, kI_X5_begin, hH])) ?_
        refine v_iconst (v := 1) (pc := 43) hX dX3_newHammer_43 (by decide) ?_
        refine v_iadd (pc := 44) hX dX3_newHammer_44 ?_
        refine v_put (m1 := (sI (X5_begin_m g m (f + 12 + H) a) 164 f ((nI H) + 1))) (pc := 45) hX dX3_newHammer_45 (by simp only [mm, kK_X5_begin]; exact hs.k) (ci := 5) (r := vwC5) rfl 4 (by decide) wd_158 rfl rfl rfl rfl ?_
        refine v_aload_n (pc := 48) hX dX3_newHammer_48 rfl ?_
        refine v_get (v := .int ((nI H) + 1)) (pc := 49) hX dX3_newHammer_49 (by simp only [mm, kK_X5_begin]; exact hs.k) (ci := 5) (r := vwC5) rfl 4 (by decide) wd_158 (by show Value.int _ = Value.int _; simp [mm]) ?_
        refine v_iconst (v := 1) (pc := 52) hX dX3_newHammer_52 (by decide) ?_
        refine v_isub (pc := 53) hX dX3_newHammer_53 ?_
        exact v_iret (pc := 54) hX hZ dX3_newHammer_54 (by decide) (by decide) ⟨(by rw [X3_newHammer_r, if_neg c1, if_pos c2, if_pos c3]), (by rw [X3_newHammer_m, if_neg c1, if_pos c2, if_pos c3])⟩
      ·
        refine v_bipush (v := (-4)) (pc := 22) hX dX3_newHammer_22 (by decide) ?_
        exact v_iret (pc := 24) hX hZ dX3_newHammer_24 (by decide) (by decide) ⟨(by rw [X3_newHammer_r, if_neg c1, if_pos c2, if_neg c3]), (by rw [X3_newHammer_m, if_neg c1, if_pos c2, if_neg c3])⟩
    ·
      refine v_bipush (v := (-3)) (pc := 11) hX dX3_newHammer_11 (by decide) ?_
      exact v_iret (pc := 13) hX hZ dX3_newHammer_13 (by decide) (by decide) ⟨(by rw [X3_newHammer_r, if_neg c1, if_neg c2]), (by rw [X3_newHammer_m, if_neg c1, if_neg c2])⟩
theorem min_T {a : Int32} (h1 : ¬ a < 1) (h2 : a ≤ 60) : a = nI a.toNatClampNeg ∧ a.toNatClampNeg ≤ 60 := by
  have h0 : ¬ a < 0 := fun h => h1 (Int32.lt_of_lt_of_le h (by decide))
  obtain ⟨j, hj, rfl⟩ := nI_of2 (M := 60) (n := 60) (by decide) h0 h2
  rw [nI_clamp (by omega)]
  exact ⟨rfl, hj⟩
def X3_passMinutes_l1 (g : mG) (f : Nat) (a : Int32) (N : Nat) : Nat → Nat → mM → Int32 × mM
  | 0, j, m => (gI m 192 (f + 1), m)
  | n + 1, j, m => X3_passMinutes_l1 g f a N n (j + 1)  ((X3_passMinute_m g m f N))
set_option maxHeartbeats 4000000 in
set_option maxRecDepth 100000 in
theorem lp_X3_passMinutes_l1 {l : Launch} {g : mG} {x : mCx} (hO : mO l g) (f : Nat) (a : Int32) (N : Nat) (hN8 : N ≤ 8) (hT : a = nI a.toNatClampNeg ∧ a.toNatClampNeg ≤ 60) {pst : Option Value → mM → Prop} {XX : String → mM → Prop} (hX : mX l g x cX3_passMinutes yX3_passMinutes { frames := 4, cells := 0, slots := 0, locals := 82 } 3) (hZ : mZ g x (Option.some FieldType.int) [] pst XX 0 0) : ∀ (n j : Nat)  (m : mM) (hs : SF m f) (hN : gI m 163 f = nI N) (hj : j + n = a.toNatClampNeg) (hp : pst (some (.int ((X3_passMinutes_l1 g f a N n j  m).1))) ((X3_passMinutes_l1 g f a N n j  m).2)), mV g x m 0 0 16 [(0, .ref f), (1, .int a), (2, .int (nI j))] [] := by
  intro n
  induction n with
  | zero =>
    intro j  m hs hN hj hp
    refine v_iload_n (pc := 16) hX dX3_passMinutes_16 rfl ?_
    refine v_iload_n (pc := 17) hX dX3_passMinutes_17 rfl ?_
    refine v_icmp_ge (tgt := 31) (pc := 18) hX dX3_passMinutes_18 (by decide) (fun c1 => ?_) (fun c1 => ?_)
    ·
      refine v_aload_n (pc := 31) hX dX3_passMinutes_31 rfl ?_
      refine v_get (v := .ref (f + 1)) (pc := 32) hX dX3_passMinutes_32 hs.k (ci := 5) (r := vwC5) rfl 0 (by decide) wd_149 (fvR hs.r0) ?_
      refine v_getN (v := .int (gI m 192 (f + 1))) (pc := 35) hX dX3_passMinutes_35 hs.k1 (ci := 6) (r := vwC6) rfl 0 (by decide) wd_59 rfl ?_
      exact v_iret (pc := 38) hX hZ dX3_passMinutes_38 (by decide) (by decide) (by rw [X3_passMinutes_l1] at hp; exact hp)
    · exact absurd (by rw [hT.1]; exact nI_le (by omega) (by have := hT.2; omega)) c1
  | succ n ih =>
    intro j  m hs hN hj hp
    refine v_iload_n (pc := 16) hX dX3_passMinutes_16 rfl ?_
    refine v_iload_n (pc := 17) hX dX3_passMinutes_17 rfl ?_
    refine v_icmp_ge (tgt := 31) (pc := 18) hX dX3_passMinutes_18 (by decide) (fun c1 => ?_) (fun c1 => ?_)
    · exact absurd c1 (by rw [hT.1]; exact nI_ge (by omega) (by have := hT.2; omega))
    ·
      refine v_aload_n (pc := 21) hX dX3_passMinutes_21 rfl ?_
      refine v_callV (z := yX3_passMinute) (pc := 22) hX dX3_passMinutes_22 (c_X3_passMinute hO m f N hs hN hN8) hs.k rfl wd_959 wd_433 wd_434 wd_2 wd_435 ⟨by decide, by decide, (by decide +kernel : (parseMethodDescriptor yX3_passMinute.desc).map (fun d => d.parameters.length) = some 0)⟩ rfl (Nat.le_of_ble_eq_true rfl) ⟨⟨by decide, by decide⟩, by decide, by decide⟩ (fun E m9 h9 => h9.elim) (fun r9 m9 h9 => ?_)
      obtain ⟨rfl, h8⟩ := h9
      replace h8 := h8.symm
      subst h8
      show mV g x _ _ _ _ _ []
      refine v_iinc (w := nI (j + 1)) (pc := 25) hX dX3_passMinutes_25 rfl (nI_1 _) (by decide) rfl ?_
      refine v_goto (tgt := 16) (pc := 28) hX dX3_passMinutes_28 (by decide) ?_
      refine mV_sub (lv' := [(0, .ref f), (1, .int a), (2, .int (nI (j + 1)))]) ⟨rfl, rfl, rfl, trivial⟩ ?_
      exact ih (j + 1)  ((X3_passMinute_m g m f N)) (hs.to (by simp only [mm, kK_X3_passMinute]) (by simp [mm, kR_X3_passMinute]) (by simp [mm, kR_X3_passMinute]) (by simp [mm, kR_X3_passMinute]) (by simp only [mm, kQ_X3_passMinute])) (by simp [mm, kI_X3_passMinute, hN]) (by omega) (by rw [X3_passMinutes_l1] at hp; exact hp)
theorem kK_X3_passMinutes_l1 (g : mG) (f : Nat) (a : Int32) (N : Nat) : ∀ (n j : Nat)  (m : mM), gK ((X3_passMinutes_l1 g f a N n j  m).2) = gK m := by
  intro n
  induction n with
  | zero =>
    intro j  m
    rw [X3_passMinutes_l1]
    repeat' split
    all_goals simp only [mm, kK_X3_passMinute]
  | succ n ih =>
    intro j  m
    rw [X3_passMinutes_l1]
    repeat' split
    all_goals simp only [mm, ih, kK_X3_passMinute]
theorem kN_X3_passMinutes_l1 (g : mG) (f : Nat) (a : Int32) (N : Nat) : ∀ (n j : Nat)  (m : mM), gN ((X3_passMinutes_l1 g f a N n j  m).2) = gN m := by
  intro n
  induction n with
  | zero =>
    intro j  m
    rw [X3_passMinutes_l1]
    repeat' split
    all_goals simp only [mm, kN_X3_passMinute]
  | succ n ih =>
    intro j  m
    rw [X3_passMinutes_l1]
    repeat' split
    all_goals simp only [mm, ih, kN_X3_passMinute]
theorem kI_X3_passMinutes_l1 (g : mG) (f : Nat) (a : Int32) (N : Nat) (k a9 : Nat) (h0 : k ≠ 166) (h1 : k ≠ 192) (h2 : k ≠ 193) (h3 : k ≠ 194) (h4 : k ≠ 290) (h5 : k ≠ 292) (h6 : k ≠ 294) : ∀ (n j : Nat)  (m : mM), gI ((X3_passMinutes_l1 g f a N n j  m).2) k a9 = gI m k a9 := by
  intro n
  induction n with
  | zero =>
    intro j  m
    rw [X3_passMinutes_l1]
    repeat' split
    all_goals simp [mm, kI_X3_passMinute, h0, h1, h2, h3, h4, h5, h6]
  | succ n ih =>
    intro j  m
    rw [X3_passMinutes_l1]
    repeat' split
    all_goals simp [mm, ih, kI_X3_passMinute, h0, h1, h2, h3, h4, h5, h6]
theorem kJ_X3_passMinutes_l1 (g : mG) (f : Nat) (a : Int32) (N : Nat) (k a9 : Nat) (h0 : k ≠ 195) : ∀ (n j : Nat)  (m : mM), gJ ((X3_passMinutes_l1 g f a N n j  m).2) k a9 = gJ m k a9 := by
  intro n
  induction n with
  | zero =>
    intro j  m
    rw [X3_passMinutes_l1]
    repeat' split
    all_goals simp [mm, kJ_X3_passMinute, h0]
  | succ n ih =>
    intro j  m
    rw [X3_passMinutes_l1]
    repeat' split
    all_goals simp [mm, ih, kJ_X3_passMinute, h0]
theorem kR_X3_passMinutes_l1 (g : mG) (f : Nat) (a : Int32) (N : Nat) (k a9 : Nat) (h0 : k ≠ 295) : ∀ (n j : Nat)  (m : mM), gR ((X3_passMinutes_l1 g f a N n j  m).2) k a9 = gR m k a9 := by
  intro n
  induction n with
  | zero =>
    intro j  m
    rw [X3_passMinutes_l1]
    repeat' split
    all_goals simp [mm, kR_X3_passMinute, h0]
  | succ n ih =>
    intro j  m
    rw [X3_passMinutes_l1]
    repeat' split
    all_goals simp [mm, ih, kR_X3_passMinute, h0]
theorem kA_X3_passMinutes_l1 (g : mG) (f : Nat) (a : Int32) (N : Nat) : ∀ (n j : Nat)  (m : mM), gA ((X3_passMinutes_l1 g f a N n j  m).2) = gA m := by
  intro n
  induction n with
  | zero =>
    intro j  m
    rw [X3_passMinutes_l1]
    repeat' split
    all_goals simp only [mm, kA_X3_passMinute]
  | succ n ih =>
    intro j  m
    rw [X3_passMinutes_l1]
    repeat' split
    all_goals simp only [mm, ih, kA_X3_passMinute]
theorem kQ_X3_passMinutes_l1 (g : mG) (f : Nat) (a : Int32) (N : Nat) : ∀ (n j : Nat)  (m : mM), gQ ((X3_passMinutes_l1 g f a N n j  m).2) = gQ m := by
  intro n
  induction n with
  | zero =>
    intro j  m
    rw [X3_passMinutes_l1]
    repeat' split
    all_goals simp only [mm, kQ_X3_passMinute]
  | succ n ih =>
    intro j  m
    rw [X3_passMinutes_l1]
    repeat' split
    all_goals simp only [mm, ih, kQ_X3_passMinute]
theorem kL_X3_passMinutes_l1 (g : mG) (f : Nat) (a : Int32) (N : Nat) : ∀ (n j : Nat)  (m : mM), gL ((X3_passMinutes_l1 g f a N n j  m).2) = gL m := by
  intro n
  induction n with
  | zero =>
    intro j  m
    rw [X3_passMinutes_l1]
    repeat' split
    all_goals simp only [mm, kL_X3_passMinute]
  | succ n ih =>
    intro j  m
    rw [X3_passMinutes_l1]
    repeat' split
    all_goals simp only [mm, ih, kL_X3_passMinute]
theorem kD_X3_passMinutes_l1 (g : mG) (f : Nat) (a : Int32) (N : Nat) : ∀ (n j : Nat)  (m : mM), gD ((X3_passMinutes_l1 g f a N n j  m).2) = gD m := by
  intro n
  induction n with
  | zero =>
    intro j  m
    rw [X3_passMinutes_l1]
    repeat' split
    all_goals simp only [mm, kD_X3_passMinute]
  | succ n ih =>
    intro j  m
    rw [X3_passMinutes_l1]
    repeat' split
    all_goals simp only [mm, ih, kD_X3_passMinute]
theorem fr_X3_passMinutes_l1 (g : mG) (f : Nat) (a : Int32) (N : Nat) (hN8 : N ≤ 8) : ∀ (n j : Nat)  (m : mM) (hs : SF m f), j + n = a.toNatClampNeg → Fr f (f + 16) m ((X3_passMinutes_l1 g f a N n j  m).2) := by
  intro n
  induction n with
  | zero =>
    intro j  m hs hj
    rw [X3_passMinutes_l1]
    exact Fr.rf
  | succ n ih =>
    intro j  m hs hj
    rw [X3_passMinutes_l1]
    exact (((Fr.rf).tr (fr_X3_passMinute g m f N hs hN8) (Nat.le_refl _) (Nat.le_refl _))).tr (ih (j + 1)  (X3_passMinute_m g m f N) (hs.to (by simp only [mm, kK_X3_passMinute]) (by simp [mm, kR_X3_passMinute]) (by simp [mm, kR_X3_passMinute]) (by simp [mm, kR_X3_passMinute]) (by simp only [mm, kQ_X3_passMinute])) (by omega)) (Nat.le_refl _) (Nat.le_refl _)
def X3_passMinutes_r (g : mG) (m : mM) (f : Nat) (a : Int32) (N : Nat) : Int32 := (if a < 1 then (((-3), m)) else (if a ≤ 60 then (X3_passMinutes_l1 g f a N a.toNatClampNeg 0  m) else (((-3), m)))).1
def X3_passMinutes_m (g : mG) (m : mM) (f : Nat) (a : Int32) (N : Nat) : mM := (if a < 1 then (((-3), m)) else (if a ≤ 60 then (X3_passMinutes_l1 g f a N a.toNatClampNeg 0  m) else (((-3), m)))).2
theorem kK_X3_passMinutes (g : mG) (m : mM) (f : Nat) (a : Int32) (N : Nat) : gK (X3_passMinutes_m g m f a N) = gK m := by
  unfold X3_passMinutes_m
  repeat' split
  all_goals simp only [mm, kK_X3_passMinutes_l1]
theorem kN_X3_passMinutes (g : mG) (m : mM) (f : Nat) (a : Int32) (N : Nat) : gN (X3_passMinutes_m g m f a N) = gN m := by
  unfold X3_passMinutes_m
  repeat' split
  all_goals simp only [mm, kN_X3_passMinutes_l1]
theorem kI_X3_passMinutes (g : mG) (m : mM) (f : Nat) (a : Int32) (N : Nat) (k a9 : Nat) (h0 : k ≠ 166) (h1 : k ≠ 192) (h2 : k ≠ 193) (h3 : k ≠ 194) (h4 : k ≠ 290) (h5 : k ≠ 292) (h6 : k ≠ 294) : gI (X3_passMinutes_m g m f a N) k a9 = gI m k a9 := by
  unfold X3_passMinutes_m
  repeat' split
  all_goals simp [mm, kI_X3_passMinutes_l1, h0, h1, h2, h3, h4, h5, h6]
theorem kJ_X3_passMinutes (g : mG) (m : mM) (f : Nat) (a : Int32) (N : Nat) (k a9 : Nat) (h0 : k ≠ 195) : gJ (X3_passMinutes_m g m f a N) k a9 = gJ m k a9 := by
  unfold X3_passMinutes_m
  repeat' split
  all_goals simp [mm, kJ_X3_passMinutes_l1, h0]
theorem kR_X3_passMinutes (g : mG) (m : mM) (f : Nat) (a : Int32) (N : Nat) (k a9 : Nat) (h0 : k ≠ 295) : gR (X3_passMinutes_m g m f a N) k a9 = gR m k a9 := by
  unfold X3_passMinutes_m
  repeat' split
  all_goals simp [mm, kR_X3_passMinutes_l1, h0]
theorem kA_X3_passMinutes (g : mG) (m : mM) (f : Nat) (a : Int32) (N : Nat) : gA (X3_passMinutes_m g m f a N) = gA m := by
  unfold X3_passMinutes_m
  repeat' split
  all_goals simp only [mm, kA_X3_passMinutes_l1]
theorem kQ_X3_passMinutes (g : mG) (m : mM) (f : Nat) (a : Int32) (N : Nat) : gQ (X3_passMinutes_m g m f a N) = gQ m := by
  unfold X3_passMinutes_m
  repeat' split
  all_goals simp only [mm, kQ_X3_passMinutes_l1]
theorem kL_X3_passMinutes (g : mG) (m : mM) (f : Nat) (a : Int32) (N : Nat) : gL (X3_passMinutes_m g m f a N) = gL m := by
  unfold X3_passMinutes_m
  repeat' split
  all_goals simp only [mm, kL_X3_passMinutes_l1]
theorem kD_X3_passMinutes (g : mG) (m : mM) (f : Nat) (a : Int32) (N : Nat) : gD (X3_passMinutes_m g m f a N) = gD m := by
  unfold X3_passMinutes_m
  repeat' split
  all_goals simp only [mm, kD_X3_passMinutes_l1]
theorem fr_X3_passMinutes (g : mG) (m : mM) (f : Nat) (a : Int32) (N : Nat) (hs : SF m f) (hN8 : N ≤ 8) : Fr f (f + 16) m (X3_passMinutes_m g m f a N) := by
  unfold X3_passMinutes_m
  split
  ·
    exact Fr.rf
  ·
    split
    ·
      exact (Fr.rf).tr (fr_X3_passMinutes_l1 g f a N hN8 a.toNatClampNeg 0  m hs (by omega)) (Nat.le_refl _) (Nat.le_refl _)
    ·
      exact Fr.rf
set_option maxHeartbeats 4000000 in
set_option maxRecDepth 100000 in
theorem c_X3_passMinutes {l : Launch} {g : mG} (hO : mO l g) (m : mM) (f : Nat) (a : Int32) (N : Nat) (hs : SF m f) (hN : gI m 163 f = nI N) (hN8 : N ≤ 8) : mT l g yX3_passMinutes (.code yX3_passMinutes cX3_passMinutes 3 (Option.some FieldType.int)) 4 82 0 0 [.ref f, .int a] m (fun r m' => r = some (.int (X3_passMinutes_r g m f a N)) ∧ m' = X3_passMinutes_m g m f a N) nX := by
  refine mT_of hO (by decide) (Nat.le_of_ble_eq_true rfl) (fun x hX hZ => ?_)
  show mV g x m 0 0 0 [(0, .ref f), (1, .int a)] []
  refine v_iload_n (pc := 0) hX dX3_passMinutes_0 rfl ?_
  refine v_iconst (v := 1) (pc := 1) hX dX3_passMinutes_1 (by decide) ?_
  refine v_icmp_lt (tgt := 11) (pc := 2) hX dX3_passMinutes_2 (by decide) (fun c1 => ?_) (fun c1 => ?_)
  ·
    refine v_bipush (v := (-3)) (pc := 11) hX dX3_passMinutes_11 (by decide) ?_
    exact v_iret (pc := 13) hX hZ dX3_passMinutes_13 (by decide) (by decide) ⟨(by rw [X3_passMinutes_r, if_pos c1]), (by rw [X3_passMinutes_m, if_pos c1])⟩
  ·
    refine v_iload_n (pc := 5) hX dX3_passMinutes_5 rfl ?_
    refine v_bipush (v := 60) (pc := 6) hX dX3_passMinutes_6 (by decide) ?_
    refine v_icmp_le (tgt := 14) (pc := 8) hX dX3_passMinutes_8 (by decide) (fun c2 => ?_) (fun c2 => ?_)
    ·
      have hT := min_T (a := a) (by assumption) (by assumption)
      refine v_iconst (v := 0) (pc := 14) hX dX3_passMinutes_14 (by decide) ?_
      refine v_istore_n (pc := 15) hX dX3_passMinutes_15 (by decide) rfl ?_
      refine mV_sub (lv' := [(0, .ref f), (1, .int a), (2, .int (nI 0))]) ⟨rfl, rfl, rfl, trivial⟩ ?_
      exact lp_X3_passMinutes_l1 hO f a N hN8 hT hX hZ a.toNatClampNeg 0  m hs hN (by omega) ⟨(by rw [X3_passMinutes_r, if_neg c1, if_pos c2]), (by rw [X3_passMinutes_m, if_neg c1, if_pos c2])⟩
    ·
      refine v_bipush (v := (-3)) (pc := 11) hX dX3_passMinutes_11 (by decide) ?_
      exact v_iret (pc := 13) hX hZ dX3_passMinutes_13 (by decide) (by decide) ⟨(by rw [X3_passMinutes_r, if_neg c1, if_neg c2]), (by rw [X3_passMinutes_m, if_neg c1, if_neg c2])⟩
