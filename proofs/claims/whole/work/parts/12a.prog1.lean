/-! PROGRAM at p: text p+1, commands p+2, arguments p+3, their rows p+4 .. p+15 -/
def SP (m : mM) (p : Nat) : Prop := gK m p = some (.inl 10) ∧ gR m 320 p = some (p + 1) ∧ gR m 321 p = some (p + 2) ∧ gR m 322 p = some (p + 3) ∧ gK m (p + 1) = some (.inr (1, 60)) ∧ gK m (p + 2) = some (.inr (9, 12)) ∧ gK m (p + 3) = some (.inr (10, 12)) ∧ (∀ i, i < 12 → gK m (p + 4 + i) = some (.inr (0, 4))) ∧ ∀ i, i < 12 → gQ m (p + 3) i = some (p + 4 + i)
section
variable {m m1 : mM} {p i : Nat}
theorem SP.k (s : SP m p) : gK m p = some (.inl 10) := s.1
theorem SP.r0 (s : SP m p) : gR m 320 p = some (p + 1) := s.2.1
theorem SP.r1 (s : SP m p) : gR m 321 p = some (p + 2) := s.2.2.1
theorem SP.r2 (s : SP m p) : gR m 322 p = some (p + 3) := s.2.2.2.1
theorem SP.k1 (s : SP m p) : gK m (p + 1) = some (.inr (1, 60)) := s.2.2.2.2.1
theorem SP.k2 (s : SP m p) : gK m (p + 2) = some (.inr (9, 12)) := s.2.2.2.2.2.1
theorem SP.k3 (s : SP m p) : gK m (p + 3) = some (.inr (10, 12)) := s.2.2.2.2.2.2.1
theorem SP.kr (s : SP m p) (h : i < 12) : gK m (p + 4 + i) = some (.inr (0, 4)) := s.2.2.2.2.2.2.2.1 i h
theorem SP.qr (s : SP m p) (h : i < 12) : gQ m (p + 3) i = some (p + 4 + i) := s.2.2.2.2.2.2.2.2 i h
theorem SP.to (s : SP m p) (hk : gK m1 = gK m) (hr : ∀ k, k ≠ 295 → ∀ a, gR m1 k a = gR m k a) (hq : ∀ i, gQ m1 (p + 3) i = gQ m (p + 3) i) : SP m1 p :=
  ⟨by rw [hk]; exact s.k, by rw [hr _ (by decide)]; exact s.r0, by rw [hr _ (by decide)]; exact s.r1, by rw [hr _ (by decide)]; exact s.r2, by rw [hk]; exact s.k1, by rw [hk]; exact s.k2, by rw [hk]; exact s.k3, fun i hi => by rw [hk]; exact s.kr hi, fun i hi => by rw [hq]; exact s.qr hi⟩
end
/-- a number from 0 to B -/
def okI (x : Int32) (B : Nat) : Prop := x = nI x.toNatClampNeg ∧ x.toNatClampNeg ≤ B
theorem okI_nI {n B : Nat} (h : n ≤ B) (hB : B < 2 ^ 31) : okI (nI n) B := by
  unfold okI
  rw [nI_clamp (by omega)]
  exact ⟨rfl, h⟩
theorem okI_lt {x : Int32} {B n : Nat} (h : okI x B) (hn : n < 2 ^ 31) (hB : B < 2 ^ 31) (c : ¬ nI n ≤ x) : x.toNatClampNeg < n := by
  obtain ⟨h1, h2⟩ := h
  rcases Nat.lt_or_ge x.toNatClampNeg n with h3 | h3
  · exact h3
  · refine absurd ?_ c
    rw [h1]
    exact nI_le h3 (by omega)
theorem okI_lt2 {x y : Int32} {B : Nat} (h : okI x B) (h' : okI y B) (hB : B < 2 ^ 31) (c : ¬ y ≤ x) : x.toNatClampNeg < y.toNatClampNeg := by
  rw [h'.1] at c
  exact okI_lt h (by have := h'.2; omega) hB c
theorem okI_up {x y : Int32} {B : Nat} (h : okI x B) (h' : okI y B) (hB : B < 2 ^ 31) (c : ¬ y ≤ x) : okI (x + 1) B := by
  have h3 := okI_lt2 h h' hB c
  have e : x + 1 = nI (x.toNatClampNeg + 1) := by
    rw [← nI_1, ← h.1]
  rw [e]
  exact okI_nI (by have := h'.2; omega) hB
theorem v_aaldAR {l : Launch} {g : mG} {x : mCx} {m : mM} {cc : ByteArray} {y : MethodName} {rm : Room} {nL : Nat} {ce sl pc : Nat} {lv : List (Nat × Value)} {st : List Value} {a n j q : Nat} {i : Int32} (hX : mX l g x cc y rm nL) (hdg : decode cc pc = .ok (.aaload, 1)) (hκ : gK m a = some (.inr (10, n))) (hi : i = nI j) (hj : j < n) (hn : n < 2 ^ 31) (hv : gQ m a j = some q) (kk : mV g x m ce sl (pc + 1) lv (.ref q :: st)) : mV g x m ce sl pc lv (.int i :: .ref a :: st) :=
  v_aaldA (v := some q) hX hdg hκ hi hj hn hv kk
def X8_isFull_r (g : mG) (m : mM) (p : Nat)  : Int32 := if (gI m 323 p) < 60 then 0 else 1

set_option maxHeartbeats 4000000 in
set_option maxRecDepth 100000 in
theorem c_X8_isFull {l : Launch} {g : mG} (hO : mO l g) (m : mM) (p : Nat)  (hs : SP m p) : mT l g yX8_isFull (.code yX8_isFull cX8_isFull 1 (Option.some FieldType.boolean)) 1 20 0 0 [.ref p] m (fun r m' => r = some (.int (X8_isFull_r g m p )) ∧ m' = m) nX := by
  refine mT_of hO (by decide) (Nat.le_of_ble_eq_true rfl) (fun x hX hZ => ?_)
  show mV g x m 0 0 0 [(0, .ref p)] []
  refine v_aload_n (pc := 0) hX dX8_isFull_0 rfl ?_
  refine v_get (v := .int (gI m 323 p)) (pc := 1) hX dX8_isFull_1 hs.k (ci := 10) (r := vwC10) rfl 3 (by decide) wd_254 rfl ?_
  refine v_bipush (v := 60) (pc := 4) hX dX8_isFull_4 (by decide) ?_
  refine v_icmp_lt (tgt := 13) (pc := 6) hX dX8_isFull_6 (by decide) (fun c1 => ?_) (fun c1 => ?_)
  ·
    refine v_iconst (v := 0) (pc := 13) hX dX8_isFull_13 (by decide) ?_
    exact v_zret (pc := 14) hX hZ dX8_isFull_14 rfl (by decide) (by decide) ⟨(by rw [X8_isFull_r, if_pos c1]), rfl⟩
  ·
    refine v_iconst (v := 1) (pc := 9) hX dX8_isFull_9 (by decide) ?_
    refine v_goto (tgt := 14) (pc := 10) hX dX8_isFull_10 (by decide) ?_
    exact v_zret (pc := 14) hX hZ dX8_isFull_14 rfl (by decide) (by decide) ⟨(by rw [X8_isFull_r, if_neg c1]), rfl⟩
def X8_empty_m (g : mG) (m : mM) (p : Nat)  : mM := (sI m 323 p 0)
theorem kK_X8_empty (g : mG) (m : mM) (p : Nat)  : gK (X8_empty_m g m p ) = gK m := by
  unfold X8_empty_m
  repeat' split
  all_goals simp only [mm]
theorem kN_X8_empty (g : mG) (m : mM) (p : Nat)  : gN (X8_empty_m g m p ) = gN m := by
  unfold X8_empty_m
  repeat' split
  all_goals simp only [mm]
theorem kI_X8_empty (g : mG) (m : mM) (p : Nat)  (k a9 : Nat) (h0 : k ≠ 323) : gI (X8_empty_m g m p ) k a9 = gI m k a9 := by
  unfold X8_empty_m
  repeat' split
  all_goals simp [mm, h0]
theorem kJ_X8_empty (g : mG) (m : mM) (p : Nat)  : gJ (X8_empty_m g m p ) = gJ m := by
  unfold X8_empty_m
  repeat' split
  all_goals simp only [mm]
theorem kR_X8_empty (g : mG) (m : mM) (p : Nat)  : gR (X8_empty_m g m p ) = gR m := by
  unfold X8_empty_m
  repeat' split
  all_goals simp only [mm]
theorem kA_X8_empty (g : mG) (m : mM) (p : Nat)  : gA (X8_empty_m g m p ) = gA m := by
  unfold X8_empty_m
  repeat' split
  all_goals simp only [mm]
theorem kQ_X8_empty (g : mG) (m : mM) (p : Nat)  : gQ (X8_empty_m g m p ) = gQ m := by
  unfold X8_empty_m
  repeat' split
  all_goals simp only [mm]
theorem kL_X8_empty (g : mG) (m : mM) (p : Nat)  : gL (X8_empty_m g m p ) = gL m := by
  unfold X8_empty_m
  repeat' split
  all_goals simp only [mm]
theorem kD_X8_empty (g : mG) (m : mM) (p : Nat)  : gD (X8_empty_m g m p ) = gD m := by
  unfold X8_empty_m
  repeat' split
  all_goals simp only [mm]
set_option maxHeartbeats 4000000 in
set_option maxRecDepth 100000 in
theorem c_X8_empty {l : Launch} {g : mG} (hO : mO l g) (m : mM) (p : Nat)  (hs : SP m p) : mT l g yX8_empty (.code yX8_empty cX8_empty 1 (Option.none : Option FieldType)) 1 20 0 0 [.ref p] m (fun r m' => r = none ∧ m' = X8_empty_m g m p ) nX := by
  refine mT_of hO (by decide) (Nat.le_of_ble_eq_true rfl) (fun x hX hZ => ?_)
  show mV g x m 0 0 0 [(0, .ref p)] []
  refine v_aload_n (pc := 0) hX dX8_empty_0 rfl ?_
  refine v_iconst (v := 0) (pc := 1) hX dX8_empty_1 (by decide) ?_
  refine v_put (m1 := (sI m 323 p 0)) (pc := 2) hX dX8_empty_2 hs.k (ci := 10) (r := vwC10) rfl 3 (by decide) wd_254 rfl rfl rfl rfl ?_
  exact v_vret (pc := 5) hX hZ dX8_empty_5 (by decide) (by decide) ⟨rfl, (by rw [X8_empty_m])⟩
def X8_put_r (g : mG) (m : mM) (p : Nat) (a : Int32)  : Int32 := if 60 ≤ (gI m 323 p) then (gI m 323 p) else ((gI m 323 p) + 1)
def X8_put_m (g : mG) (m : mM) (p : Nat) (a : Int32)  : mM := if 60 ≤ (gI m 323 p) then m else ((sI (sA m (p + 1) ((gI m 323 p).toNatClampNeg) a) 323 p ((gI m 323 p) + 1)))
theorem kK_X8_put (g : mG) (m : mM) (p : Nat) (a : Int32)  : gK (X8_put_m g m p a ) = gK m := by
  unfold X8_put_m
  repeat' split
  all_goals simp only [mm]
theorem kN_X8_put (g : mG) (m : mM) (p : Nat) (a : Int32)  : gN (X8_put_m g m p a ) = gN m := by
  unfold X8_put_m
  repeat' split
  all_goals simp only [mm]
theorem kI_X8_put (g : mG) (m : mM) (p : Nat) (a : Int32)  (k a9 : Nat) (h0 : k ≠ 323) : gI (X8_put_m g m p a ) k a9 = gI m k a9 := by
  unfold X8_put_m
  repeat' split
  all_goals simp [mm, h0]
theorem kJ_X8_put (g : mG) (m : mM) (p : Nat) (a : Int32)  : gJ (X8_put_m g m p a ) = gJ m := by
  unfold X8_put_m
  repeat' split
  all_goals simp only [mm]
theorem kR_X8_put (g : mG) (m : mM) (p : Nat) (a : Int32)  : gR (X8_put_m g m p a ) = gR m := by
  unfold X8_put_m
  repeat' split
  all_goals simp only [mm]
theorem kQ_X8_put (g : mG) (m : mM) (p : Nat) (a : Int32)  : gQ (X8_put_m g m p a ) = gQ m := by
  unfold X8_put_m
  repeat' split
  all_goals simp only [mm]
theorem kL_X8_put (g : mG) (m : mM) (p : Nat) (a : Int32)  : gL (X8_put_m g m p a ) = gL m := by
  unfold X8_put_m
  repeat' split
  all_goals simp only [mm]
theorem kD_X8_put (g : mG) (m : mM) (p : Nat) (a : Int32)  : gD (X8_put_m g m p a ) = gD m := by
  unfold X8_put_m
  repeat' split
  all_goals simp only [mm]
set_option maxHeartbeats 4000000 in
set_option maxRecDepth 100000 in
theorem c_X8_put {l : Launch} {g : mG} (hO : mO l g) (m : mM) (p : Nat) (a : Int32)  (hs : SP m p) (hL : okI (gI m 323 p) 60) (hch : narrow .char (.int a) = .int a) : mT l g yX8_put (.code yX8_put cX8_put 2 (Option.some FieldType.int)) 1 20 0 0 [.ref p, .int a] m (fun r m' => r = some (.int (X8_put_r g m p a )) ∧ m' = X8_put_m g m p a ) nX := by
  refine mT_of hO (by decide) (Nat.le_of_ble_eq_true rfl) (fun x hX hZ => ?_)
  show mV g x m 0 0 0 [(0, .ref p), (1, .int a)] []
  refine v_aload_n (pc := 0) hX dX8_put_0 rfl ?_
  refine v_get (v := .int (gI m 323 p)) (pc := 1) hX dX8_put_1 hs.k (ci := 10) (r := vwC10) rfl 3 (by decide) wd_254 rfl ?_
  refine v_bipush (v := 60) (pc := 4) hX dX8_put_4 (by decide) ?_
  refine v_icmp_ge (tgt := 29) (pc := 6) hX dX8_put_6 (by decide) (fun c1 => ?_) (fun c1 => ?_)
  ·
    refine v_aload_n (pc := 29) hX dX8_put_29 rfl ?_
    refine v_get (v := .int (gI m 323 p)) (pc := 30) hX dX8_put_30 hs.k (ci := 10) (r := vwC10) rfl 3 (by decide) wd_254 rfl ?_
    exact v_iret (pc := 33) hX hZ dX8_put_33 (by decide) (by decide) ⟨(by rw [X8_put_r, if_pos c1]), (by rw [X8_put_m, if_pos c1])⟩
  ·
    refine v_aload_n (pc := 9) hX dX8_put_9 rfl ?_
    refine v_get (v := .ref (p + 1)) (pc := 10) hX dX8_put_10 hs.k (ci := 10) (r := vwC10) rfl 0 (by decide) wd_251 (fvR hs.r0) ?_
    refine v_aload_n (pc := 13) hX dX8_put_13 rfl ?_
    refine v_get (v := .int (gI m 323 p)) (pc := 14) hX dX8_put_14 hs.k (ci := 10) (r := vwC10) rfl 3 (by decide) wd_254 rfl ?_
    refine v_iload_n (pc := 17) hX dX8_put_17 rfl ?_
    refine v_cast (v := a) (pc := 18) hX dX8_put_18 hs.k1 hL.1 (okI_lt hL (by decide) (by decide) (by assumption)) (by decide) hch ?_
    refine v_aload_n (pc := 19) hX dX8_put_19 rfl ?_
    refine v_dup (pc := 20) hX dX8_put_20 rfl ?_
    refine v_get (v := .int (gI m 323 p)) (pc := 21) hX dX8_put_21 (by simp only [mm]; exact hs.k) (ci := 10) (r := vwC10) rfl 3 (by decide) wd_254 (by show Value.int _ = Value.int _; simp [mm]) ?_
    refine v_iconst (v := 1) (pc := 24) hX dX8_put_24 (by decide) ?_
    refine v_iadd (pc := 25) hX dX8_put_25 ?_
    refine v_put (m1 := (sI (sA m (p + 1) ((gI m 323 p).toNatClampNeg) a) 323 p ((gI m 323 p) + 1))) (pc := 26) hX dX8_put_26 (by simp only [mm]; exact hs.k) (ci := 10) (r := vwC10) rfl 3 (by decide) wd_254 rfl rfl rfl rfl ?_
    refine v_aload_n (pc := 29) hX dX8_put_29 rfl ?_
    refine v_get (v := .int ((gI m 323 p) + 1)) (pc := 30) hX dX8_put_30 (by simp only [mm]; exact hs.k) (ci := 10) (r := vwC10) rfl 3 (by decide) wd_254 (by show Value.int _ = Value.int _; simp [mm]) ?_
    exact v_iret (pc := 33) hX hZ dX8_put_33 (by decide) (by decide) ⟨(by rw [X8_put_r, if_neg c1]), (by rw [X8_put_m, if_neg c1])⟩
def X8_accept_r (g : mG) (m : mM) (p : Nat) (a : Int32)  : Int32 := if (gI m 323 p) ≤ (gI m 325 p) then 0 else (if (gA m (p + 1) ((gI m 325 p).toNatClampNeg)) = a then 1 else 0)
def X8_accept_m (g : mG) (m : mM) (p : Nat) (a : Int32)  : mM := if (gI m 323 p) ≤ (gI m 325 p) then m else (if (gA m (p + 1) ((gI m 325 p).toNatClampNeg)) = a then ((sI m 325 p ((gI m 325 p) + 1))) else m)
theorem kK_X8_accept (g : mG) (m : mM) (p : Nat) (a : Int32)  : gK (X8_accept_m g m p a ) = gK m := by
  unfold X8_accept_m
  repeat' split
  all_goals simp only [mm]
theorem kN_X8_accept (g : mG) (m : mM) (p : Nat) (a : Int32)  : gN (X8_accept_m g m p a ) = gN m := by
  unfold X8_accept_m
  repeat' split
  all_goals simp only [mm]
theorem kI_X8_accept (g : mG) (m : mM) (p : Nat) (a : Int32)  (k a9 : Nat) (h0 : k ≠ 325) : gI (X8_accept_m g m p a ) k a9 = gI m k a9 := by
  unfold X8_accept_m
  repeat' split
  all_goals simp [mm, h0]
theorem kJ_X8_accept (g : mG) (m : mM) (p : Nat) (a : Int32)  : gJ (X8_accept_m g m p a ) = gJ m := by
  unfold X8_accept_m
  repeat' split
  all_goals simp only [mm]
theorem kR_X8_accept (g : mG) (m : mM) (p : Nat) (a : Int32)  : gR (X8_accept_m g m p a ) = gR m := by
  unfold X8_accept_m
  repeat' split
  all_goals simp only [mm]
theorem kA_X8_accept (g : mG) (m : mM) (p : Nat) (a : Int32)  : gA (X8_accept_m g m p a ) = gA m := by
  unfold X8_accept_m
  repeat' split
  all_goals simp only [mm]
theorem kQ_X8_accept (g : mG) (m : mM) (p : Nat) (a : Int32)  : gQ (X8_accept_m g m p a ) = gQ m := by
  unfold X8_accept_m
  repeat' split
  all_goals simp only [mm]
theorem kL_X8_accept (g : mG) (m : mM) (p : Nat) (a : Int32)  : gL (X8_accept_m g m p a ) = gL m := by
  unfold X8_accept_m
  repeat' split
  all_goals simp only [mm]
theorem kD_X8_accept (g : mG) (m : mM) (p : Nat) (a : Int32)  : gD (X8_accept_m g m p a ) = gD m := by
  unfold X8_accept_m
  repeat' split
  all_goals simp only [mm]
set_option maxHeartbeats 4000000 in
set_option maxRecDepth 100000 in
theorem c_X8_accept {l : Launch} {g : mG} (hO : mO l g) (m : mM) (p : Nat) (a : Int32)  (hs : SP m p) (hL : okI (gI m 323 p) 60) (hP : okI (gI m 325 p) 60) : mT l g yX8_accept (.code yX8_accept cX8_accept 2 (Option.some FieldType.boolean)) 1 20 0 0 [.ref p, .int a] m (fun r m' => r = some (.int (X8_accept_r g m p a )) ∧ m' = X8_accept_m g m p a ) nX := by
  refine mT_of hO (by decide) (Nat.le_of_ble_eq_true rfl) (fun x hX hZ => ?_)
  show mV g x m 0 0 0 [(0, .ref p), (1, .int a)] []
  refine v_aload_n (pc := 0) hX dX8_accept_0 rfl ?_
  refine v_get (v := .int (gI m 325 p)) (pc := 1) hX dX8_accept_1 hs.k (ci := 10) (r := vwC10) rfl 5 (by decide) wd_257 rfl ?_
  refine v_aload_n (pc := 4) hX dX8_accept_4 rfl ?_
  refine v_get (v := .int (gI m 323 p)) (pc := 5) hX dX8_accept_5 hs.k (ci := 10) (r := vwC10) rfl 3 (by decide) wd_254 rfl ?_
  refine v_icmp_ge (tgt := 24) (pc := 8) hX dX8_accept_8 (by decide) (fun c1 => ?_) (fun c1 => ?_)
  ·
    refine v_iconst (v := 0) (pc := 24) hX dX8_accept_24 (by decide) ?_
    exact v_zret (pc := 25) hX hZ dX8_accept_25 rfl (by decide) (by decide) ⟨(by rw [X8_accept_r, if_pos c1]), (by rw [X8_accept_m, if_pos c1])⟩
  ·
    refine v_aload_n (pc := 11) hX dX8_accept_11 rfl ?_
    refine v_get (v := .ref (p + 1)) (pc := 12) hX dX8_accept_12 hs.k (ci := 10) (r := vwC10) rfl 0 (by decide) wd_251 (fvR hs.r0) ?_
    refine v_aload_n (pc := 15) hX dX8_accept_15 rfl ?_
    refine v_get (v := .int (gI m 325 p)) (pc := 16) hX dX8_accept_16 hs.k (ci := 10) (r := vwC10) rfl 5 (by decide) wd_257 rfl ?_
    refine v_cald (v := gA m (p + 1) ((gI m 325 p).toNatClampNeg)) (pc := 19) hX dX8_accept_19 hs.k1 hP.1 (by have h1_ := okI_lt2 hP hL (by decide) (by assumption); have h2_ := hL.2; omega) (by decide) rfl ?_
    refine v_iload_n (pc := 20) hX dX8_accept_20 rfl ?_
    refine v_icmp_eq (tgt := 26) (pc := 21) hX dX8_accept_21 (by decide) (fun c2 => ?_) (fun c2 => ?_)
    ·
      refine v_aload_n (pc := 26) hX dX8_accept_26 rfl ?_
      refine v_dup (pc := 27) hX dX8_accept_27 rfl ?_
      refine v_get (v := .int (gI m 325 p)) (pc := 28) hX dX8_accept_28 hs.k (ci := 10) (r := vwC10) rfl 5 (by decide) wd_257 rfl ?_
      refine v_iconst (v := 1) (pc := 31) hX dX8_accept_31 (by decide) ?_
      refine v_iadd (pc := 32) hX dX8_accept_32 ?_
      refine v_put (m1 := (sI m 325 p ((gI m 325 p) + 1))) (pc := 33) hX dX8_accept_33 hs.k (ci := 10) (r := vwC10) rfl 5 (by decide) wd_257 rfl rfl rfl rfl ?_
      refine v_iconst (v := 1) (pc := 36) hX dX8_accept_36 (by decide) ?_
      exact v_zret (pc := 37) hX hZ dX8_accept_37 rfl (by decide) (by decide) ⟨(by rw [X8_accept_r, if_neg c1, if_pos c2]), (by rw [X8_accept_m, if_neg c1, if_pos c2])⟩
    ·
      refine v_iconst (v := 0) (pc := 24) hX dX8_accept_24 (by decide) ?_
      exact v_zret (pc := 25) hX hZ dX8_accept_25 rfl (by decide) (by decide) ⟨(by rw [X8_accept_r, if_neg c1, if_neg c2]), (by rw [X8_accept_m, if_neg c1, if_neg c2])⟩
def X8_digitHere_r (g : mG) (m : mM) (p : Nat)  : Int32 := if (gI m 323 p) ≤ (gI m 325 p) then ((-1)) else (if (gA m (p + 1) ((gI m 325 p).toNatClampNeg)) < 48 then ((-1)) else (if (gA m (p + 1) ((gI m 325 p).toNatClampNeg)) ≤ 57 then ((gA m (p + 1) ((gI m 325 p).toNatClampNeg)) - 48) else ((-1))))

set_option maxHeartbeats 4000000 in
set_option maxRecDepth 100000 in
theorem c_X8_digitHere {l : Launch} {g : mG} (hO : mO l g) (m : mM) (p : Nat)  (hs : SP m p) (hL : okI (gI m 323 p) 60) (hP : okI (gI m 325 p) 60) : mT l g yX8_digitHere (.code yX8_digitHere cX8_digitHere 1 (Option.some FieldType.int)) 1 20 0 0 [.ref p] m (fun r m' => r = some (.int (X8_digitHere_r g m p )) ∧ m' = m) nX := by
  refine mT_of hO (by decide) (Nat.le_of_ble_eq_true rfl) (fun x hX hZ => ?_)
  show mV g x m 0 0 0 [(0, .ref p)] []
  refine v_aload_n (pc := 0) hX dX8_digitHere_0 rfl ?_
  refine v_get (v := .int (gI m 325 p)) (pc := 1) hX dX8_digitHere_1 hs.k (ci := 10) (r := vwC10) rfl 5 (by decide) wd_257 rfl ?_
  refine v_aload_n (pc := 4) hX dX8_digitHere_4 rfl ?_
  refine v_get (v := .int (gI m 323 p)) (pc := 5) hX dX8_digitHere_5 hs.k (ci := 10) (r := vwC10) rfl 3 (by decide) wd_254 rfl ?_
  refine v_icmp_ge (tgt := 39) (pc := 8) hX dX8_digitHere_8 (by decide) (fun c1 => ?_) (fun c1 => ?_)
  ·
    refine v_iconst (v := (-1)) (pc := 39) hX dX8_digitHere_39 (by decide) ?_
    exact v_iret (pc := 40) hX hZ dX8_digitHere_40 (by decide) (by decide) ⟨(by rw [X8_digitHere_r, if_pos c1]), rfl⟩
  ·
    refine v_aload_n (pc := 11) hX dX8_digitHere_11 rfl ?_
    refine v_get (v := .ref (p + 1)) (pc := 12) hX dX8_digitHere_12 hs.k (ci := 10) (r := vwC10) rfl 0 (by decide) wd_251 (fvR hs.r0) ?_
    refine v_aload_n (pc := 15) hX dX8_digitHere_15 rfl ?_
    refine v_get (v := .int (gI m 325 p)) (pc := 16) hX dX8_digitHere_16 hs.k (ci := 10) (r := vwC10) rfl 5 (by decide) wd_257 rfl ?_
    refine v_cald (v := gA m (p + 1) ((gI m 325 p).toNatClampNeg)) (pc := 19) hX dX8_digitHere_19 hs.k1 hP.1 (by have h1_ := okI_lt2 hP hL (by decide) (by assumption); have h2_ := hL.2; omega) (by decide) rfl ?_
    refine v_bipush (v := 48) (pc := 20) hX dX8_digitHere_20 (by decide) ?_
    refine v_icmp_lt (tgt := 39) (pc := 22) hX dX8_digitHere_22 (by decide) (fun c2 => ?_) (fun c2 => ?_)
    ·
      refine v_iconst (v := (-1)) (pc := 39) hX dX8_digitHere_39 (by decide) ?_
      exact v_iret (pc := 40) hX hZ dX8_digitHere_40 (by decide) (by decide) ⟨(by rw [X8_digitHere_r, if_neg c1, if_pos c2]), rfl⟩
    ·
      refine v_aload_n (pc := 25) hX dX8_digitHere_25 rfl ?_
      refine v_get (v := .ref (p + 1)) (pc := 26) hX dX8_digitHere_26 hs.k (ci := 10) (r := vwC10) rfl 0 (by decide) wd_251 (fvR hs.r0) ?_
      refine v_aload_n (pc := 29) hX dX8_digitHere_29 rfl ?_
      refine v_get (v := .int (gI m 325 p)) (pc := 30) hX dX8_digitHere_30 hs.k (ci := 10) (r := vwC10) rfl 5 (by decide) wd_257 rfl ?_
      refine v_cald (v := gA m (p + 1) ((gI m 325 p).toNatClampNeg)) (pc := 33) hX dX8_digitHere_33 hs.k1 hP.1 (by have h1_ := okI_lt2 hP hL (by decide) (by assumption); have h2_ := hL.2; omega) (by decide) rfl ?_
      refine v_bipush (v := 57) (pc := 34) hX dX8_digitHere_34 (by decide) ?_
      refine v_icmp_le (tgt := 41) (pc := 36) hX dX8_digitHere_36 (by decide) (fun c3 => ?_) (fun c3 => ?_)
      ·
        refine v_aload_n (pc := 41) hX dX8_digitHere_41 rfl ?_
        refine v_get (v := .ref (p + 1)) (pc := 42) hX dX8_digitHere_42 hs.k (ci := 10) (r := vwC10) rfl 0 (by decide) wd_251 (fvR hs.r0) ?_
        refine v_aload_n (pc := 45) hX dX8_digitHere_45 rfl ?_
        refine v_get (v := .int (gI m 325 p)) (pc := 46) hX dX8_digitHere_46 hs.k (ci := 10) (r := vwC10) rfl 5 (by decide) wd_257 rfl ?_
        refine v_cald (v := gA m (p + 1) ((gI m 325 p).toNatClampNeg)) (pc := 49) hX dX8_digitHere_49 hs.k1 hP.1 (by have h1_ := okI_lt2 hP hL (by decide) (by assumption); have h2_ := hL.2; omega) (by decide) rfl ?_
        refine v_bipush (v := 48) (pc := 50) hX dX8_digitHere_50 (by decide) ?_
        refine v_isub (pc := 52) hX dX8_digitHere_52 ?_
        exact v_iret (pc := 53) hX hZ dX8_digitHere_53 (by decide) (by decide) ⟨(by rw [X8_digitHere_r, if_neg c1, if_neg c2, if_pos c3]), rfl⟩
      ·
        refine v_iconst (v := (-1)) (pc := 39) hX dX8_digitHere_39 (by decide) ?_
        exact v_iret (pc := 40) hX hZ dX8_digitHere_40 (by decide) (by decide) ⟨(by rw [X8_digitHere_r, if_neg c1, if_neg c2, if_neg c3]), rfl⟩
theorem acc_P {g : mG} {m : mM} {p : Nat} {a : Int32} (hP : okI (gI m 325 p) 60) (hL : okI (gI m 323 p) 60) : okI (gI (X8_accept_m g m p a) 325 p) 60 := by
  unfold X8_accept_m
  split
  · exact hP
  · rename_i c
    split
    · simp [mm]
      exact okI_up hP hL (by decide) c
    · exact hP
theorem dh_P {g : mG} {m : mM} {p : Nat} (h : ¬ X8_digitHere_r g m p = -1) : ¬ gI m 323 p ≤ gI m 325 p := by
  intro c
  apply h
  unfold X8_digitHere_r
  rw [if_pos c]
def X8_readKind_r (g : mG) (m : mM) (p : Nat) (a : Int32)  : Int32 := if (X8_accept_r g m p 98 ) = 0 then (if (X8_accept_r g ((X8_accept_m g m p 98 )) p 110 ) = 0 then (if (X8_accept_r g ((X8_accept_m g ((X8_accept_m g m p 98 )) p 110 )) p 119 ) = 0 then 0 else 1) else 1) else 1
def X8_readKind_m (g : mG) (m : mM) (p : Nat) (a : Int32)  : mM := if (X8_accept_r g m p 98 ) = 0 then (if (X8_accept_r g ((X8_accept_m g m p 98 )) p 110 ) = 0 then (if (X8_accept_r g ((X8_accept_m g ((X8_accept_m g m p 98 )) p 110 )) p 119 ) = 0 then ((X8_accept_m g ((X8_accept_m g ((X8_accept_m g m p 98 )) p 110 )) p 119 )) else ((sA (X8_accept_m g ((X8_accept_m g ((X8_accept_m g m p 98 )) p 110 )) p 119 ) (p + 4 + (gI m 324 p).toNatClampNeg) a.toNatClampNeg 119))) else ((sA (X8_accept_m g ((X8_accept_m g m p 98 )) p 110 ) (p + 4 + (gI m 324 p).toNatClampNeg) a.toNatClampNeg 110))) else ((sA (X8_accept_m g m p 98 ) (p + 4 + (gI m 324 p).toNatClampNeg) a.toNatClampNeg 98))
theorem kK_X8_readKind (g : mG) (m : mM) (p : Nat) (a : Int32)  : gK (X8_readKind_m g m p a ) = gK m := by
  unfold X8_readKind_m
  repeat' split
  all_goals simp only [mm, kK_X8_accept]
theorem kN_X8_readKind (g : mG) (m : mM) (p : Nat) (a : Int32)  : gN (X8_readKind_m g m p a ) = gN m := by
  unfold X8_readKind_m
  repeat' split
  all_goals simp only [mm, kN_X8_accept]
theorem kI_X8_readKind (g : mG) (m : mM) (p : Nat) (a : Int32)  (k a9 : Nat) (h0 : k ≠ 325) : gI (X8_readKind_m g m p a ) k a9 = gI m k a9 := by
  unfold X8_readKind_m
  repeat' split
  all_goals simp [mm, kI_X8_accept, h0]
theorem kJ_X8_readKind (g : mG) (m : mM) (p : Nat) (a : Int32)  : gJ (X8_readKind_m g m p a ) = gJ m := by
  unfold X8_readKind_m
  repeat' split
  all_goals simp only [mm, kJ_X8_accept]
theorem kR_X8_readKind (g : mG) (m : mM) (p : Nat) (a : Int32)  : gR (X8_readKind_m g m p a ) = gR m := by
  unfold X8_readKind_m
  repeat' split
  all_goals simp only [mm, kR_X8_accept]
theorem kQ_X8_readKind (g : mG) (m : mM) (p : Nat) (a : Int32)  : gQ (X8_readKind_m g m p a ) = gQ m := by
  unfold X8_readKind_m
  repeat' split
  all_goals simp only [mm, kQ_X8_accept]
theorem kL_X8_readKind (g : mG) (m : mM) (p : Nat) (a : Int32)  : gL (X8_readKind_m g m p a ) = gL m := by
  unfold X8_readKind_m
  repeat' split
  all_goals simp only [mm, kL_X8_accept]
theorem kD_X8_readKind (g : mG) (m : mM) (p : Nat) (a : Int32)  : gD (X8_readKind_m g m p a ) = gD m := by
  unfold X8_readKind_m
  repeat' split
  all_goals simp only [mm, kD_X8_accept]
set_option maxHeartbeats 4000000 in
set_option maxRecDepth 100000 in
theorem c_X8_readKind {l : Launch} {g : mG} (hO : mO l g) (m : mM) (p : Nat) (a : Int32)  (hs : SP m p) (hL : okI (gI m 323 p) 60) (hP : okI (gI m 325 p) 60) (hC : okI (gI m 324 p) 11) (hI : okI a 3) : mT l g yX8_readKind (.code yX8_readKind cX8_readKind 2 (Option.some FieldType.boolean)) 2 41 0 0 [.ref p, .int a] m (fun r m' => r = some (.int (X8_readKind_r g m p a )) ∧ m' = X8_readKind_m g m p a ) nX := by
  refine mT_of hO (by decide) (Nat.le_of_ble_eq_true rfl) (fun x hX hZ => ?_)
  show mV g x m 0 0 0 [(0, .ref p), (1, .int a)] []
  refine v_aload_n (pc := 0) hX dX8_readKind_0 rfl ?_
  refine v_bipush (v := 98) (pc := 1) hX dX8_readKind_1 (by decide) ?_
  refine v_callV (z := yX8_accept) (pc := 3) hX dX8_readKind_3 (c_X8_accept hO m p 98  hs hL hP) hs.k rfl wd_1377 wd_1379 wp_12 wd_10 wd_1380 ⟨by decide, by decide, (by decide +kernel : (parseMethodDescriptor yX8_accept.desc).map (fun d => d.parameters.length) = some 1)⟩ rfl (Nat.le_of_ble_eq_true rfl) ⟨⟨by decide, by decide⟩, by decide, by decide⟩ (fun E m9 h9 => h9.elim) (fun r9 m9 h9 => ?_)
  obtain ⟨rfl, h8⟩ := h9
  replace h8 := h8.symm
  subst h8
  show mV g x _ _ _ _ _ [.int (X8_accept_r g m p 98 )]
  refine v_if_eq (tgt := 25) (pc := 6) hX dX8_readKind_6 (by decide) (fun c1 => ?_) (fun c1 => ?_)
  ·
    refine v_aload_n (pc := 25) hX dX8_readKind_25 rfl ?_
    refine v_bipush (v := 110) (pc := 26) hX dX8_readKind_26 (by decide) ?_
    refine v_callV (z := yX8_accept) (pc := 28) hX dX8_readKind_28 (c_X8_accept hO ((X8_accept_m g m p 98 )) p 110  (hs.to (by simp only [mm, kK_X8_accept]) (fun k hk a => by simp [mm, kR_X8_accept, hk]) (fun i => by simp only [mm, kQ_X8_accept])) (by simp [mm, kI_X8_accept]; exact hL) (acc_P hP hL)) (by simp only [mm, kK_X8_accept]; exact hs.k) rfl wd_1377 wd_1379 wp_12 wd_10 wd_1380 ⟨by decide, by decide, (by decide +kernel : (parseMethodDescriptor yX8_accept.desc).map (fun d => d.parameters.length) = some 1)⟩ rfl (Nat.le_of_ble_eq_true rfl) ⟨⟨by decide, by decide⟩, by decide, by decide⟩ (fun E m9 h9 => h9.elim) (fun r9 m9 h9 => ?_)
    obtain ⟨rfl, h8⟩ := h9
    replace h8 := h8.symm
    subst h8
    show mV g x _ _ _ _ _ [.int (X8_accept_r g ((X8_accept_m g m p 98 )) p 110 )]
    refine v_if_eq (tgt := 50) (pc := 31) hX dX8_readKind_31 (by decide) (fun c2 => ?_) (fun c2 => ?_)
    ·
      refine v_aload_n (pc := 50) hX dX8_readKind_50 rfl ?_
      refine v_bipush (v := 119) (pc := 51) hX dX8_readKind_51 (by decide) ?_
      refine v_callV (z := yX8_accept) (pc := 53) hX dX8_readKind_53 (c_X8_accept hO ((X8_accept_m g ((X8_accept_m g m p 98 )) p 110 )) p 119  (hs.to (by simp only [mm, kK_X8_accept]) (fun k hk a => by simp [mm, kR_X8_accept, hk]) (fun i => by simp only [mm, kQ_X8_accept])) (by simp [mm, kI_X8_accept]; exact hL) (acc_P (acc_P hP hL) (by simp [mm, kI_X8_accept]; exact hL))) (by simp only [mm, kK_X8_accept]; exact hs.k) rfl wd_1377 wd_1379 wp_12 wd_10 wd_1380 ⟨by decide, by decide, (by decide +kernel : (parseMethodDescriptor yX8_accept.desc).map (fun d => d.parameters.length) = some 1)⟩ rfl (Nat.le_of_ble_eq_true rfl) ⟨⟨by decide, by decide⟩, by decide, by decide⟩ (fun E m9 h9 => h9.elim) (fun r9 m9 h9 => ?_)
      obtain ⟨rfl, h8⟩ := h9
      replace h8 := h8.symm
      subst h8
      show mV g x _ _ _ _ _ [.int (X8_accept_r g ((X8_accept_m g ((X8_accept_m g m p 98 )) p 110 )) p 119 )]
      refine v_if_eq (tgt := 75) (pc := 56) hX dX8_readKind_56 (by decide) (fun c3 => ?_) (fun c3 => ?_)
      ·
        refine v_iconst (v := 0) (pc := 75) hX dX8_readKind_75 (by decide) ?_
        exact v_zret (pc := 76) hX hZ dX8_readKind_76 rfl (by decide) (by decide) ⟨(by rw [X8_readKind_r, if_pos c1, if_pos c2, if_pos c3]), (by rw [X8_readKind_m, if_pos c1, if_pos c2, if_pos c3])⟩
      ·
        refine v_aload_n (pc := 59) hX dX8_readKind_59 rfl ?_
        refine v_get (v := .ref (p + 3)) (pc := 60) hX dX8_readKind_60 (by simp only [mm, kK_X8_accept]; exact hs.k) (ci := 10) (r := vwC10) rfl 2 (by decide) wd_253 (fvR (by simp [mm, kR_X8_accept, hs.r2])) ?_
        refine v_aload_n (pc := 63) hX dX8_readKind_63 rfl ?_
        refine v_get (v := .int (gI (X8_accept_m g ((X8_accept_m g ((X8_accept_m g m p 98 )) p 110 )) p 119 ) 324 p)) (pc := 64) hX dX8_readKind_64 (by simp only [mm, kK_X8_accept]; exact hs.k) (ci := 10) (r := vwC10) rfl 4 (by decide) wd_255 rfl ?_
        refine v_aaldAR (q := p + 4 + (gI m 324 p).toNatClampNeg) (j := (gI m 324 p).toNatClampNeg) (pc := 67) hX dX8_readKind_67 (by simp only [mm, kK_X8_accept]; exact hs.k3) (by simp [mm, kI_X8_accept]; exact hC.1) (by have := hC.2; omega) (by decide) (by simp only [mm, kQ_X8_accept]; exact (hs.qr (i := (gI m 324 p).toNatClampNeg) (by have := hC.2; omega))) ?_
        refine v_iload_n (pc := 68) hX dX8_readKind_68 rfl ?_
        refine v_bipush (v := 119) (pc := 69) hX dX8_readKind_69 (by decide) ?_
        refine v_iast (pc := 71) hX dX8_readKind_71 (by simp only [mm, kK_X8_accept]; exact (hs.kr (i := (gI m 324 p).toNatClampNeg) (by have := hC.2; omega))) hI.1 (by have := hI.2; omega) (by decide) ?_
        refine v_goto (tgt := 77) (pc := 72) hX dX8_readKind_72 (by decide) ?_
        refine v_iconst (v := 1) (pc := 77) hX dX8_readKind_77 (by decide) ?_
        exact v_zret (pc := 78) hX hZ dX8_readKind_78 rfl (by decide) (by decide) ⟨(by rw [X8_readKind_r, if_pos c1, if_pos c2, if_neg c3]), (by rw [X8_readKind_m, if_pos c1, if_pos c2, if_neg c3])⟩
    ·
      refine v_aload_n (pc := 34) hX dX8_readKind_34 rfl ?_
      refine v_get (v := .ref (p + 3)) (pc := 35) hX dX8_readKind_35 (by simp only [mm, kK_X8_accept]; exact hs.k) (ci := 10) (r := vwC10) rfl 2 (by decide) wd_253 (fvR (by simp [mm, kR_X8_accept, hs.r2])) ?_
      refine v_aload_n (pc := 38) hX dX8_readKind_38 rfl ?_
      refine v_get (v := .int (gI (X8_accept_m g ((X8_accept_m g m p 98 )) p 110 ) 324 p)) (pc := 39) hX dX8_readKind_39 (by simp only [mm, kK_X8_accept]; exact hs.k) (ci := 10) (r := vwC10) rfl 4 (by decide) wd_255 rfl ?_
      refine v_aaldAR (q := p + 4 + (gI m 324 p).toNatClampNeg) (j := (gI m 324 p).toNatClampNeg) (pc := 42) hX dX8_readKind_42 (by simp only [mm, kK_X8_accept]; exact hs.k3) (by simp [mm, kI_X8_accept]; exact hC.1) (by have := hC.2; omega) (by decide) (by simp only [mm, kQ_X8_accept]; exact (hs.qr (i := (gI m 324 p).toNatClampNeg) (by have := hC.2; omega))) ?_
      refine v_iload_n (pc := 43) hX dX8_readKind_43 rfl ?_
      refine v_bipush (v := 110) (pc := 44) hX dX8_readKind_44 (by decide) ?_
      refine v_iast (pc := 46) hX dX8_readKind_46 (by simp only [mm, kK_X8_accept]; exact (hs.kr (i := (gI m 324 p).toNatClampNeg) (by have := hC.2; omega))) hI.1 (by have := hI.2; omega) (by decide) ?_
      refine v_goto (tgt := 77) (pc := 47) hX dX8_readKind_47 (by decide) ?_
      refine v_iconst (v := 1) (pc := 77) hX dX8_readKind_77 (by decide) ?_
      exact v_zret (pc := 78) hX hZ dX8_readKind_78 rfl (by decide) (by decide) ⟨(by rw [X8_readKind_r, if_pos c1, if_neg c2]), (by rw [X8_readKind_m, if_pos c1, if_neg c2])⟩
  ·
    refine v_aload_n (pc := 9) hX dX8_readKind_9 rfl ?_
    refine v_get (v := .ref (p + 3)) (pc := 10) hX dX8_readKind_10 (by simp only [mm, kK_X8_accept]; exact hs.k) (ci := 10) (r := vwC10) rfl 2 (by decide) wd_253 (fvR (by simp [mm, kR_X8_accept, hs.r2])) ?_
    refine v_aload_n (pc := 13) hX dX8_readKind_13 rfl ?_
    refine v_get (v := .int (gI (X8_accept_m g m p 98 ) 324 p)) (pc := 14) hX dX8_readKind_14 (by simp only [mm, kK_X8_accept]; exact hs.k) (ci := 10) (r := vwC10) rfl 4 (by decide) wd_255 rfl ?_
    refine v_aaldAR (q := p + 4 + (gI m 324 p).toNatClampNeg) (j := (gI m 324 p).toNatClampNeg) (pc := 17) hX dX8_readKind_17 (by simp only [mm, kK_X8_accept]; exact hs.k3) (by simp [mm, kI_X8_accept]; exact hC.1) (by have := hC.2; omega) (by decide) (by simp only [mm, kQ_X8_accept]; exact (hs.qr (i := (gI m 324 p).toNatClampNeg) (by have := hC.2; omega))) ?_
    refine v_iload_n (pc := 18) hX dX8_readKind_18 rfl ?_
    refine v_bipush (v := 98) (pc := 19) hX dX8_readKind_19 (by decide) ?_
    refine v_iast (pc := 21) hX dX8_readKind_21 (by simp only [mm, kK_X8_accept]; exact (hs.kr (i := (gI m 324 p).toNatClampNeg) (by have := hC.2; omega))) hI.1 (by have := hI.2; omega) (by decide) ?_
    refine v_goto (tgt := 77) (pc := 22) hX dX8_readKind_22 (by decide) ?_
    refine v_iconst (v := 1) (pc := 77) hX dX8_readKind_77 (by decide) ?_
    exact v_zret (pc := 78) hX hZ dX8_readKind_78 rfl (by decide) (by decide) ⟨(by rw [X8_readKind_r, if_neg c1]), (by rw [X8_readKind_m, if_neg c1])⟩
theorem rk_n {g : mG} {m : mM} {p : Nat} {a : Int32} : narrow .boolean (.int (X8_readKind_r g m p a)) = .int (X8_readKind_r g m p a) := by
  unfold X8_readKind_r
  repeat' split
  all_goals rfl
def X8_readArgument_r (g : mG) (m : mM) (p : Nat) (c : Int32) (a : Int32)  : Int32 := if c = 107 then (X8_readKind_r g m p a ) else (if (X8_digitHere_r g m p ) = ((-1)) then 0 else (if c = 110 then (if (X8_digitHere_r g ((sI m 325 p ((gI m 325 p) + 1))) p ) = ((-1)) then 1 else 1) else 1))
def X8_readArgument_m (g : mG) (m : mM) (p : Nat) (c : Int32) (a : Int32)  : mM := if c = 107 then ((X8_readKind_m g m p a )) else (if (X8_digitHere_r g m p ) = ((-1)) then m else (if c = 110 then (if (X8_digitHere_r g ((sI m 325 p ((gI m 325 p) + 1))) p ) = ((-1)) then ((sA (sI m 325 p ((gI m 325 p) + 1)) (p + 4 + (gI m 324 p).toNatClampNeg) a.toNatClampNeg (X8_digitHere_r g m p ))) else ((sA (sI (sI m 325 p ((gI m 325 p) + 1)) 325 p (((gI m 325 p) + 1) + 1)) (p + 4 + (gI m 324 p).toNatClampNeg) a.toNatClampNeg ((10 * (X8_digitHere_r g m p )) + (X8_digitHere_r g ((sI m 325 p ((gI m 325 p) + 1))) p ))))) else ((sA (sI m 325 p ((gI m 325 p) + 1)) (p + 4 + (gI m 324 p).toNatClampNeg) a.toNatClampNeg (X8_digitHere_r g m p )))))
theorem kK_X8_readArgument (g : mG) (m : mM) (p : Nat) (c : Int32) (a : Int32)  : gK (X8_readArgument_m g m p c a ) = gK m := by
  unfold X8_readArgument_m
  repeat' split
  all_goals simp only [mm, kK_X8_readKind]
theorem kN_X8_readArgument (g : mG) (m : mM) (p : Nat) (c : Int32) (a : Int32)  : gN (X8_readArgument_m g m p c a ) = gN m := by
  unfold X8_readArgument_m
  repeat' split
  all_goals simp only [mm, kN_X8_readKind]
theorem kI_X8_readArgument (g : mG) (m : mM) (p : Nat) (c : Int32) (a : Int32)  (k a9 : Nat) (h0 : k ≠ 325) : gI (X8_readArgument_m g m p c a ) k a9 = gI m k a9 := by
  unfold X8_readArgument_m
  repeat' split
  all_goals simp [mm, kI_X8_readKind, h0]
theorem kJ_X8_readArgument (g : mG) (m : mM) (p : Nat) (c : Int32) (a : Int32)  : gJ (X8_readArgument_m g m p c a ) = gJ m := by
  unfold X8_readArgument_m
  repeat' split
  all_goals simp only [mm, kJ_X8_readKind]
theorem kR_X8_readArgument (g : mG) (m : mM) (p : Nat) (c : Int32) (a : Int32)  : gR (X8_readArgument_m g m p c a ) = gR m := by
  unfold X8_readArgument_m
  repeat' split
  all_goals simp only [mm, kR_X8_readKind]
theorem kQ_X8_readArgument (g : mG) (m : mM) (p : Nat) (c : Int32) (a : Int32)  : gQ (X8_readArgument_m g m p c a ) = gQ m := by
  unfold X8_readArgument_m
  repeat' split
  all_goals simp only [mm, kQ_X8_readKind]
theorem kL_X8_readArgument (g : mG) (m : mM) (p : Nat) (c : Int32) (a : Int32)  : gL (X8_readArgument_m g m p c a ) = gL m := by
  unfold X8_readArgument_m
  repeat' split
  all_goals simp only [mm, kL_X8_readKind]
theorem kD_X8_readArgument (g : mG) (m : mM) (p : Nat) (c : Int32) (a : Int32)  : gD (X8_readArgument_m g m p c a ) = gD m := by
  unfold X8_readArgument_m
  repeat' split
  all_goals simp only [mm, kD_X8_readKind]
set_option maxHeartbeats 4000000 in
set_option maxRecDepth 100000 in
theorem c_X8_readArgument {l : Launch} {g : mG} (hO : mO l g) (m : mM) (p : Nat) (c : Int32) (a : Int32)  (hs : SP m p) (hL : okI (gI m 323 p) 60) (hP : okI (gI m 325 p) 60) (hC : okI (gI m 324 p) 11) (hI : okI a 3) : mT l g yX8_readArgument (.code yX8_readArgument cX8_readArgument 5 (Option.some FieldType.boolean)) 3 62 0 0 [.ref p, .int c, .int a] m (fun r m' => r = some (.int (X8_readArgument_r g m p c a )) ∧ m' = X8_readArgument_m g m p c a ) nX := by
  refine mT_of hO (by decide) (Nat.le_of_ble_eq_true rfl) (fun x hX hZ => ?_)
  show mV g x m 0 0 0 [(0, .ref p), (1, .int c), (2, .int a)] []
  refine v_iload_n (pc := 0) hX dX8_readArgument_0 rfl ?_
  refine v_bipush (v := 107) (pc := 1) hX dX8_readArgument_1 (by decide) ?_
  refine v_icmp_ne (tgt := 12) (pc := 3) hX dX8_readArgument_3 (by decide) (fun c1 => ?_) (fun c1 => ?_)
  ·
    refine v_aload_n (pc := 12) hX dX8_readArgument_12 rfl ?_
    refine v_callV (z := yX8_digitHere) (pc := 13) hX dX8_readArgument_13 (c_X8_digitHere hO m p  hs hL hP) hs.k rfl wd_1389 wd_1391 wp_15 wd_10 wd_1392 ⟨by decide, by decide, (by decide +kernel : (parseMethodDescriptor yX8_digitHere.desc).map (fun d => d.parameters.length) = some 0)⟩ rfl (Nat.le_of_ble_eq_true rfl) ⟨⟨by decide, by decide⟩, by decide, by decide⟩ (fun E m9 h9 => h9.elim) (fun r9 m9 h9 => ?_)
    obtain ⟨rfl, h8⟩ := h9
    replace h8 := h8.symm
    subst h8
    show mV g x _ _ _ _ _ [.int (X8_digitHere_r g m p )]
    refine v_istore_n (pc := 16) hX dX8_readArgument_16 (by decide) rfl ?_
    refine v_iload_n (pc := 17) hX dX8_readArgument_17 rfl ?_
    refine v_iconst (v := (-1)) (pc := 18) hX dX8_readArgument_18 (by decide) ?_
    refine v_icmp_ne (tgt := 24) (pc := 19) hX dX8_readArgument_19 (by decide) (fun c2 => ?_) (fun c2 => ?_)
    ·
      refine v_aload_n (pc := 24) hX dX8_readArgument_24 rfl ?_
      refine v_dup (pc := 25) hX dX8_readArgument_25 rfl ?_
      refine v_get (v := .int (gI m 325 p)) (pc := 26) hX dX8_readArgument_26 hs.k (ci := 10) (r := vwC10) rfl 5 (by decide) wd_257 rfl ?_
      refine v_iconst (v := 1) (pc := 29) hX dX8_readArgument_29 (by decide) ?_
      refine v_iadd (pc := 30) hX dX8_readArgument_30 ?_
      refine v_put (m1 := (sI m 325 p ((gI m 325 p) + 1))) (pc := 31) hX dX8_readArgument_31 hs.k (ci := 10) (r := vwC10) rfl 5 (by decide) wd_257 rfl rfl rfl rfl ?_
      refine v_aload_n (pc := 34) hX dX8_readArgument_34 rfl ?_
      refine v_callV (z := yX8_digitHere) (pc := 35) hX dX8_readArgument_35 (c_X8_digitHere hO ((sI m 325 p ((gI m 325 p) + 1))) p  (hs.to (by simp only [mm]) (fun k hk a => by simp [mm, hk]) (fun i => by simp only [mm])) (by simp [mm]; exact hL) (by simp [mm]; exact okI_up hP hL (by decide) (dh_P (by assumption)))) (by simp only [mm]; exact hs.k) rfl wd_1389 wd_1391 wp_15 wd_10 wd_1392 ⟨by decide, by decide, (by decide +kernel : (parseMethodDescriptor yX8_digitHere.desc).map (fun d => d.parameters.length) = some 0)⟩ rfl (Nat.le_of_ble_eq_true rfl) ⟨⟨by decide, by decide⟩, by decide, by decide⟩ (fun E m9 h9 => h9.elim) (fun r9 m9 h9 => ?_)
      obtain ⟨rfl, h8⟩ := h9
      replace h8 := h8.symm
      subst h8
      show mV g x _ _ _ _ _ [.int (X8_digitHere_r g ((sI m 325 p ((gI m 325 p) + 1))) p )]
      refine v_istore (pc := 38) hX dX8_readArgument_38 (by decide) rfl ?_
      refine v_iload_n (pc := 40) hX dX8_readArgument_40 rfl ?_
      refine v_bipush (v := 110) (pc := 41) hX dX8_readArgument_41 (by decide) ?_
      refine v_icmp_ne (tgt := 70) (pc := 43) hX dX8_readArgument_43 (by decide) (fun c3 => ?_) (fun c3 => ?_)
      ·
        refine v_aload_n (pc := 70) hX dX8_readArgument_70 rfl ?_
        refine v_get (v := .ref (p + 3)) (pc := 71) hX dX8_readArgument_71 (by simp only [mm]; exact hs.k) (ci := 10) (r := vwC10) rfl 2 (by decide) wd_253 (fvR (by simp [mm, hs.r2])) ?_
        refine v_aload_n (pc := 74) hX dX8_readArgument_74 rfl ?_
        refine v_get (v := .int (gI m 324 p)) (pc := 75) hX dX8_readArgument_75 (by simp only [mm]; exact hs.k) (ci := 10) (r := vwC10) rfl 4 (by decide) wd_255 (by show Value.int _ = Value.int _; simp [mm]) ?_
        refine v_aaldAR (q := p + 4 + (gI m 324 p).toNatClampNeg) (j := (gI m 324 p).toNatClampNeg) (pc := 78) hX dX8_readArgument_78 (by simp only [mm]; exact hs.k3) hC.1 (by have := hC.2; omega) (by decide) (by simp only [mm]; exact (hs.qr (i := (gI m 324 p).toNatClampNeg) (by have := hC.2; omega))) ?_
        refine v_iload_n (pc := 79) hX dX8_readArgument_79 rfl ?_
        refine v_iload_n (pc := 80) hX dX8_readArgument_80 rfl ?_
        refine v_iast (pc := 81) hX dX8_readArgument_81 (by simp only [mm]; exact (hs.kr (i := (gI m 324 p).toNatClampNeg) (by have := hC.2; omega))) hI.1 (by have := hI.2; omega) (by decide) ?_
        refine v_iconst (v := 1) (pc := 82) hX dX8_readArgument_82 (by decide) ?_
        exact v_zret (pc := 83) hX hZ dX8_readArgument_83 rfl (by decide) (by decide) ⟨(by rw [X8_readArgument_r, if_neg c1, if_neg c2, if_neg c3]), (by rw [X8_readArgument_m, if_neg c1, if_neg c2, if_neg c3])⟩
      ·
        refine v_iload (pc := 46) hX dX8_readArgument_46 rfl ?_
        refine v_iconst (v := (-1)) (pc := 48) hX dX8_readArgument_48 (by decide) ?_
        refine v_icmp_eq (tgt := 70) (pc := 49) hX dX8_readArgument_49 (by decide) (fun c4 => ?_) (fun c4 => ?_)
        ·
          refine v_aload_n (pc := 70) hX dX8_readArgument_70 rfl ?_
          refine v_get (v := .ref (p + 3)) (pc := 71) hX dX8_readArgument_71 (by simp only [mm]; exact hs.k) (ci := 10) (r := vwC10) rfl 2 (by decide) wd_253 (fvR (by simp [mm, hs.r2])) ?_
          refine v_aload_n (pc := 74) hX dX8_readArgument_74 rfl ?_
          refine v_get (v := .int (gI m 324 p)) (pc := 75) hX dX8_readArgument_75 (by simp only [mm]; exact hs.k) (ci := 10) (r := vwC10) rfl 4 (by decide) wd_255 (by show Value.int _ = Value.int _; simp [mm]) ?_
          refine v_aaldAR (q := p + 4 + (gI m 324 p).toNatClampNeg) (j := (gI m 324 p).toNatClampNeg) (pc := 78) hX dX8_readArgument_78 (by simp only [mm]; exact hs.k3) hC.1 (by have := hC.2; omega) (by decide) (by simp only [mm]; exact (hs.qr (i := (gI m 324 p).toNatClampNeg) (by have := hC.2; omega))) ?_
          refine v_iload_n (pc := 79) hX dX8_readArgument_79 rfl ?_
          refine v_iload_n (pc := 80) hX dX8_readArgument_80 rfl ?_
          refine v_iast (pc := 81) hX dX8_readArgument_81 (by simp only [mm]; exact (hs.kr (i := (gI m 324 p).toNatClampNeg) (by have := hC.2; omega))) hI.1 (by have := hI.2; omega) (by decide) ?_
          refine v_iconst (v := 1) (pc := 82) hX dX8_readArgument_82 (by decide) ?_
          exact v_zret (pc := 83) hX hZ dX8_readArgument_83 rfl (by decide) (by decide) ⟨(by rw [X8_readArgument_r, if_neg c1, if_neg c2, if_pos c3, if_pos c4]), (by rw [X8_readArgument_m, if_neg c1, if_neg c2, if_pos c3, if_pos c4])⟩
        ·
          refine v_bipush (v := 10) (pc := 52) hX dX8_readArgument_52 (by decide) ?_
          refine v_iload_n (pc := 54) hX dX8_readArgument_54 rfl ?_
          refine v_imul (pc := 55) hX dX8_readArgument_55 ?_
          refine v_iload (pc := 56) hX dX8_readArgument_56 rfl ?_
          refine v_iadd (pc := 58) hX dX8_readArgument_58 ?_
          refine v_istore_n (pc := 59) hX dX8_readArgument_59 (by decide) rfl ?_
          refine v_aload_n (pc := 60) hX dX8_readArgument_60 rfl ?_
          refine v_dup (pc := 61) hX dX8_readArgument_61 rfl ?_
          refine v_get (v := .int ((gI m 325 p) + 1)) (pc := 62) hX dX8_readArgument_62 (by simp only [mm]; exact hs.k) (ci := 10) (r := vwC10) rfl 5 (by decide) wd_257 (by show Value.int _ = Value.int _; simp [mm]) ?_
          refine v_iconst (v := 1) (pc := 65) hX dX8_readArgument_65 (by decide) ?_
          refine v_iadd (pc := 66) hX dX8_readArgument_66 ?_
          refine v_put (m1 := (sI (sI m 325 p ((gI m 325 p) + 1)) 325 p (((gI m 325 p) + 1) + 1))) (pc := 67) hX dX8_readArgument_67 (by simp only [mm]; exact hs.k) (ci := 10) (r := vwC10) rfl 5 (by decide) wd_257 rfl rfl rfl rfl ?_
          refine v_aload_n (pc := 70) hX dX8_readArgument_70 rfl ?_
          refine v_get (v := .ref (p + 3)) (pc := 71) hX dX8_readArgument_71 (by simp only [mm]; exact hs.k) (ci := 10) (r := vwC10) rfl 2 (by decide) wd_253 (fvR (by simp [mm, hs.r2])) ?_
          refine v_aload_n (pc := 74) hX dX8_readArgument_74 rfl ?_
          refine v_get (v := .int (gI m 324 p)) (pc := 75) hX dX8_readArgument_75 (by simp only [mm]; exact hs.k) (ci := 10) (r := vwC10) rfl 4 (by decide) wd_255 (by show Value.int _ = Value.int _; simp [mm]) ?_
          refine v_aaldAR (q := p + 4 + (gI m 324 p).toNatClampNeg) (j := (gI m 324 p).toNatClampNeg) (pc := 78) hX dX8_readArgument_78 (by simp only [mm]; exact hs.k3) hC.1 (by have := hC.2; omega) (by decide) (by simp only [mm]; exact (hs.qr (i := (gI m 324 p).toNatClampNeg) (by have := hC.2; omega))) ?_
          refine v_iload_n (pc := 79) hX dX8_readArgument_79 rfl ?_
          refine v_iload_n (pc := 80) hX dX8_readArgument_80 rfl ?_
          refine v_iast (pc := 81) hX dX8_readArgument_81 (by simp only [mm]; exact (hs.kr (i := (gI m 324 p).toNatClampNeg) (by have := hC.2; omega))) hI.1 (by have := hI.2; omega) (by decide) ?_
          refine v_iconst (v := 1) (pc := 82) hX dX8_readArgument_82 (by decide) ?_
          exact v_zret (pc := 83) hX hZ dX8_readArgument_83 rfl (by decide) (by decide) ⟨(by rw [X8_readArgument_r, if_neg c1, if_neg c2, if_pos c3, if_neg c4]), (by rw [X8_readArgument_m, if_neg c1, if_neg c2, if_pos c3, if_neg c4])⟩
    ·
      refine v_iconst (v := 0) (pc := 22) hX dX8_readArgument_22 (by decide) ?_
      exact v_zret (pc := 23) hX hZ dX8_readArgument_23 rfl (by decide) (by decide) ⟨(by rw [X8_readArgument_r, if_neg c1, if_pos c2]), (by rw [X8_readArgument_m, if_neg c1, if_pos c2])⟩
  ·
    refine v_aload_n (pc := 6) hX dX8_readArgument_6 rfl ?_
    refine v_iload_n (pc := 7) hX dX8_readArgument_7 rfl ?_
    refine v_callV (z := yX8_readKind) (pc := 8) hX dX8_readArgument_8 (c_X8_readKind hO m p a  hs hL hP hC hI) hs.k rfl wd_1385 wd_1387 wp_14 wd_10 wd_1388 ⟨by decide, by decide, (by decide +kernel : (parseMethodDescriptor yX8_readKind.desc).map (fun d => d.parameters.length) = some 1)⟩ rfl (Nat.le_of_ble_eq_true rfl) ⟨⟨by decide, by decide⟩, by decide, by decide⟩ (fun E m9 h9 => h9.elim) (fun r9 m9 h9 => ?_)
    obtain ⟨rfl, h8⟩ := h9
    replace h8 := h8.symm
    subst h8
    show mV g x _ _ _ _ _ [.int (X8_readKind_r g m p a )]
    exact v_zret (pc := 11) hX hZ dX8_readArgument_11 rk_n (by decide) (by decide) ⟨(by rw [X8_readArgument_r, if_pos c1]), (by rw [X8_readArgument_m, if_pos c1])⟩
