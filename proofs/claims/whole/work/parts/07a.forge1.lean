/-! A FORGE in the memory: it lies at f, its parts behind it: the furnace f+1, the rows f+2 (pieces), f+3 (hammers), 8 pieces from f+4 on, 4 hammers from f+12 on -/
def pa (m : mM) (f i : Nat) : Nat := (gQ m (f + 2) i).getD 0
def SF (m : mM) (f : Nat) : Prop := gK m f = some (.inl 5) ∧ gR m 160 f = some (f + 1) ∧ gR m 161 f = some (f + 2) ∧ gR m 162 f = some (f + 3) ∧ gK m (f + 1) = some (.inl 6) ∧ gK m (f + 2) = some (.inr (8, 8)) ∧ gK m (f + 3) = some (.inr (7, 4)) ∧ (∀ i, i < 8 → gK m (f + 4 + i) = some (.inl 9)) ∧ (∀ i, i < 4 → gK m (f + 12 + i) = some (.inl 7)) ∧ (∀ i, i < 4 → gQ m (f + 3) i = some (f + 12 + i)) ∧ (∀ i, i < 8 → gQ m (f + 2) i = some (pa m f i) ∧ f + 4 ≤ pa m f i ∧ pa m f i < f + 12) ∧ (∀ i j, i < 8 → j < 8 → pa m f i = pa m f j → i = j)
section
variable {m m1 : mM} {f i j : Nat}
theorem SF.k (h : SF m f) : gK m f = some (.inl 5) := h.1
theorem SF.r0 (h : SF m f) : gR m 160 f = some (f + 1) := h.2.1
theorem SF.r1 (h : SF m f) : gR m 161 f = some (f + 2) := h.2.2.1
theorem SF.r2 (h : SF m f) : gR m 162 f = some (f + 3) := h.2.2.2.1
theorem SF.k1 (h : SF m f) : gK m (f + 1) = some (.inl 6) := h.2.2.2.2.1
theorem SF.k2 (h : SF m f) : gK m (f + 2) = some (.inr (8, 8)) := h.2.2.2.2.2.1
theorem SF.k3 (h : SF m f) : gK m (f + 3) = some (.inr (7, 4)) := h.2.2.2.2.2.2.1
theorem SF.kh (h : SF m f) (hi : i < 4) : gK m (f + 12 + i) = some (.inl 7) := h.2.2.2.2.2.2.2.2.1 i hi
theorem SF.qh (h : SF m f) (hi : i < 4) : gQ m (f + 3) i = some (f + 12 + i) := h.2.2.2.2.2.2.2.2.2.1 i hi
theorem SF.qp (h : SF m f) (hi : i < 8) : gQ m (f + 2) i = some (pa m f i) := (h.2.2.2.2.2.2.2.2.2.2.1 i hi).1
theorem SF.lo (h : SF m f) (hi : i < 8) : f + 4 ≤ pa m f i := (h.2.2.2.2.2.2.2.2.2.2.1 i hi).2.1
theorem SF.hi (h : SF m f) (hi : i < 8) : pa m f i < f + 12 := (h.2.2.2.2.2.2.2.2.2.2.1 i hi).2.2
theorem SF.inj (h : SF m f) (hi : i < 8) (hj : j < 8) (e : pa m f i = pa m f j) : i = j := h.2.2.2.2.2.2.2.2.2.2.2 i j hi hj e
theorem SF.kp (h : SF m f) (hi : i < 8) : gK m (pa m f i) = some (.inl 9) := by
  have h1 := h.lo hi
  have h2 := h.hi hi
  have h3 := h.2.2.2.2.2.2.2.1 (pa m f i - (f + 4)) (by omega)
  rw [show f + 4 + (pa m f i - (f + 4)) = pa m f i by omega] at h3
  exact h3
/-- another memory with the same shape -/
theorem SF.to (h : SF m f) (hk : gK m1 = gK m) (h0 : gR m1 160 f = gR m 160 f) (h1 : gR m1 161 f = gR m 161 f) (h2 : gR m1 162 f = gR m 162 f) (hq : gQ m1 = gQ m) : SF m1 f := by
  unfold SF pa at h ⊢
  rw [hk, h0, h1, h2, hq]
  exact h
end

def X3_find_l1 (g : mG) (m : mM) (f : Nat) (a : Int32) (N : Nat) : Nat → Nat → Option Nat
  | 0, j => none
  | n + 1, j => if (gI m 288 (pa m f j)) = a then (some (pa m f j)) else (X3_find_l1 g m f a N n (j + 1)  )
set_option maxHeartbeats 4000000 in
set_option maxRecDepth 100000 in
theorem lp_X3_find_l1 {l : Launch} {g : mG} {x : mCx} (hO : mO l g) {m : mM} (f : Nat) (a : Int32) (N : Nat) (hs : SF m f) (hN : gI m 163 f = nI N) (hN8 : N ≤ 8) {pst : Option Value → mM → Prop} {XX : String → mM → Prop} (hX : mX l g x cX3_find yX3_find { frames := 1, cells := 0, slots := 0, locals := 20 } 3) (hZ : mZ g x (Option.some (FieldType.object "BirdForge$Piece")) [] pst XX 0 0) : ∀ (n j : Nat)   (hj : j + n = N) (hp : pst (some (va_rf (X3_find_l1 g m f a N n j  ))) m), mV g x m 0 0 2 [(0, .ref f), (1, .int a), (2, .int (nI j))] [] := by
  intro n
  induction n with
  | zero =>
    intro j    hj hp
    refine v_iload_n (pc := 2) hX dX3_find_2 rfl ?_
    refine v_aload_n (pc := 3) hX dX3_find_3 rfl ?_
    refine v_get (v := .int (nI N)) (pc := 4) hX dX3_find_4 hs.k (ci := 5) (r := vwC5) rfl 3 (by decide) wd_155 (congrArg Value.int hN) ?_
    refine v_icmp_ge (tgt := 36) (pc := 7) hX dX3_find_7 (by decide) (fun c1 => ?_) (fun c1 => ?_)
    ·
      refine v_aconst_null (pc := 36) hX dX3_find_36 ?_
      exact v_aret (v := none) (pc := 37) hX hZ dX3_find_37 (Or.inl ⟨_, rfl⟩) (by decide) (by decide) (by rw [X3_find_l1] at hp; exact hp)
    · exact absurd (nI_le (by omega) (by omega)) c1
  | succ n ih =>
    intro j    hj hp
    refine v_iload_n (pc := 2) hX dX3_find_2 rfl ?_
    refine v_aload_n (pc := 3) hX dX3_find_3 rfl ?_
    refine v_get (v := .int (nI N)) (pc := 4) hX dX3_find_4 hs.k (ci := 5) (r := vwC5) rfl 3 (by decide) wd_155 (congrArg Value.int hN) ?_
    refine v_icmp_ge (tgt := 36) (pc := 7) hX dX3_find_7 (by decide) (fun c1 => ?_) (fun c1 => ?_)
    · exact absurd c1 (nI_ge (by omega) (by omega))
    ·
      refine v_aload_n (pc := 10) hX dX3_find_10 rfl ?_
      refine v_get (v := .ref (f + 2)) (pc := 11) hX dX3_find_11 hs.k (ci := 5) (r := vwC5) rfl 1 (by decide) wd_152 (fvR hs.r1) ?_
      refine v_iload_n (pc := 14) hX dX3_find_14 rfl ?_
      refine v_aaldR (q := pa m f j) (pc := 15) hX dX3_find_15 hs.k2 (by decide) (by decide) rfl (by omega) (by decide) (hs.qp (by omega)) ?_
      refine v_getN (v := .int (gI m 288 (pa m f j))) (pc := 16) hX dX3_find_16 (hs.kp (i := j) (by omega)) (ci := 9) (r := vwC9) rfl 0 (by decide) wd_91 rfl ?_
      refine v_iload_n (pc := 19) hX dX3_find_19 rfl ?_
      refine v_icmp_ne (tgt := 30) (pc := 20) hX dX3_find_20 (by decide) (fun c2 => ?_) (fun c2 => ?_)
      ·
        refine v_iinc (w := nI (j + 1)) (pc := 30) hX dX3_find_30 rfl (nI_1 _) (by decide) rfl ?_
        refine v_goto (tgt := 2) (pc := 33) hX dX3_find_33 (by decide) ?_
        refine mV_sub (lv' := [(0, .ref f), (1, .int a), (2, .int (nI (j + 1)))]) ⟨rfl, rfl, rfl, trivial⟩ ?_
        exact ih (j + 1)    (by omega) (by rw [X3_find_l1, if_neg c2] at hp; exact hp)
      ·
        refine v_aload_n (pc := 23) hX dX3_find_23 rfl ?_
        refine v_get (v := .ref (f + 2)) (pc := 24) hX dX3_find_24 hs.k (ci := 5) (r := vwC5) rfl 1 (by decide) wd_152 (fvR hs.r1) ?_
        refine v_iload_n (pc := 27) hX dX3_find_27 rfl ?_
        refine v_aaldR (q := pa m f j) (pc := 28) hX dX3_find_28 hs.k2 (by decide) (by decide) rfl (by omega) (by decide) (hs.qp (by omega)) ?_
        exact v_aret (v := some (pa m f j)) (pc := 29) hX hZ dX3_find_29 (Or.inl ⟨_, rfl⟩) (by decide) (by decide) (by rw [X3_find_l1, if_pos c2] at hp; exact hp)

def X3_find_r (g : mG) (m : mM) (f : Nat) (a : Int32) (N : Nat) : Option Nat := X3_find_l1 g m f a N N 0  

set_option maxHeartbeats 4000000 in
set_option maxRecDepth 100000 in
theorem c_X3_find {l : Launch} {g : mG} (hO : mO l g) (m : mM) (f : Nat) (a : Int32) (N : Nat) (hs : SF m f) (hN : gI m 163 f = nI N) (hN8 : N ≤ 8) : mT l g yX3_find (.code yX3_find cX3_find 3 (Option.some (FieldType.object "BirdForge$Piece"))) 1 20 0 0 [.ref f, .int a] m (fun r m' => r = some (va_rf (X3_find_r g m f a N)) ∧ m' = m) nX := by
  refine mT_of hO (by decide) (Nat.le_of_ble_eq_true rfl) (fun x hX hZ => ?_)
  show mV g x m 0 0 0 [(0, .ref f), (1, .int a)] []
  refine v_iconst (v := 0) (pc := 0) hX dX3_find_0 (by decide) ?_
  refine v_istore_n (pc := 1) hX dX3_find_1 (by decide) rfl ?_
  refine mV_sub (lv' := [(0, .ref f), (1, .int a), (2, .int (nI 0))]) ⟨rfl, rfl, rfl, trivial⟩ ?_
  exact lp_X3_find_l1 hO f a N hs hN hN8 hX hZ N 0    (by omega) ⟨by rw [X3_find_r], rfl⟩
def X3_countInFurnace_l1 (g : mG) (m : mM) (f : Nat) (N : Nat) : Nat → Nat → Int32 → Int32
  | 0, j, s => s
  | n + 1, j, s => if (gI m 293 (pa m f j)) = 0 then (X3_countInFurnace_l1 g m f N n (j + 1) s ) else (X3_countInFurnace_l1 g m f N n (j + 1) (s + 1) )
set_option maxHeartbeats 4000000 in
set_option maxRecDepth 100000 in
theorem lp_X3_countInFurnace_l1 {l : Launch} {g : mG} {x : mCx} (hO : mO l g) {m : mM} (f : Nat) (N : Nat) (hs : SF m f) (hN : gI m 163 f = nI N) (hN8 : N ≤ 8) {pst : Option Value → mM → Prop} {XX : String → mM → Prop} (hX : mX l g x cX3_countInFurnace yX3_countInFurnace { frames := 1, cells := 0, slots := 0, locals := 20 } 3) (hZ : mZ g x (Option.some FieldType.int) [] pst XX 0 0) : ∀ (n j : Nat) (s : Int32)  (hj : j + n = N) (hp : pst (some (.int (X3_countInFurnace_l1 g m f N n j s ))) m), mV g x m 0 0 4 [(0, .ref f), (1, .int s), (2, .int (nI j))] [] := by
  intro n
  induction n with
  | zero =>
    intro j s   hj hp
    refine v_iload_n (pc := 4) hX dX3_countInFurnace_4 rfl ?_
    refine v_aload_n (pc := 5) hX dX3_countInFurnace_5 rfl ?_
    refine v_get (v := .int (nI N)) (pc := 6) hX dX3_countInFurnace_6 hs.k (ci := 5) (r := vwC5) rfl 3 (by decide) wd_155 (congrArg Value.int hN) ?_
    refine v_icmp_ge (tgt := 33) (pc := 9) hX dX3_countInFurnace_9 (by decide) (fun c1 => ?_) (fun c1 => ?_)
    ·
      refine v_iload_n (pc := 33) hX dX3_countInFurnace_33 rfl ?_
      exact v_iret (pc := 34) hX hZ dX3_countInFurnace_34 (by decide) (by decide) (by rw [X3_countInFurnace_l1] at hp; exact hp)
    · exact absurd (nI_le (by omega) (by omega)) c1
  | succ n ih =>
    intro j s   hj hp
    refine v_iload_n (pc := 4) hX dX3_countInFurnace_4 rfl ?_
    refine v_aload_n (pc := 5) hX dX3_countInFurnace_5 rfl ?_
    refine v_get (v := .int (nI N)) (pc := 6) hX dX3_countInFurnace_6 hs.k (ci := 5) (r := vwC5) rfl 3 (by decide) wd_155 (congrArg Value.int hN) ?_
    refine v_icmp_ge (tgt := 33) (pc := 9) hX dX3_countInFurnace_9 (by decide) (fun c1 => ?_) (fun c1 => ?_)
    · exact absurd c1 (nI_ge (by omega) (by omega))
    ·
      refine v_aload_n (pc := 12) hX dX3_countInFurnace_12 rfl ?_
      refine v_get (v := .ref (f + 2)) (pc := 13) hX dX3_countInFurnace_13 hs.k (ci := 5) (r := vwC5) rfl 1 (by decide) wd_152 (fvR hs.r1) ?_
      refine v_iload_n (pc := 16) hX dX3_countInFurnace_16 rfl ?_
      refine v_aaldR (q := pa m f j) (pc := 17) hX dX3_countInFurnace_17 hs.k2 (by decide) (by decide) rfl (by omega) (by decide) (hs.qp (by omega)) ?_
      refine v_getN (v := .int (gI m 293 (pa m f j))) (pc := 18) hX dX3_countInFurnace_18 (hs.kp (i := j) (by omega)) (ci := 9) (r := vwC9) rfl 5 (by decide) wd_108 rfl ?_
      refine v_if_eq (tgt := 27) (pc := 21) hX dX3_countInFurnace_21 (by decide) (fun c2 => ?_) (fun c2 => ?_)
      ·
        refine v_iinc (w := nI (j + 1)) (pc := 27) hX dX3_countInFurnace_27 rfl (nI_1 _) (by decide) rfl ?_
        refine v_goto (tgt := 4) (pc := 30) hX dX3_countInFurnace_30 (by decide) ?_
        refine mV_sub (lv' := [(0, .ref f), (1, .int s), (2, .int (nI (j + 1)))]) ⟨rfl, rfl, rfl, trivial⟩ ?_
        exact ih (j + 1) s   (by omega) (by rw [X3_countInFurnace_l1, if_pos c2] at hp; exact hp)
      ·
        refine v_iinc (w := s + 1) (pc := 24) hX dX3_countInFurnace_24 rfl rfl (by decide) rfl ?_
        refine v_iinc (w := nI (j + 1)) (pc := 27) hX dX3_countInFurnace_27 rfl (nI_1 _) (by decide) rfl ?_
        refine v_goto (tgt := 4) (pc := 30) hX dX3_countInFurnace_30 (by decide) ?_
        refine mV_sub (lv' := [(0, .ref f), (1, .int (s + 1)), (2, .int (nI (j + 1)))]) ⟨rfl, rfl, rfl, trivial⟩ ?_
        exact ih (j + 1) (s + 1)   (by omega) (by rw [X3_countInFurnace_l1, if_neg c2] at hp; exact hp)

def X3_countInFurnace_r (g : mG) (m : mM) (f : Nat) (N : Nat) : Int32 := X3_countInFurnace_l1 g m f N N 0 0 

set_option maxHeartbeats 4000000 in
set_option maxRecDepth 100000 in
theorem c_X3_countInFurnace {l : Launch} {g : mG} (hO : mO l g) (m : mM) (f : Nat) (N : Nat) (hs : SF m f) (hN : gI m 163 f = nI N) (hN8 : N ≤ 8) : mT l g yX3_countInFurnace (.code yX3_countInFurnace cX3_countInFurnace 3 (Option.some FieldType.int)) 1 20 0 0 [.ref f] m (fun r m' => r = some (.int (X3_countInFurnace_r g m f N)) ∧ m' = m) nX := by
  refine mT_of hO (by decide) (Nat.le_of_ble_eq_true rfl) (fun x hX hZ => ?_)
  show mV g x m 0 0 0 [(0, .ref f)] []
  refine v_iconst (v := 0) (pc := 0) hX dX3_countInFurnace_0 (by decide) ?_
  refine v_istore_n (pc := 1) hX dX3_countInFurnace_1 (by decide) rfl ?_
  refine v_iconst (v := 0) (pc := 2) hX dX3_countInFurnace_2 (by decide) ?_
  refine v_istore_n (pc := 3) hX dX3_countInFurnace_3 (by decide) rfl ?_
  refine mV_sub (lv' := [(0, .ref f), (1, .int 0), (2, .int (nI 0))]) ⟨rfl, rfl, rfl, trivial⟩ ?_
  exact lp_X3_countInFurnace_l1 hO f N hs hN hN8 hX hZ N 0 0   (by omega) ⟨by rw [X3_countInFurnace_r], rfl⟩
def X3_sumOfHardnesses_l1 (g : mG) (m : mM) (f : Nat) (N : Nat) : Nat → Nat → Int32 → Int32
  | 0, j, s => s
  | n + 1, j, s => X3_sumOfHardnesses_l1 g m f N n (j + 1) (s + (gI m 292 (pa m f j))) 
set_option maxHeartbeats 4000000 in
set_option maxRecDepth 100000 in
theorem lp_X3_sumOfHardnesses_l1 {l : Launch} {g : mG} {x : mCx} (hO : mO l g) {m : mM} (f : Nat) (N : Nat) (hs : SF m f) (hN : gI m 163 f = nI N) (hN8 : N ≤ 8) {pst : Option Value → mM → Prop} {XX : String → mM → Prop} (hX : mX l g x cX3_sumOfHardnesses yX3_sumOfHardnesses { frames := 1, cells := 0, slots := 0, locals := 20 } 3) (hZ : mZ g x (Option.some FieldType.int) [] pst XX 0 0) : ∀ (n j : Nat) (s : Int32)  (hj : j + n = N) (hp : pst (some (.int (X3_sumOfHardnesses_l1 g m f N n j s ))) m), mV g x m 0 0 4 [(0, .ref f), (1, .int s), (2, .int (nI j))] [] := by
  intro n
  induction n with
  | zero =>
    intro j s   hj hp
    refine v_iload_n (pc := 4) hX dX3_sumOfHardnesses_4 rfl ?_
    refine v_aload_n (pc := 5) hX dX3_sumOfHardnesses_5 rfl ?_
    refine v_get (v := .int (nI N)) (pc := 6) hX dX3_sumOfHardnesses_6 hs.k (ci := 5) (r := vwC5) rfl 3 (by decide) wd_155 (congrArg Value.int hN) ?_
    refine v_icmp_ge (tgt := 30) (pc := 9) hX dX3_sumOfHardnesses_9 (by decide) (fun c1 => ?_) (fun c1 => ?_)
    ·
      refine v_iload_n (pc := 30) hX dX3_sumOfHardnesses_30 rfl ?_
      exact v_iret (pc := 31) hX hZ dX3_sumOfHardnesses_31 (by decide) (by decide) (by rw [X3_sumOfHardnesses_l1] at hp; exact hp)
    · exact absurd (nI_le (by omega) (by omega)) c1
  | succ n ih =>
    intro j s   hj hp
    refine v_iload_n (pc := 4) hX dX3_sumOfHardnesses_4 rfl ?_
    refine v_aload_n (pc := 5) hX dX3_sumOfHardnesses_5 rfl ?_
    refine v_get (v := .int (nI N)) (pc := 6) hX dX3_sumOfHardnesses_6 hs.k (ci := 5) (r := vwC5) rfl 3 (by decide) wd_155 (congrArg Value.int hN) ?_
    refine v_icmp_ge (tgt := 30) (pc := 9) hX dX3_sumOfHardnesses_9 (by decide) (fun c1 => ?_) (fun c1 => ?_)
    · exact absurd c1 (nI_ge (by omega) (by omega))
    ·
      refine v_iload_n (pc := 12) hX dX3_sumOfHardnesses_12 rfl ?_
      refine v_aload_n (pc := 13) hX dX3_sumOfHardnesses_13 rfl ?_
      refine v_get (v := .ref (f + 2)) (pc := 14) hX dX3_sumOfHardnesses_14 hs.k (ci := 5) (r := vwC5) rfl 1 (by decide) wd_152 (fvR hs.r1) ?_
      refine v_iload_n (pc := 17) hX dX3_sumOfHardnesses_17 rfl ?_
      refine v_aaldR (q := pa m f j) (pc := 18) hX dX3_sumOfHardnesses_18 hs.k2 (by decide) (by decide) rfl (by omega) (by decide) (hs.qp (by omega)) ?_
      refine v_getN (v := .int (gI m 292 (pa m f j))) (pc := 19) hX dX3_sumOfHardnesses_19 (hs.kp (i := j) (by omega)) (ci := 9) (r := vwC9) rfl 4 (by decide) wd_105 rfl ?_
      refine v_iadd (pc := 22) hX dX3_sumOfHardnesses_22 ?_
      refine v_istore_n (pc := 23) hX dX3_sumOfHardnesses_23 (by decide) rfl ?_
      refine v_iinc (w := nI (j + 1)) (pc := 24) hX dX3_sumOfHardnesses_24 rfl (nI_1 _) (by decide) rfl ?_
      refine v_goto (tgt := 4) (pc := 27) hX dX3_sumOfHardnesses_27 (by decide) ?_
      refine mV_sub (lv' := [(0, .ref f), (1, .int (s + (gI m 292 (pa m f j)))), (2, .int (nI (j + 1)))]) ⟨rfl, rfl, rfl, trivial⟩ ?_
      exact ih (j + 1) (s + (gI m 292 (pa m f j)))   (by omega) (by rw [X3_sumOfHardnesses_l1] at hp; exact hp)

def X3_sumOfHardnesses_r (g : mG) (m : mM) (f : Nat) (N : Nat) : Int32 := X3_sumOfHardnesses_l1 g m f N N 0 0 

set_option maxHeartbeats 4000000 in
set_option maxRecDepth 100000 in
theorem c_X3_sumOfHardnesses {l : Launch} {g : mG} (hO : mO l g) (m : mM) (f : Nat) (N : Nat) (hs : SF m f) (hN : gI m 163 f = nI N) (hN8 : N ≤ 8) : mT l g yX3_sumOfHardnesses (.code yX3_sumOfHardnesses cX3_sumOfHardnesses 3 (Option.some FieldType.int)) 1 20 0 0 [.ref f] m (fun r m' => r = some (.int (X3_sumOfHardnesses_r g m f N)) ∧ m' = m) nX := by
  refine mT_of hO (by decide) (Nat.le_of_ble_eq_true rfl) (fun x hX hZ => ?_)
  show mV g x m 0 0 0 [(0, .ref f)] []
  refine v_iconst (v := 0) (pc := 0) hX dX3_sumOfHardnesses_0 (by decide) ?_
  refine v_istore_n (pc := 1) hX dX3_sumOfHardnesses_1 (by decide) rfl ?_
  refine v_iconst (v := 0) (pc := 2) hX dX3_sumOfHardnesses_2 (by decide) ?_
  refine v_istore_n (pc := 3) hX dX3_sumOfHardnesses_3 (by decide) rfl ?_
  refine mV_sub (lv' := [(0, .ref f), (1, .int 0), (2, .int (nI 0))]) ⟨rfl, rfl, rfl, trivial⟩ ?_
  exact lp_X3_sumOfHardnesses_l1 hO f N hs hN hN8 hX hZ N 0 0   (by omega) ⟨by rw [X3_sumOfHardnesses_r], rfl⟩
